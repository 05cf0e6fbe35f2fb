def cs_bhas_r (x : Int32) (g : Nat → Nat → Int32) : Int32 := (if x < 0 then (0) else (if (g 1 13) ≤ x then (0) else (if (3) ≤ x then (0) else (1))))
set_option maxRecDepth 100000 in
set_option maxHeartbeats 8000000 in
theorem cs_bhas {l : Launch} {D : va_G} {cA : FieldType → ClassId} {z0 : Nat} {SK : Nat → Nat} {SV : Nat → Int32} {ad : Nat → Nat} (hE : aD (fun q => z0 ≤ q) ad 26) (g : Nat → Nat → Int32) (σ τ : Nat → Nat) (hσ : pmK σ τ) (x : Int32) : bF l D cA z0 SK SV ad shB 26 yX0_has cX0_has 2 (some .boolean) 0 [.ref 14, .int x] (layB g σ τ) (some (.int (cs_bhas_r x g))) (layB g σ τ) := by
  refine bCT_intro (tb := tb_X0_has) (own := RX0) hE pn_X0 rfl tk_X0_has rfl (Nat.le_of_ble_eq_true rfl) ?_
  intro p e s0 m args below meth c C hr
  refine bv_blk C frk_X0 csk_X0 1 1 rfl (L1 := ([(0, .ref 14), (1, .int x)] : Lc)) (st1 := ([.int x] : List Value)) (w1 := (layB g σ τ)) (by rfl) ?_
  refine bv_if_lt (j := 11) C rfl rfl (fun c1 => ?_) (fun c1 => ?_)
  · refine bv_blk C frk_X0 csk_X0 1 12 rfl (L1 := ([(0, .ref 14), (1, .int x)] : Lc)) (st1 := ([.int (0)] : List Value)) (w1 := (layB g σ τ)) (by rfl) ?_
    exact bv_iret C rfl hr rfl ⟨by (exact congrArg (fun x => some (Value.int x)) (((if_pos c1).trans rfl)).symm), by (rfl)⟩
  · refine bv_blk C frk_X0 csk_X0 3 5 rfl (L1 := ([(0, .ref 14), (1, .int x)] : Lc)) (st1 := ([.int (g 1 13), .int x] : List Value)) (w1 := (layB g σ τ)) (by rfl) ?_
    refine bv_icmp_ge (j := 11) C rfl rfl (fun c2 => ?_) (fun c2 => ?_)
    · refine bv_blk C frk_X0 csk_X0 1 12 rfl (L1 := ([(0, .ref 14), (1, .int x)] : Lc)) (st1 := ([.int (0)] : List Value)) (w1 := (layB g σ τ)) (by rfl) ?_
      exact bv_iret C rfl hr rfl ⟨by (exact congrArg (fun x => some (Value.int x)) (((if_neg c1).trans ((if_pos c2).trans rfl))).symm), by (rfl)⟩
    · refine bv_blk C frk_X0 csk_X0 2 8 rfl (L1 := ([(0, .ref 14), (1, .int x)] : Lc)) (st1 := ([.int (3), .int x] : List Value)) (w1 := (layB g σ τ)) (by rfl) ?_
      refine bv_icmp_ge (j := 11) C rfl rfl (fun c3 => ?_) (fun c3 => ?_)
      · refine bv_blk C frk_X0 csk_X0 1 12 rfl (L1 := ([(0, .ref 14), (1, .int x)] : Lc)) (st1 := ([.int (0)] : List Value)) (w1 := (layB g σ τ)) (by rfl) ?_
        exact bv_iret C rfl hr rfl ⟨by (exact congrArg (fun x => some (Value.int x)) (((if_neg c1).trans ((if_neg c2).trans ((if_pos c3).trans rfl)))).symm), by (rfl)⟩
      · refine bv_blk C frk_X0 csk_X0 1 10 rfl (L1 := ([(0, .ref 14), (1, .int x)] : Lc)) (st1 := ([.int (1)] : List Value)) (w1 := (layB g σ τ)) (by rfl) ?_
        refine bv_goto (j := 12) C rfl rfl ?_
        exact bv_iret C rfl hr rfl ⟨by (exact congrArg (fun x => some (Value.int x)) (((if_neg c1).trans ((if_neg c2).trans ((if_neg c3).trans rfl)))).symm), by (rfl)⟩
def cs_badd_w (b : Nat) (x y z : Int32) (g : Nat → Nat → Int32) : Nat → Nat → Int32 := (ug (ug (ug (ug g 1 (103 + 3 * b) x) 1 (103 + 3 * b + 1) y) 1 (103 + 3 * b + 2) z) 1 13 (((ug (ug (ug g 1 (103 + 3 * b) x) 1 (103 + 3 * b + 1) y) 1 (103 + 3 * b + 2) z) 1 13) + (1)))
set_option maxRecDepth 100000 in
set_option maxHeartbeats 8000000 in
theorem cs_badd {l : Launch} {D : va_G} {cA : FieldType → ClassId} {z0 : Nat} {SK : Nat → Nat} {SV : Nat → Int32} {ad : Nat → Nat} (hE : aD (fun q => z0 ≤ q) ad 26) (g : Nat → Nat → Int32) (σ τ : Nat → Nat) (hσ : pmK σ τ) (b : Nat) (x y z : Int32) (hb : g 1 13 = nI b) (hb3 : b < 3) : bF l D cA z0 SK SV ad shB 26 yX0_add cX0_add 4 none 0 [.ref 14, .int x, .int y, .int z] (layB g σ τ) none (layB (cs_badd_w b x y z g) σ τ) := by
  refine bCT_intro (tb := tb_X0_add) (own := RX0) hE pn_X0 rfl tk_X0_add rfl (Nat.le_of_ble_eq_true rfl) ?_
  intro p e s0 m args below meth c C hr
  refine bv_blk C frk_X0 csk_X0 2 2 rfl (L1 := ([(0, .ref 14), (1, .int x), (2, .int y), (3, .int z)] : Lc)) (st1 := ([.int (g 1 13)] : List Value)) (w1 := (layB g σ τ)) (by rfl) ?_
  refine bv_if_lt (j := 7) C rfl rfl (fun h => absurd h (by rw [show (g 1 13) = nI b from hb]; exact (nI_nlt (a := b) (b := 0) (by omega) (by omega)))) (fun _ => ?_)
  refine bv_blk C frk_X0 csk_X0 3 6 rfl (L1 := ([(0, .ref 14), (1, .int x), (2, .int y), (3, .int z)] : Lc)) (st1 := ([.int (3), .int (g 1 13)] : List Value)) (w1 := (layB g σ τ)) (by rfl) ?_
  refine bv_icmp_lt (j := 8) C rfl rfl (fun _ => ?_) (fun h => absurd (by rw [show (g 1 13) = nI b from hb]; exact (nI_lt (a := b) (b := 3) (by omega) (by omega))) h)
  refine bv_blk C frk_X0 csk_X0 5 13 rfl (L1 := ([(0, .ref 14), (1, .int x), (2, .int y), (3, .int z)] : Lc)) (st1 := ([.int x, .int (g 1 13), .ref 15] : List Value)) (w1 := (layB g σ τ)) (by rfl) ?_
  refine bv_iast C rfl rfl (by decide) (j := b) (by exact hb) (by first | decide | omega) (by decide) ?_
  refine bv_w (lb_up (o := 15) (k := b) (a := 1) (b := (103 + 3 * b)) hσ (by decide) (show b < 3 by first | decide | omega) (by rfl) (by rfl)) ?_
  refine bv_blk C frk_X0 csk_X0 5 19 rfl (L1 := ([(0, .ref 14), (1, .int x), (2, .int y), (3, .int z)] : Lc)) (st1 := ([.int y, .int ((ug g 1 (103 + 3 * b) x) 1 13), .ref 16] : List Value)) (w1 := (layB (ug g 1 (103 + 3 * b) x) σ τ)) (by rfl) ?_
  refine bv_iast C rfl rfl (by decide) (j := b) (by exact ((ug_ne (by omega)).trans (hb))) (by first | decide | omega) (by decide) ?_
  refine bv_w (lb_up (o := 16) (k := b) (a := 1) (b := (103 + 3 * b + 1)) hσ (by decide) (show b < 3 by first | decide | omega) (by rfl) (by rfl)) ?_
  refine bv_blk C frk_X0 csk_X0 5 25 rfl (L1 := ([(0, .ref 14), (1, .int x), (2, .int y), (3, .int z)] : Lc)) (st1 := ([.int z, .int ((ug (ug g 1 (103 + 3 * b) x) 1 (103 + 3 * b + 1) y) 1 13), .ref 17] : List Value)) (w1 := (layB (ug (ug g 1 (103 + 3 * b) x) 1 (103 + 3 * b + 1) y) σ τ)) (by rfl) ?_
  refine bv_iast C rfl rfl (by decide) (j := b) (by exact ((ug_ne (by omega)).trans ((ug_ne (by omega)).trans (hb)))) (by first | decide | omega) (by decide) ?_
  refine bv_w (lb_up (o := 17) (k := b) (a := 1) (b := (103 + 3 * b + 2)) hσ (by decide) (show b < 3 by first | decide | omega) (by rfl) (by rfl)) ?_
  refine bv_blk C frk_X0 csk_X0 6 32 rfl (L1 := ([(0, .ref 14), (1, .int x), (2, .int y), (3, .int z)] : Lc)) (st1 := ([] : List Value)) (w1 := up2 (layB (ug (ug (ug g 1 (103 + 3 * b) x) 1 (103 + 3 * b + 1) y) 1 (103 + 3 * b + 2) z) σ τ) 14 3 (.int (((ug (ug (ug g 1 (103 + 3 * b) x) 1 (103 + 3 * b + 1) y) 1 (103 + 3 * b + 2) z) 1 13) + (1)))) (by rfl) ?_
  refine bv_w (lb_up (o := 14) (k := 3) (a := 1) (b := 13) hσ (by decide) (by decide) (by rfl) (by rfl)) ?_
  exact bv_vret C rfl hr ⟨by (rfl), by (rfl)⟩
def cs_ehas_r (x : Int32) (g : Nat → Nat → Int32) : Int32 := (if x < 0 then (0) else (if (g 1 14) ≤ x then (0) else (if (20) < (g 1 14) then (0) else (1))))
set_option maxRecDepth 100000 in
set_option maxHeartbeats 8000000 in
theorem cs_ehas {l : Launch} {D : va_G} {cA : FieldType → ClassId} {z0 : Nat} {SK : Nat → Nat} {SV : Nat → Int32} {ad : Nat → Nat} (hE : aD (fun q => z0 ≤ q) ad 26) (g : Nat → Nat → Int32) (σ τ : Nat → Nat) (hσ : pmK σ τ) (x : Int32) : bF l D cA z0 SK SV ad shB 26 yX1_has cX1_has 2 (some .boolean) 0 [.ref 18, .int x] (layB g σ τ) (some (.int (cs_ehas_r x g))) (layB g σ τ) := by
  refine bCT_intro (tb := tb_X1_has) (own := RX1) hE pn_X1 rfl tk_X1_has rfl (Nat.le_of_ble_eq_true rfl) ?_
  intro p e s0 m args below meth c C hr
  refine bv_blk C frk_X1 csk_X1 1 1 rfl (L1 := ([(0, .ref 18), (1, .int x)] : Lc)) (st1 := ([.int x] : List Value)) (w1 := (layB g σ τ)) (by rfl) ?_
  refine bv_if_lt (j := 12) C rfl rfl (fun c1 => ?_) (fun c1 => ?_)
  · refine bv_blk C frk_X1 csk_X1 1 13 rfl (L1 := ([(0, .ref 18), (1, .int x)] : Lc)) (st1 := ([.int (0)] : List Value)) (w1 := (layB g σ τ)) (by rfl) ?_
    exact bv_iret C rfl hr rfl ⟨by (exact congrArg (fun x => some (Value.int x)) (((if_pos c1).trans rfl)).symm), by (rfl)⟩
  · refine bv_blk C frk_X1 csk_X1 3 5 rfl (L1 := ([(0, .ref 18), (1, .int x)] : Lc)) (st1 := ([.int (g 1 14), .int x] : List Value)) (w1 := (layB g σ τ)) (by rfl) ?_
    refine bv_icmp_ge (j := 12) C rfl rfl (fun c2 => ?_) (fun c2 => ?_)
    · refine bv_blk C frk_X1 csk_X1 1 13 rfl (L1 := ([(0, .ref 18), (1, .int x)] : Lc)) (st1 := ([.int (0)] : List Value)) (w1 := (layB g σ τ)) (by rfl) ?_
      exact bv_iret C rfl hr rfl ⟨by (exact congrArg (fun x => some (Value.int x)) (((if_neg c1).trans ((if_pos c2).trans rfl))).symm), by (rfl)⟩
    · refine bv_blk C frk_X1 csk_X1 3 9 rfl (L1 := ([(0, .ref 18), (1, .int x)] : Lc)) (st1 := ([.int (20), .int (g 1 14)] : List Value)) (w1 := (layB g σ τ)) (by rfl) ?_
      refine bv_icmp_gt (j := 12) C rfl rfl (fun c3 => ?_) (fun c3 => ?_)
      · refine bv_blk C frk_X1 csk_X1 1 13 rfl (L1 := ([(0, .ref 18), (1, .int x)] : Lc)) (st1 := ([.int (0)] : List Value)) (w1 := (layB g σ τ)) (by rfl) ?_
        exact bv_iret C rfl hr rfl ⟨by (exact congrArg (fun x => some (Value.int x)) (((if_neg c1).trans ((if_neg c2).trans ((if_pos c3).trans rfl)))).symm), by (rfl)⟩
      · refine bv_blk C frk_X1 csk_X1 1 11 rfl (L1 := ([(0, .ref 18), (1, .int x)] : Lc)) (st1 := ([.int (1)] : List Value)) (w1 := (layB g σ τ)) (by rfl) ?_
        refine bv_goto (j := 13) C rfl rfl ?_
        exact bv_iret C rfl hr rfl ⟨by (exact congrArg (fun x => some (Value.int x)) (((if_neg c1).trans ((if_neg c2).trans ((if_neg c3).trans rfl)))).symm), by (rfl)⟩
def cs_eplace_r (x : Int32) (g : Nat → Nat → Int32) : Int32 := (((g 1 14) - (1)) - x)
set_option maxRecDepth 100000 in
set_option maxHeartbeats 8000000 in
theorem cs_eplace {l : Launch} {D : va_G} {cA : FieldType → ClassId} {z0 : Nat} {SK : Nat → Nat} {SV : Nat → Int32} {ad : Nat → Nat} (hE : aD (fun q => z0 ≤ q) ad 26) (g : Nat → Nat → Int32) (σ τ : Nat → Nat) (hσ : pmK σ τ) (x : Int32) : bF l D cA z0 SK SV ad shB 26 yX1_placeOf cX1_placeOf 2 (some .int) 0 [.ref 18, .int x] (layB g σ τ) (some (.int (cs_eplace_r x g))) (layB g σ τ) := by
  refine bCT_intro (tb := tb_X1_placeOf) (own := RX1) hE pn_X1 rfl tk_X1_placeOf rfl (Nat.le_of_ble_eq_true rfl) ?_
  intro p e s0 m args below meth c C hr
  refine bv_blk C frk_X1 csk_X1 6 6 rfl (L1 := ([(0, .ref 18), (1, .int x)] : Lc)) (st1 := ([.int (((g 1 14) - (1)) - x)] : List Value)) (w1 := (layB g σ τ)) (by rfl) ?_
  exact bv_iret C rfl hr rfl ⟨by (rfl), by (rfl)⟩
set_option maxRecDepth 100000 in
set_option maxHeartbeats 8000000 in
theorem cs_station0 {l : Launch} {D : va_G} {cA : FieldType → ClassId} {z0 : Nat} {SK : Nat → Nat} {SV : Nat → Int32} {ad : Nat → Nat} (hE : aD (fun q => z0 ≤ q) ad 26) (g : Nat → Nat → Int32) (σ τ : Nat → Nat) (hσ : pmK σ τ)  : bF l D cA z0 SK SV ad shB 26 yX6_station cX6_station 2 (some (.object "BeamTraining$Station")) 0 [.ref 0, .int (0)] (layB g σ τ) (some (.ref 1)) (layB g σ τ) := by
  refine bCT_intro (tb := tb_X6_station) (own := RX6) hE pn_X6 rfl tk_X6_station rfl (Nat.le_of_ble_eq_true rfl) ?_
  intro p e s0 m args below meth c C hr
  refine bv_blk C frk_X6 csk_X6 1 1 rfl (L1 := ([(0, .ref 0), (1, .int (0))] : Lc)) (st1 := ([.int (0)] : List Value)) (w1 := (layB g σ τ)) (by rfl) ?_
  refine bv_if_ne (j := 5) C rfl rfl (fun h => absurd h (by decide)) (fun _ => ?_)
  refine bv_blk C frk_X6 csk_X6 2 4 rfl (L1 := ([(0, .ref 0), (1, .int (0))] : Lc)) (st1 := ([.ref 1] : List Value)) (w1 := (layB g σ τ)) (by rfl) ?_
  refine bv_goto (j := 7) C rfl rfl ?_
  exact bv_aret C rfl hr (Or.inl ⟨_, rfl⟩) ⟨by (rfl), by (rfl)⟩
set_option maxRecDepth 100000 in
set_option maxHeartbeats 8000000 in
theorem cs_station1 {l : Launch} {D : va_G} {cA : FieldType → ClassId} {z0 : Nat} {SK : Nat → Nat} {SV : Nat → Int32} {ad : Nat → Nat} (hE : aD (fun q => z0 ≤ q) ad 26) (g : Nat → Nat → Int32) (σ τ : Nat → Nat) (hσ : pmK σ τ)  : bF l D cA z0 SK SV ad shB 26 yX6_station cX6_station 2 (some (.object "BeamTraining$Station")) 0 [.ref 0, .int (1)] (layB g σ τ) (some (.ref 3)) (layB g σ τ) := by
  refine bCT_intro (tb := tb_X6_station) (own := RX6) hE pn_X6 rfl tk_X6_station rfl (Nat.le_of_ble_eq_true rfl) ?_
  intro p e s0 m args below meth c C hr
  refine bv_blk C frk_X6 csk_X6 1 1 rfl (L1 := ([(0, .ref 0), (1, .int (1))] : Lc)) (st1 := ([.int (1)] : List Value)) (w1 := (layB g σ τ)) (by rfl) ?_
  refine bv_if_ne (j := 5) C rfl rfl (fun _ => ?_) (fun h => absurd h (by decide))
  refine bv_blk C frk_X6 csk_X6 2 7 rfl (L1 := ([(0, .ref 0), (1, .int (1))] : Lc)) (st1 := ([.ref 3] : List Value)) (w1 := (layB g σ τ)) (by rfl) ?_
  exact bv_aret C rfl hr (Or.inl ⟨_, rfl⟩) ⟨by (rfl), by (rfl)⟩
def cs_hasPath_r (x : Int32) (g : Nat → Nat → Int32) : Int32 := (if x < 0 then (0) else (if (g 1 12) ≤ x then (0) else (if (8) ≤ x then (0) else (1))))
set_option maxRecDepth 100000 in
set_option maxHeartbeats 8000000 in
theorem cs_hasPath {l : Launch} {D : va_G} {cA : FieldType → ClassId} {z0 : Nat} {SK : Nat → Nat} {SV : Nat → Int32} {ad : Nat → Nat} (hE : aD (fun q => z0 ≤ q) ad 26) (g : Nat → Nat → Int32) (σ τ : Nat → Nat) (hσ : pmK σ τ) (x : Int32) : bF l D cA z0 SK SV ad shB 26 yX6_hasPath cX6_hasPath 2 (some .boolean) 0 [.ref 0, .int x] (layB g σ τ) (some (.int (cs_hasPath_r x g))) (layB g σ τ) := by
  refine bCT_intro (tb := tb_X6_hasPath) (own := RX6) hE pn_X6 rfl tk_X6_hasPath rfl (Nat.le_of_ble_eq_true rfl) ?_
  intro p e s0 m args below meth c C hr
  refine bv_blk C frk_X6 csk_X6 1 1 rfl (L1 := ([(0, .ref 0), (1, .int x)] : Lc)) (st1 := ([.int x] : List Value)) (w1 := (layB g σ τ)) (by rfl) ?_
  refine bv_if_lt (j := 11) C rfl rfl (fun c1 => ?_) (fun c1 => ?_)
  · refine bv_blk C frk_X6 csk_X6 1 12 rfl (L1 := ([(0, .ref 0), (1, .int x)] : Lc)) (st1 := ([.int (0)] : List Value)) (w1 := (layB g σ τ)) (by rfl) ?_
    exact bv_iret C rfl hr rfl ⟨by (exact congrArg (fun x => some (Value.int x)) (((if_pos c1).trans rfl)).symm), by (rfl)⟩
  · refine bv_blk C frk_X6 csk_X6 3 5 rfl (L1 := ([(0, .ref 0), (1, .int x)] : Lc)) (st1 := ([.int (g 1 12), .int x] : List Value)) (w1 := (layB g σ τ)) (by rfl) ?_
    refine bv_icmp_ge (j := 11) C rfl rfl (fun c2 => ?_) (fun c2 => ?_)
    · refine bv_blk C frk_X6 csk_X6 1 12 rfl (L1 := ([(0, .ref 0), (1, .int x)] : Lc)) (st1 := ([.int (0)] : List Value)) (w1 := (layB g σ τ)) (by rfl) ?_
      exact bv_iret C rfl hr rfl ⟨by (exact congrArg (fun x => some (Value.int x)) (((if_neg c1).trans ((if_pos c2).trans rfl))).symm), by (rfl)⟩
    · refine bv_blk C frk_X6 csk_X6 2 8 rfl (L1 := ([(0, .ref 0), (1, .int x)] : Lc)) (st1 := ([.int (8), .int x] : List Value)) (w1 := (layB g σ τ)) (by rfl) ?_
      refine bv_icmp_ge (j := 11) C rfl rfl (fun c3 => ?_) (fun c3 => ?_)
      · refine bv_blk C frk_X6 csk_X6 1 12 rfl (L1 := ([(0, .ref 0), (1, .int x)] : Lc)) (st1 := ([.int (0)] : List Value)) (w1 := (layB g σ τ)) (by rfl) ?_
        exact bv_iret C rfl hr rfl ⟨by (exact congrArg (fun x => some (Value.int x)) (((if_neg c1).trans ((if_neg c2).trans ((if_pos c3).trans rfl)))).symm), by (rfl)⟩
      · refine bv_blk C frk_X6 csk_X6 1 10 rfl (L1 := ([(0, .ref 0), (1, .int x)] : Lc)) (st1 := ([.int (1)] : List Value)) (w1 := (layB g σ τ)) (by rfl) ?_
        refine bv_goto (j := 12) C rfl rfl ?_
        exact bv_iret C rfl hr rfl ⟨by (exact congrArg (fun x => some (Value.int x)) (((if_neg c1).trans ((if_neg c2).trans ((if_neg c3).trans rfl)))).symm), by (rfl)⟩
