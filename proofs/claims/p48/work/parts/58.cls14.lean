def iFC (many o x y sep : Int32) : Int32 := if y = -100000 then 1 else if agC (ptC many o x) (ptC many o y) < sep then 0 else 1
def iaF (g : Nat → Nat → Int32) (i j sep : Int32) : Nat → Nat → Int32
  | 0, _ => 1
  | q + 1, b => if iFC (g 1 15) (g 1 16) i (g 1 (103 + 3 * b)) sep = 0 then 0 else if iFC (g 1 35) (g 1 36) j (g 1 (103 + 3 * b + 1)) sep = 0 then 0 else iaF g i j sep q (b + 1)
def iaT (g : Nat → Nat → Int32) (i j sep : Int32) (B : Nat) : Int32 := if iFC (g 1 15) (g 1 16) i (g 1 18) sep = 0 then 0 else if iFC (g 1 35) (g 1 36) j (g 1 38) sep = 0 then 0 else iaF g i j sep B 0
set_option maxRecDepth 100000 in
set_option maxHeartbeats 8000000 in
theorem cs_isFar_1 {l : Launch} {D : va_G} {cA : FieldType → ClassId} {z0 : Nat} {SK : Nat → Nat} {SV : Nat → Int32} {ad : Nat → Nat} (hE : aD (fun q => z0 ≤ q) ad 26) (g : Nat → Nat → Int32) (σ τ : Nat → Nat) (hσ : pmK σ τ) (x y z : Int32) : bF l D cA z0 SK SV ad shB 26 yX2_isFar cX2_isFar 4 (some .boolean) 2 [.ref 1, .int x, .int y, .int z] (layB g σ τ) (some (.int (iFC (g 1 15) (g 1 16) x y z))) (layB g σ τ) := by
  refine bCT_intro (tb := tb_X2_isFar) (own := RX2) hE pn_X2 rfl tk_X2_isFar rfl (Nat.le_of_ble_eq_true rfl) ?_
  intro p e s0 m args below meth c C hr
  refine bv_blk C frk_X2 csk_X2 2 2 rfl (L1 := ([(0, .ref 1), (1, .int x), (2, .int y), (3, .int z)] : Lc)) (st1 := ([.int (-100000), .int y] : List Value)) (w1 := (layB g σ τ)) (by rfl) ?_
  refine bv_icmp_eq (j := 12) C rfl rfl (fun c1 => ?_) (fun c1 => ?_)
  · refine bv_blk C frk_X2 csk_X2 1 13 rfl (L1 := ([(0, .ref 1), (1, .int x), (2, .int y), (3, .int z)] : Lc)) (st1 := ([.int (1)] : List Value)) (w1 := (layB g σ τ)) (by rfl) ?_
    refine bv_goto (j := 15) C rfl rfl ?_
    exact bv_iret C rfl hr rfl ⟨by (exact congrArg (fun x => some (Value.int x)) (((if_pos c1).trans rfl)).symm), by (rfl)⟩
  · refine bv_blk C frk_X2 csk_X2 2 5 rfl (L1 := ([(0, .ref 1), (1, .int x), (2, .int y), (3, .int z)] : Lc)) (st1 := ([.int x, .ref 1] : List Value)) (w1 := (layB g σ τ)) (by rfl) ?_
    refine bv_fV1 C rfl (cs_pointing_1 hE g σ τ hσ x) ml_X2_76 im_X7_pointing sel_X7_pointing ini_X7 cd_X7_pointing ok_X7_pointing rfl ⟨Nat.le_of_ble_eq_true rfl, Nat.le_of_ble_eq_true rfl⟩ ⟨Nat.zero_le _, Nat.zero_le _⟩ (by decide) rfl rfl rfl (rest := ([] : List Value)) rfl (Nat.le_of_ble_eq_true rfl) ?_
    refine bv_blk C frk_X2 csk_X2 2 8 rfl (L1 := ([(0, .ref 1), (1, .int x), (2, .int y), (3, .int z)] : Lc)) (st1 := ([.int y, .ref 1, .int (ptC (g 1 15) (g 1 16) x)] : List Value)) (w1 := (layB g σ τ)) (by rfl) ?_
    refine bv_fV1 C rfl (cs_pointing_1 hE g σ τ hσ y) ml_X2_76 im_X7_pointing sel_X7_pointing ini_X7 cd_X7_pointing ok_X7_pointing rfl ⟨Nat.le_of_ble_eq_true rfl, Nat.le_of_ble_eq_true rfl⟩ ⟨Nat.zero_le _, Nat.zero_le _⟩ (by decide) rfl rfl rfl (rest := ([.int (ptC (g 1 15) (g 1 16) x)] : List Value)) rfl (Nat.le_of_ble_eq_true rfl) ?_
    refine bv_fS1 C rfl (cs_angle hE _ (ptC (g 1 15) (g 1 16) x) (ptC (g 1 15) (g 1 16) y)) ml_X2_80 st_X4_angle ini_X4 cd_X4_angle ok_X4_angle rfl ⟨Nat.le_of_ble_eq_true rfl, Nat.le_of_ble_eq_true rfl⟩ ⟨Nat.zero_le _, Nat.zero_le _⟩ (rest := ([] : List Value)) rfl (Nat.le_of_ble_eq_true rfl) ?_
    refine bv_blk C frk_X2 csk_X2 1 11 rfl (L1 := ([(0, .ref 1), (1, .int x), (2, .int y), (3, .int z)] : Lc)) (st1 := ([.int z, .int (agC (ptC (g 1 15) (g 1 16) x) (ptC (g 1 15) (g 1 16) y))] : List Value)) (w1 := (layB g σ τ)) (by rfl) ?_
    refine bv_icmp_lt (j := 14) C rfl rfl (fun c2 => ?_) (fun c2 => ?_)
    · refine bv_blk C frk_X2 csk_X2 1 15 rfl (L1 := ([(0, .ref 1), (1, .int x), (2, .int y), (3, .int z)] : Lc)) (st1 := ([.int (0)] : List Value)) (w1 := (layB g σ τ)) (by rfl) ?_
      exact bv_iret C rfl hr rfl ⟨by (exact congrArg (fun x => some (Value.int x)) (((if_neg c1).trans ((if_pos c2).trans rfl))).symm), by (rfl)⟩
    · refine bv_blk C frk_X2 csk_X2 1 13 rfl (L1 := ([(0, .ref 1), (1, .int x), (2, .int y), (3, .int z)] : Lc)) (st1 := ([.int (1)] : List Value)) (w1 := (layB g σ τ)) (by rfl) ?_
      refine bv_goto (j := 15) C rfl rfl ?_
      exact bv_iret C rfl hr rfl ⟨by (exact congrArg (fun x => some (Value.int x)) (((if_neg c1).trans ((if_neg c2).trans rfl))).symm), by (rfl)⟩
set_option maxRecDepth 100000 in
set_option maxHeartbeats 8000000 in
theorem cs_isFar_3 {l : Launch} {D : va_G} {cA : FieldType → ClassId} {z0 : Nat} {SK : Nat → Nat} {SV : Nat → Int32} {ad : Nat → Nat} (hE : aD (fun q => z0 ≤ q) ad 26) (g : Nat → Nat → Int32) (σ τ : Nat → Nat) (hσ : pmK σ τ) (x y z : Int32) : bF l D cA z0 SK SV ad shB 26 yX2_isFar cX2_isFar 4 (some .boolean) 2 [.ref 3, .int x, .int y, .int z] (layB g σ τ) (some (.int (iFC (g 1 35) (g 1 36) x y z))) (layB g σ τ) := by
  refine bCT_intro (tb := tb_X2_isFar) (own := RX2) hE pn_X2 rfl tk_X2_isFar rfl (Nat.le_of_ble_eq_true rfl) ?_
  intro p e s0 m args below meth c C hr
  refine bv_blk C frk_X2 csk_X2 2 2 rfl (L1 := ([(0, .ref 3), (1, .int x), (2, .int y), (3, .int z)] : Lc)) (st1 := ([.int (-100000), .int y] : List Value)) (w1 := (layB g σ τ)) (by rfl) ?_
  refine bv_icmp_eq (j := 12) C rfl rfl (fun c1 => ?_) (fun c1 => ?_)
  · refine bv_blk C frk_X2 csk_X2 1 13 rfl (L1 := ([(0, .ref 3), (1, .int x), (2, .int y), (3, .int z)] : Lc)) (st1 := ([.int (1)] : List Value)) (w1 := (layB g σ τ)) (by rfl) ?_
    refine bv_goto (j := 15) C rfl rfl ?_
    exact bv_iret C rfl hr rfl ⟨by (exact congrArg (fun x => some (Value.int x)) (((if_pos c1).trans rfl)).symm), by (rfl)⟩
  · refine bv_blk C frk_X2 csk_X2 2 5 rfl (L1 := ([(0, .ref 3), (1, .int x), (2, .int y), (3, .int z)] : Lc)) (st1 := ([.int x, .ref 3] : List Value)) (w1 := (layB g σ τ)) (by rfl) ?_
    refine bv_fV1 C rfl (cs_pointing_3 hE g σ τ hσ x) ml_X2_76 im_X7_pointing sel_X7_pointing ini_X7 cd_X7_pointing ok_X7_pointing rfl ⟨Nat.le_of_ble_eq_true rfl, Nat.le_of_ble_eq_true rfl⟩ ⟨Nat.zero_le _, Nat.zero_le _⟩ (by decide) rfl rfl rfl (rest := ([] : List Value)) rfl (Nat.le_of_ble_eq_true rfl) ?_
    refine bv_blk C frk_X2 csk_X2 2 8 rfl (L1 := ([(0, .ref 3), (1, .int x), (2, .int y), (3, .int z)] : Lc)) (st1 := ([.int y, .ref 3, .int (ptC (g 1 35) (g 1 36) x)] : List Value)) (w1 := (layB g σ τ)) (by rfl) ?_
    refine bv_fV1 C rfl (cs_pointing_3 hE g σ τ hσ y) ml_X2_76 im_X7_pointing sel_X7_pointing ini_X7 cd_X7_pointing ok_X7_pointing rfl ⟨Nat.le_of_ble_eq_true rfl, Nat.le_of_ble_eq_true rfl⟩ ⟨Nat.zero_le _, Nat.zero_le _⟩ (by decide) rfl rfl rfl (rest := ([.int (ptC (g 1 35) (g 1 36) x)] : List Value)) rfl (Nat.le_of_ble_eq_true rfl) ?_
    refine bv_fS1 C rfl (cs_angle hE _ (ptC (g 1 35) (g 1 36) x) (ptC (g 1 35) (g 1 36) y)) ml_X2_80 st_X4_angle ini_X4 cd_X4_angle ok_X4_angle rfl ⟨Nat.le_of_ble_eq_true rfl, Nat.le_of_ble_eq_true rfl⟩ ⟨Nat.zero_le _, Nat.zero_le _⟩ (rest := ([] : List Value)) rfl (Nat.le_of_ble_eq_true rfl) ?_
    refine bv_blk C frk_X2 csk_X2 1 11 rfl (L1 := ([(0, .ref 3), (1, .int x), (2, .int y), (3, .int z)] : Lc)) (st1 := ([.int z, .int (agC (ptC (g 1 35) (g 1 36) x) (ptC (g 1 35) (g 1 36) y))] : List Value)) (w1 := (layB g σ τ)) (by rfl) ?_
    refine bv_icmp_lt (j := 14) C rfl rfl (fun c2 => ?_) (fun c2 => ?_)
    · refine bv_blk C frk_X2 csk_X2 1 15 rfl (L1 := ([(0, .ref 3), (1, .int x), (2, .int y), (3, .int z)] : Lc)) (st1 := ([.int (0)] : List Value)) (w1 := (layB g σ τ)) (by rfl) ?_
      exact bv_iret C rfl hr rfl ⟨by (exact congrArg (fun x => some (Value.int x)) (((if_neg c1).trans ((if_pos c2).trans rfl))).symm), by (rfl)⟩
    · refine bv_blk C frk_X2 csk_X2 1 13 rfl (L1 := ([(0, .ref 3), (1, .int x), (2, .int y), (3, .int z)] : Lc)) (st1 := ([.int (1)] : List Value)) (w1 := (layB g σ τ)) (by rfl) ?_
      refine bv_goto (j := 15) C rfl rfl ?_
      exact bv_iret C rfl hr rfl ⟨by (exact congrArg (fun x => some (Value.int x)) (((if_neg c1).trans ((if_neg c2).trans rfl))).symm), by (rfl)⟩
set_option maxRecDepth 100000 in
set_option maxHeartbeats 8000000 in
theorem cs_isApart {l : Launch} {D : va_G} {cA : FieldType → ClassId} {z0 : Nat} {SK : Nat → Nat} {SV : Nat → Int32} {ad : Nat → Nat} (hE : aD (fun q => z0 ≤ q) ad 26) (g : Nat → Nat → Int32) (σ τ : Nat → Nat) (hσ : pmK σ τ) (B : Nat) (x y z : Int32) (hB : g 1 13 = nI B) (hB3 : B ≤ 3) : bF l D cA z0 SK SV ad shB 26 yX2_isApart cX2_isApart 7 (some .boolean) 3 [.ref 0, .int x, .int y, .int z] (layB g σ τ) (some (.int (iaT g x y z B))) (layB g σ τ) := by
  refine bCT_intro (tb := tb_X2_isApart) (own := RX2) hE pn_X2 rfl tk_X2_isApart rfl (Nat.le_of_ble_eq_true rfl) ?_
  intro p e s0 m args below meth c C hr
  refine bv_blk C frk_X2 csk_X2 10 10 rfl (L1 := ([(4, .ref 14), (0, .ref 0), (1, .int x), (2, .int y), (3, .int z)] : Lc)) (st1 := ([.int z, .int (g 1 18), .int x, .ref 1] : List Value)) (w1 := (layB g σ τ)) (by rfl) ?_
  refine bv_fS1 C rfl (cs_isFar_1 hE g σ τ hσ x (g 1 18) z) ml_X2_66 st_X2_isFar ini_X2 cd_X2_isFar ok_X2_isFar rfl ⟨Nat.le_of_ble_eq_true rfl, Nat.le_of_ble_eq_true rfl⟩ ⟨Nat.zero_le _, Nat.zero_le _⟩ (rest := ([] : List Value)) rfl (Nat.le_of_ble_eq_true rfl) ?_
  refine bv_if_eq (j := 23) C rfl rfl (fun c1 => ?_) (fun c1 => ?_)
  · refine bv_blk C frk_X2 csk_X2 4 27 rfl (L1 := ([(6, .int (0)), (5, .int (0)), (4, .ref 14), (0, .ref 0), (1, .int x), (2, .int y), (3, .int z)] : Lc)) (st1 := ([] : List Value)) (w1 := (layB g σ τ)) (by rfl) ?_
    refine bv_blk C frk_X2 csk_X2 1 28 rfl (L1 := ([(6, .int (0)), (5, .int (0)), (4, .ref 14), (0, .ref 0), (1, .int x), (2, .int y), (3, .int z)] : Lc)) (st1 := ([.int (0)] : List Value)) (w1 := (layB g σ τ)) (by rfl) ?_
    refine bv_if_eq (j := 62) C rfl rfl (fun _ => ?_) (fun h => absurd h (by decide))
    refine bv_blk C frk_X2 csk_X2 1 63 rfl (L1 := ([(6, .int (0)), (5, .int (0)), (4, .ref 14), (0, .ref 0), (1, .int x), (2, .int y), (3, .int z)] : Lc)) (st1 := ([.int (0)] : List Value)) (w1 := (layB g σ τ)) (by rfl) ?_
    exact bv_iret C rfl hr rfl ⟨by (exact congrArg (fun x => some (Value.int x)) (((if_pos c1).trans rfl)).symm), by (rfl)⟩
  · refine bv_blk C frk_X2 csk_X2 7 19 rfl (L1 := ([(4, .ref 14), (0, .ref 0), (1, .int x), (2, .int y), (3, .int z)] : Lc)) (st1 := ([.int z, .int (g 1 38), .int y, .ref 3] : List Value)) (w1 := (layB g σ τ)) (by rfl) ?_
    refine bv_fS1 C rfl (cs_isFar_3 hE g σ τ hσ y (g 1 38) z) ml_X2_66 st_X2_isFar ini_X2 cd_X2_isFar ok_X2_isFar rfl ⟨Nat.le_of_ble_eq_true rfl, Nat.le_of_ble_eq_true rfl⟩ ⟨Nat.zero_le _, Nat.zero_le _⟩ (rest := ([] : List Value)) rfl (Nat.le_of_ble_eq_true rfl) ?_
    refine bv_if_eq (j := 23) C rfl rfl (fun c3 => ?_) (fun c3 => ?_)
    · refine bv_blk C frk_X2 csk_X2 4 27 rfl (L1 := ([(6, .int (0)), (5, .int (0)), (4, .ref 14), (0, .ref 0), (1, .int x), (2, .int y), (3, .int z)] : Lc)) (st1 := ([] : List Value)) (w1 := (layB g σ τ)) (by rfl) ?_
      refine bv_blk C frk_X2 csk_X2 1 28 rfl (L1 := ([(6, .int (0)), (5, .int (0)), (4, .ref 14), (0, .ref 0), (1, .int x), (2, .int y), (3, .int z)] : Lc)) (st1 := ([.int (0)] : List Value)) (w1 := (layB g σ τ)) (by rfl) ?_
      refine bv_if_eq (j := 62) C rfl rfl (fun _ => ?_) (fun h => absurd h (by decide))
      refine bv_blk C frk_X2 csk_X2 1 63 rfl (L1 := ([(6, .int (0)), (5, .int (0)), (4, .ref 14), (0, .ref 0), (1, .int x), (2, .int y), (3, .int z)] : Lc)) (st1 := ([.int (0)] : List Value)) (w1 := (layB g σ τ)) (by rfl) ?_
      exact bv_iret C rfl hr rfl ⟨by (exact congrArg (fun x => some (Value.int x)) (((if_neg c1).trans ((if_pos c3).trans rfl))).symm), by (rfl)⟩
    · refine bv_blk C frk_X2 csk_X2 1 22 rfl (L1 := ([(4, .ref 14), (0, .ref 0), (1, .int x), (2, .int y), (3, .int z)] : Lc)) (st1 := ([.int (1)] : List Value)) (w1 := (layB g σ τ)) (by rfl) ?_
      refine bv_goto (j := 24) C rfl rfl ?_
      refine bv_blk C frk_X2 csk_X2 3 27 rfl (L1 := ([(6, .int (0)), (5, .int (1)), (4, .ref 14), (0, .ref 0), (1, .int x), (2, .int y), (3, .int z)] : Lc)) (st1 := ([] : List Value)) (w1 := (layB g σ τ)) (by rfl) ?_
      have lp : ∀ (q b : Nat), b + q = B → iaF g x y z q b = iaF g x y z B 0 → bV p l e (bR 3) s0 m args below meth c D cA shB (adA ad 26) 7 tb_X2_isApart (MQ below (bQ D cA ad shB 26 (fun r w1 => r = (some (.int (iaT g x y z B))) ∧ w1 = (layB g σ τ))) args s0 0 0 (adA ad 26)) ad 26 0 0 (layB g σ τ) 27 ([(6, .int (nI b)), (5, .int (1)), (0, .ref 0), (1, .int x), (2, .int y), (3, .int z), (4, .ref 14)] : Lc) ([] : List Value) := by
        intro q
        induction q with
        | zero =>
          intro b hb heq
          refine bv_blk C frk_X2 csk_X2 1 28 rfl (L1 := ([(6, .int (nI b)), (5, .int (1)), (0, .ref 0), (1, .int x), (2, .int y), (3, .int z), (4, .ref 14)] : Lc)) (st1 := ([.int (1)] : List Value)) (w1 := (layB g σ τ)) (by rfl) ?_
          refine bv_if_eq (j := 62) C rfl rfl (fun h => absurd h (by decide)) (fun _ => ?_)
          refine bv_blk C frk_X2 csk_X2 3 32 rfl (L1 := ([(6, .int (nI b)), (5, .int (1)), (0, .ref 0), (1, .int x), (2, .int y), (3, .int z), (4, .ref 14)] : Lc)) (st1 := ([.int (g 1 13), .int (nI b)] : List Value)) (w1 := (layB g σ τ)) (by rfl) ?_
          refine bv_icmp_ge (j := 62) C rfl rfl (fun _ => ?_) (fun h => absurd (by rw [show (g 1 13) = nI B from hB]; exact (nI_le (a := B) (b := b) (by omega) (by omega))) h)
          refine bv_blk C frk_X2 csk_X2 1 63 rfl (L1 := ([(6, .int (nI b)), (5, .int (1)), (0, .ref 0), (1, .int x), (2, .int y), (3, .int z), (4, .ref 14)] : Lc)) (st1 := ([.int (1)] : List Value)) (w1 := (layB g σ τ)) (by rfl) ?_
          exact bv_iret C rfl hr rfl ⟨by (exact congrArg (fun x => some (Value.int x)) (((if_neg c1).trans ((if_neg c3).trans (heq.symm.trans rfl)))).symm), by (rfl)⟩
        | succ q ih =>
          intro b hb heq
          refine bv_blk C frk_X2 csk_X2 1 28 rfl (L1 := ([(6, .int (nI b)), (5, .int (1)), (0, .ref 0), (1, .int x), (2, .int y), (3, .int z), (4, .ref 14)] : Lc)) (st1 := ([.int (1)] : List Value)) (w1 := (layB g σ τ)) (by rfl) ?_
          refine bv_if_eq (j := 62) C rfl rfl (fun h => absurd h (by decide)) (fun _ => ?_)
          refine bv_blk C frk_X2 csk_X2 3 32 rfl (L1 := ([(6, .int (nI b)), (5, .int (1)), (0, .ref 0), (1, .int x), (2, .int y), (3, .int z), (4, .ref 14)] : Lc)) (st1 := ([.int (g 1 13), .int (nI b)] : List Value)) (w1 := (layB g σ τ)) (by rfl) ?_
          refine bv_icmp_ge (j := 62) C rfl rfl (fun h => absurd h (by rw [show (g 1 13) = nI B from hB]; exact (nI_ge (a := b) (b := B) (by omega) (by omega)))) (fun _ => ?_)
          refine bv_blk C frk_X2 csk_X2 2 35 rfl (L1 := ([(6, .int (nI b)), (5, .int (1)), (0, .ref 0), (1, .int x), (2, .int y), (3, .int z), (4, .ref 14)] : Lc)) (st1 := ([.int (3), .int (nI b)] : List Value)) (w1 := (layB g σ τ)) (by rfl) ?_
          refine bv_icmp_ge (j := 62) C rfl rfl (fun h => absurd h (nI_ge (a := b) (b := 3) (by omega) (by omega))) (fun _ => ?_)
          refine bv_blk C frk_X2 csk_X2 6 42 rfl (L1 := ([(6, .int (nI b)), (5, .int (1)), (0, .ref 0), (1, .int x), (2, .int y), (3, .int z), (4, .ref 14)] : Lc)) (st1 := ([.int (nI b), .ref 15, .int x, .ref 1] : List Value)) (w1 := (layB g σ τ)) (by rfl) ?_
          refine bv_iald C rfl rfl (by decide) (j := b) (by exact rfl) (by first | decide | omega) (by decide) (y := (g 1 (103 + 3 * b))) (by rfl) ?_
          refine bv_blk C frk_X2 csk_X2 1 44 rfl (L1 := ([(6, .int (nI b)), (5, .int (1)), (0, .ref 0), (1, .int x), (2, .int y), (3, .int z), (4, .ref 14)] : Lc)) (st1 := ([.int z, .int (g 1 (103 + 3 * b)), .int x, .ref 1] : List Value)) (w1 := (layB g σ τ)) (by rfl) ?_
          refine bv_fS1 C rfl (cs_isFar_1 hE g σ τ hσ x (g 1 (103 + 3 * b)) z) ml_X2_66 st_X2_isFar ini_X2 cd_X2_isFar ok_X2_isFar rfl ⟨Nat.le_of_ble_eq_true rfl, Nat.le_of_ble_eq_true rfl⟩ ⟨Nat.zero_le _, Nat.zero_le _⟩ (rest := ([] : List Value)) rfl (Nat.le_of_ble_eq_true rfl) ?_
          refine bv_if_eq (j := 58) C rfl rfl (fun c10 => ?_) (fun c10 => ?_)
          · refine bv_blk C frk_X2 csk_X2 3 61 rfl (L1 := ([(6, .int ((nI b) + Int32.ofInt 1)), (5, .int (0)), (0, .ref 0), (1, .int x), (2, .int y), (3, .int z), (4, .ref 14)] : Lc)) (st1 := ([] : List Value)) (w1 := (layB g σ τ)) (by rfl) ?_
            rw [show ((nI b) + Int32.ofInt 1) = nI (b + 1) from (nIi rfl)]
            refine bv_goto (j := 27) C rfl rfl ?_
            refine bv_blk C frk_X2 csk_X2 1 28 rfl (L1 := ([(6, .int (nI (b + 1))), (5, .int (0)), (0, .ref 0), (1, .int x), (2, .int y), (3, .int z), (4, .ref 14)] : Lc)) (st1 := ([.int (0)] : List Value)) (w1 := (layB g σ τ)) (by rfl) ?_
            refine bv_if_eq (j := 62) C rfl rfl (fun _ => ?_) (fun h => absurd h (by decide))
            refine bv_blk C frk_X2 csk_X2 1 63 rfl (L1 := ([(6, .int (nI (b + 1))), (5, .int (0)), (0, .ref 0), (1, .int x), (2, .int y), (3, .int z), (4, .ref 14)] : Lc)) (st1 := ([.int (0)] : List Value)) (w1 := (layB g σ τ)) (by rfl) ?_
            exact bv_iret C rfl hr rfl ⟨by (exact congrArg (fun x => some (Value.int x)) (((if_neg c1).trans ((if_neg c3).trans (heq.symm.trans ((if_pos c10).trans rfl))))).symm), by (rfl)⟩
          · refine bv_blk C frk_X2 csk_X2 6 52 rfl (L1 := ([(6, .int (nI b)), (5, .int (1)), (0, .ref 0), (1, .int x), (2, .int y), (3, .int z), (4, .ref 14)] : Lc)) (st1 := ([.int (nI b), .ref 16, .int y, .ref 3] : List Value)) (w1 := (layB g σ τ)) (by rfl) ?_
            refine bv_iald C rfl rfl (by decide) (j := b) (by exact rfl) (by first | decide | omega) (by decide) (y := (g 1 (103 + 3 * b + 1))) (by rfl) ?_
            refine bv_blk C frk_X2 csk_X2 1 54 rfl (L1 := ([(6, .int (nI b)), (5, .int (1)), (0, .ref 0), (1, .int x), (2, .int y), (3, .int z), (4, .ref 14)] : Lc)) (st1 := ([.int z, .int (g 1 (103 + 3 * b + 1)), .int y, .ref 3] : List Value)) (w1 := (layB g σ τ)) (by rfl) ?_
            refine bv_fS1 C rfl (cs_isFar_3 hE g σ τ hσ y (g 1 (103 + 3 * b + 1)) z) ml_X2_66 st_X2_isFar ini_X2 cd_X2_isFar ok_X2_isFar rfl ⟨Nat.le_of_ble_eq_true rfl, Nat.le_of_ble_eq_true rfl⟩ ⟨Nat.zero_le _, Nat.zero_le _⟩ (rest := ([] : List Value)) rfl (Nat.le_of_ble_eq_true rfl) ?_
            refine bv_if_eq (j := 58) C rfl rfl (fun c12 => ?_) (fun c12 => ?_)
            · refine bv_blk C frk_X2 csk_X2 3 61 rfl (L1 := ([(6, .int ((nI b) + Int32.ofInt 1)), (5, .int (0)), (0, .ref 0), (1, .int x), (2, .int y), (3, .int z), (4, .ref 14)] : Lc)) (st1 := ([] : List Value)) (w1 := (layB g σ τ)) (by rfl) ?_
              rw [show ((nI b) + Int32.ofInt 1) = nI (b + 1) from (nIi rfl)]
              refine bv_goto (j := 27) C rfl rfl ?_
              refine bv_blk C frk_X2 csk_X2 1 28 rfl (L1 := ([(6, .int (nI (b + 1))), (5, .int (0)), (0, .ref 0), (1, .int x), (2, .int y), (3, .int z), (4, .ref 14)] : Lc)) (st1 := ([.int (0)] : List Value)) (w1 := (layB g σ τ)) (by rfl) ?_
              refine bv_if_eq (j := 62) C rfl rfl (fun _ => ?_) (fun h => absurd h (by decide))
              refine bv_blk C frk_X2 csk_X2 1 63 rfl (L1 := ([(6, .int (nI (b + 1))), (5, .int (0)), (0, .ref 0), (1, .int x), (2, .int y), (3, .int z), (4, .ref 14)] : Lc)) (st1 := ([.int (0)] : List Value)) (w1 := (layB g σ τ)) (by rfl) ?_
              exact bv_iret C rfl hr rfl ⟨by (exact congrArg (fun x => some (Value.int x)) (((if_neg c1).trans ((if_neg c3).trans (heq.symm.trans ((if_neg c10).trans ((if_pos c12).trans rfl)))))).symm), by (rfl)⟩
            · refine bv_blk C frk_X2 csk_X2 1 57 rfl (L1 := ([(6, .int (nI b)), (5, .int (1)), (0, .ref 0), (1, .int x), (2, .int y), (3, .int z), (4, .ref 14)] : Lc)) (st1 := ([.int (1)] : List Value)) (w1 := (layB g σ τ)) (by rfl) ?_
              refine bv_goto (j := 59) C rfl rfl ?_
              refine bv_blk C frk_X2 csk_X2 2 61 rfl (L1 := ([(6, .int ((nI b) + Int32.ofInt 1)), (5, .int (1)), (0, .ref 0), (1, .int x), (2, .int y), (3, .int z), (4, .ref 14)] : Lc)) (st1 := ([] : List Value)) (w1 := (layB g σ τ)) (by rfl) ?_
              rw [show ((nI b) + Int32.ofInt 1) = nI (b + 1) from (nIi rfl)]
              refine bv_goto (j := 27) C rfl rfl ?_
              refine bv_sub [0, 1, 2, 3, 4, 5, 6] (by rfl) ?_
              exact ih (b + 1) (by omega) (((if_neg c10).trans (if_neg c12)).symm.trans heq)
      refine bv_sub [0, 1, 3, 4, 5, 6, 2] (by rfl) ?_
      exact lp B 0 (by omega) rfl
set_option maxRecDepth 100000 in
set_option maxHeartbeats 8000000 in
theorem cs_put {l : Launch} {D : va_G} {cA : FieldType → ClassId} {z0 : Nat} {SK : Nat → Nat} {SV : Nat → Int32} {ad : Nat → Nat} (hE : aD (fun q => z0 ≤ q) ad 26) (g : Nat → Nat → Int32) (σ τ : Nat → Nat) (hσ : pmK σ τ) (i j : Nat) (x : Int32) (hi : i < 16) (hj : j < 16) : bF l D cA z0 SK SV ad shB 26 yX2_put cX2_put 5 none 0 [.ref 22, .int (nI i), .int (nI j), .int x] (layB g σ τ) none (layB (ug g 4 (16 * i + j) x) σ τ) := by
  refine bCT_intro (tb := tb_X2_put) (own := RX2) hE pn_X2 rfl tk_X2_put rfl (Nat.le_of_ble_eq_true rfl) ?_
  intro p e s0 m args below meth c C hr
  refine bv_blk C frk_X2 csk_X2 7 7 rfl (L1 := ([(4, .int (((16) * (nI i)) + (nI j))), (0, .ref 22), (1, .int (nI i)), (2, .int (nI j)), (3, .int x)] : Lc)) (st1 := ([.int (((16) * (nI i)) + (nI j))] : List Value)) (w1 := (layB g σ τ)) (by rfl) ?_
  refine bv_if_lt (j := 18) C rfl rfl (fun h => absurd h (by rw [show (((16) * (nI i)) + (nI j)) = nI ((16 * i) + j) from (nIa (nIm rfl rfl) rfl)]; exact (nI_nlt (a := ((16 * i) + j)) (b := 0) (by omega) (by omega)))) (fun _ => ?_)
  refine bv_blk C frk_X2 csk_X2 3 11 rfl (L1 := ([(4, .int (((16) * (nI i)) + (nI j))), (0, .ref 22), (1, .int (nI i)), (2, .int (nI j)), (3, .int x)] : Lc)) (st1 := ([.ref 23, .int (((16) * (nI i)) + (nI j))] : List Value)) (w1 := (layB g σ τ)) (by rfl) ?_
  refine bv_alen C 0 rfl rfl rfl (by decide) ?_
  refine bv_icmp_ge (j := 18) C rfl rfl (fun h => absurd h (by rw [show (((16) * (nI i)) + (nI j)) = nI ((16 * i) + j) from (nIa (nIm rfl rfl) rfl)]; exact (nI_ge (a := ((16 * i) + j)) (b := 256) (by omega) (by omega)))) (fun _ => ?_)
  refine bv_blk C frk_X2 csk_X2 4 17 rfl (L1 := ([(4, .int (((16) * (nI i)) + (nI j))), (0, .ref 22), (1, .int (nI i)), (2, .int (nI j)), (3, .int x)] : Lc)) (st1 := ([.int x, .int (((16) * (nI i)) + (nI j)), .ref 23] : List Value)) (w1 := (layB g σ τ)) (by rfl) ?_
  refine bv_iast C rfl rfl (by decide) (j := ((16 * i) + j)) (by exact (nIa (nIm rfl rfl) rfl)) (by first | decide | omega) (by decide) ?_
  refine bv_w (lb_up (o := 23) (k := ((16 * i) + j)) (a := 4) (b := (((16 * i) + j))) hσ (by decide) (show ((16 * i) + j) < 256 by first | decide | omega) (by rfl) (by rfl)) ?_
  exact bv_vret C rfl hr ⟨by (rfl), by (rfl)⟩
set_option maxRecDepth 100000 in
set_option maxHeartbeats 8000000 in
theorem cs_get {l : Launch} {D : va_G} {cA : FieldType → ClassId} {z0 : Nat} {SK : Nat → Nat} {SV : Nat → Int32} {ad : Nat → Nat} (hE : aD (fun q => z0 ≤ q) ad 26) (g : Nat → Nat → Int32) (σ τ : Nat → Nat) (hσ : pmK σ τ) (i j : Nat) (hi : i < 16) (hj : j < 16) : bF l D cA z0 SK SV ad shB 26 yX2_get cX2_get 4 (some .int) 0 [.ref 22, .int (nI i), .int (nI j)] (layB g σ τ) (some (.int (g 4 (16 * i + j)))) (layB g σ τ) := by
  refine bCT_intro (tb := tb_X2_get) (own := RX2) hE pn_X2 rfl tk_X2_get rfl (Nat.le_of_ble_eq_true rfl) ?_
  intro p e s0 m args below meth c C hr
  refine bv_blk C frk_X2 csk_X2 7 7 rfl (L1 := ([(3, .int (((16) * (nI i)) + (nI j))), (0, .ref 22), (1, .int (nI i)), (2, .int (nI j))] : Lc)) (st1 := ([.int (((16) * (nI i)) + (nI j))] : List Value)) (w1 := (layB g σ τ)) (by rfl) ?_
  refine bv_if_lt (j := 18) C rfl rfl (fun h => absurd h (by rw [show (((16) * (nI i)) + (nI j)) = nI ((16 * i) + j) from (nIa (nIm rfl rfl) rfl)]; exact (nI_nlt (a := ((16 * i) + j)) (b := 0) (by omega) (by omega)))) (fun _ => ?_)
  refine bv_blk C frk_X2 csk_X2 3 11 rfl (L1 := ([(3, .int (((16) * (nI i)) + (nI j))), (0, .ref 22), (1, .int (nI i)), (2, .int (nI j))] : Lc)) (st1 := ([.ref 23, .int (((16) * (nI i)) + (nI j))] : List Value)) (w1 := (layB g σ τ)) (by rfl) ?_
  refine bv_alen C 0 rfl rfl rfl (by decide) ?_
  refine bv_icmp_ge (j := 18) C rfl rfl (fun h => absurd h (by rw [show (((16) * (nI i)) + (nI j)) = nI ((16 * i) + j) from (nIa (nIm rfl rfl) rfl)]; exact (nI_ge (a := ((16 * i) + j)) (b := 256) (by omega) (by omega)))) (fun _ => ?_)
  refine bv_blk C frk_X2 csk_X2 3 16 rfl (L1 := ([(3, .int (((16) * (nI i)) + (nI j))), (0, .ref 22), (1, .int (nI i)), (2, .int (nI j))] : Lc)) (st1 := ([.int (((16) * (nI i)) + (nI j)), .ref 23] : List Value)) (w1 := (layB g σ τ)) (by rfl) ?_
  refine bv_iald C rfl rfl (by decide) (j := ((16 * i) + j)) (by exact (nIa (nIm rfl rfl) rfl)) (by first | decide | omega) (by decide) (y := (g 4 (((16 * i) + j)))) (by rfl) ?_
  refine bv_goto (j := 19) C rfl rfl ?_
  exact bv_iret C rfl hr rfl ⟨by (rfl), by (rfl)⟩
abbrev P3 : Type := Int32 × Int32 × Int32
def abI (g : Nat → Nat → Int32) (sep : Int32) (B i : Nat) : Nat → Nat → P3 → P3
  | 0, _, t => t
  | q + 1, j, t => abI g sep B i q (j + 1) (if g 4 (16 * i + j) ≤ t.2.2 then t else if iaT g (nI i) (nI j) sep B = 0 then t else (nI i, nI j, g 4 (16 * i + j)))
def abO (g : Nat → Nat → Int32) (sep : Int32) (B S1 : Nat) : Nat → Nat → P3 → P3
  | 0, _, t => t
  | r + 1, i, t => abO g sep B S1 r (i + 1) (abI g sep B i S1 0 t)
theorem abI_0 {g : Nat → Nat → Int32} {sep : Int32} {B i j : Nat} {t : P3} : abI g sep B i 0 j t = t := rfl
theorem abO_0 {g : Nat → Nat → Int32} {sep : Int32} {B S1 i : Nat} {t : P3} : abO g sep B S1 0 i t = t := rfl
theorem abO_nx {g : Nat → Nat → Int32} {sep : Int32} {B S1 r i : Nat} {t : P3} : abO g sep B S1 (r + 1) i t = abO g sep B S1 r (i + 1) (abI g sep B i S1 0 t) := rfl
theorem abI_1 {g : Nat → Nat → Int32} {sep : Int32} {B i q j : Nat} {x y m : Int32} (c : g 4 (16 * i + j) ≤ m) : abI g sep B i (q + 1) j (x, y, m) = abI g sep B i q (j + 1) (x, y, m) := congrArg (abI g sep B i q (j + 1)) (if_pos c)
theorem abI_2 {g : Nat → Nat → Int32} {sep : Int32} {B i q j : Nat} {x y m : Int32} (c : ¬ g 4 (16 * i + j) ≤ m) (c2 : iaT g (nI i) (nI j) sep B = 0) : abI g sep B i (q + 1) j (x, y, m) = abI g sep B i q (j + 1) (x, y, m) := congrArg (abI g sep B i q (j + 1)) ((if_neg c).trans (if_pos c2))
theorem abI_3 {g : Nat → Nat → Int32} {sep : Int32} {B i q j : Nat} {x y m : Int32} (c : ¬ g 4 (16 * i + j) ≤ m) (c2 : ¬ iaT g (nI i) (nI j) sep B = 0) : abI g sep B i (q + 1) j (x, y, m) = abI g sep B i q (j + 1) (nI i, nI j, g 4 (16 * i + j)) := congrArg (abI g sep B i q (j + 1)) ((if_neg c).trans (if_neg c2))
def abT (g : Nat → Nat → Int32) (sep : Int32) (B S0 S1 : Nat) : P3 := abO g sep B S1 S0 0 (-100000, -100000, -100000)
def abW (g : Nat → Nat → Int32) (sep : Int32) (B S0 S1 : Nat) : Nat → Nat → Int32 := if (abT g sep B S0 S1).2.2 = -100000 then g else cs_badd_w B (abT g sep B S0 S1).1 (abT g sep B S0 S1).2.1 (abT g sep B S0 S1).2.2 g
set_option maxRecDepth 100000 in
set_option maxHeartbeats 8000000 in
theorem cs_addBest {l : Launch} {D : va_G} {cA : FieldType → ClassId} {z0 : Nat} {SK : Nat → Nat} {SV : Nat → Int32} {ad : Nat → Nat} (hE : aD (fun q => z0 ≤ q) ad 26) (g : Nat → Nat → Int32) (σ τ : Nat → Nat) (hσ : pmK σ τ) (B S0 S1 : Nat) (z : Int32) (hS0 : g 1 15 = nI S0) (hS1 : g 1 35 = nI S1) (hA : S0 ≤ 16) (hC : S1 ≤ 16) (hB : g 1 13 = nI B) (hB3 : B < 3) : bF l D cA z0 SK SV ad shB 26 yX2_addBestPair cX2_addBestPair 8 none 4 [.ref 22, .ref 0, .int z] (layB g σ τ) none (layB (abW g z B S0 S1) σ τ) := by
  refine bCT_intro (tb := tb_X2_addBestPair) (own := RX2) hE pn_X2 rfl tk_X2_addBestPair rfl (Nat.le_of_ble_eq_true rfl) ?_
  intro p e s0 m args below meth c C hr
  refine bv_blk C frk_X2 csk_X2 8 8 rfl (L1 := ([(6, .int (0)), (5, .int (-100000)), (4, .int (-100000)), (3, .int (-100000)), (0, .ref 22), (1, .ref 0), (2, .int z)] : Lc)) (st1 := ([] : List Value)) (w1 := (layB g σ τ)) (by rfl) ?_
  have lpO : ∀ (r9 i9 : Nat) (x9 : Int32) (y9 : Int32) (m9 : Int32), i9 + r9 = S0 → abO g z B S1 r9 i9 (x9, y9, m9) = abT g z B S0 S1 → bV p l e (bR 4) s0 m args below meth c D cA shB (adA ad 26) 8 tb_X2_addBestPair (MQ below (bQ D cA ad shB 26 (fun r w1 => r = none ∧ w1 = (layB (abW g z B S0 S1) σ τ))) args s0 0 0 (adA ad 26)) ad 26 0 0 (layB g σ τ) 8 ([(6, .int (nI i9)), (3, .int x9), (4, .int y9), (5, .int m9), (0, .ref 22), (1, .ref 0), (2, .int z)] : Lc) ([] : List Value) := by
    intro r9
    induction r9 with
    | zero =>
      intro i9 x9 y9 m9 hi9  heq
      rw [abO_0] at heq
      refine bv_blk C frk_X2 csk_X2 4 12 rfl (L1 := ([(6, .int (nI i9)), (3, .int x9), (4, .int y9), (5, .int m9), (0, .ref 22), (1, .ref 0), (2, .int z)] : Lc)) (st1 := ([.int (g 1 15), .int (nI i9)] : List Value)) (w1 := (layB g σ τ)) (by rfl) ?_
      refine bv_icmp_ge (j := 45) C rfl rfl (fun _ => ?_) (fun h => absurd (by rw [show (g 1 15) = nI S0 from hS0]; exact (nI_le (a := S0) (b := i9) (by omega) (by omega))) h)
      refine bv_blk C frk_X2 csk_X2 2 47 rfl (L1 := ([(6, .int (nI i9)), (3, .int x9), (4, .int y9), (5, .int m9), (0, .ref 22), (1, .ref 0), (2, .int z)] : Lc)) (st1 := ([.int (-100000), .int m9] : List Value)) (w1 := (layB g σ τ)) (by rfl) ?_
      refine bv_icmp_eq (j := 54) C rfl rfl (fun c2 => ?_) (fun c2 => ?_)
      · exact bv_vret C rfl hr ⟨by (rfl), by (unfold abW; rw [← heq]; exact congrArg (fun x => layB x σ τ) (((if_pos c2).trans rfl)).symm)⟩
      · refine bv_blk C frk_X2 csk_X2 5 53 rfl (L1 := ([(6, .int (nI i9)), (3, .int x9), (4, .int y9), (5, .int m9), (0, .ref 22), (1, .ref 0), (2, .int z)] : Lc)) (st1 := ([.int m9, .int y9, .int x9, .ref 14] : List Value)) (w1 := (layB g σ τ)) (by rfl) ?_
        refine bv_fV0 C rfl (cs_badd hE g σ τ hσ B x9 y9 m9 hB hB3) ml_X2_60 im_X0_add sel_X0_add ini_X0 cd_X0_add ok_X0_add rfl ⟨Nat.le_of_ble_eq_true rfl, Nat.le_of_ble_eq_true rfl⟩ ⟨Nat.zero_le _, Nat.zero_le _⟩ (by decide) rfl rfl rfl (rest := ([] : List Value)) rfl (Nat.le_of_ble_eq_true rfl) ?_
        exact bv_vret C rfl hr ⟨by (rfl), by (unfold abW; rw [← heq]; exact congrArg (fun x => layB x σ τ) (((if_neg c2).trans rfl)).symm)⟩
    | succ r9 ihO =>
      intro i9 x9 y9 m9 hi9  heq
      rw [abO_nx] at heq
      refine bv_blk C frk_X2 csk_X2 4 12 rfl (L1 := ([(6, .int (nI i9)), (3, .int x9), (4, .int y9), (5, .int m9), (0, .ref 22), (1, .ref 0), (2, .int z)] : Lc)) (st1 := ([.int (g 1 15), .int (nI i9)] : List Value)) (w1 := (layB g σ τ)) (by rfl) ?_
      refine bv_icmp_ge (j := 45) C rfl rfl (fun h => absurd h (by rw [show (g 1 15) = nI S0 from hS0]; exact (nI_ge (a := i9) (b := S0) (by omega) (by omega)))) (fun _ => ?_)
      refine bv_blk C frk_X2 csk_X2 2 15 rfl (L1 := ([(7, .int (0)), (6, .int (nI i9)), (3, .int x9), (4, .int y9), (5, .int m9), (0, .ref 22), (1, .ref 0), (2, .int z)] : Lc)) (st1 := ([] : List Value)) (w1 := (layB g σ τ)) (by rfl) ?_
      have lpI : ∀ (q9 j9 : Nat) (x9 : Int32) (y9 : Int32) (m9 : Int32), j9 + q9 = S1 → abO g z B S1 r9 (i9 + 1) (abI g z B i9 q9 j9 (x9, y9, m9)) = abT g z B S0 S1 → bV p l e (bR 4) s0 m args below meth c D cA shB (adA ad 26) 8 tb_X2_addBestPair (MQ below (bQ D cA ad shB 26 (fun r w1 => r = none ∧ w1 = (layB (abW g z B S0 S1) σ τ))) args s0 0 0 (adA ad 26)) ad 26 0 0 (layB g σ τ) 15 ([(7, .int (nI j9)), (6, .int (nI i9)), (3, .int x9), (4, .int y9), (5, .int m9), (0, .ref 22), (1, .ref 0), (2, .int z)] : Lc) ([] : List Value) := by
        intro q9
        induction q9 with
        | zero =>
          intro j9 x9 y9 m9 hj9  heq
          rw [abI_0] at heq
          refine bv_blk C frk_X2 csk_X2 4 19 rfl (L1 := ([(7, .int (nI j9)), (6, .int (nI i9)), (3, .int x9), (4, .int y9), (5, .int m9), (0, .ref 22), (1, .ref 0), (2, .int z)] : Lc)) (st1 := ([.int (g 1 35), .int (nI j9)] : List Value)) (w1 := (layB g σ τ)) (by rfl) ?_
          refine bv_icmp_ge (j := 43) C rfl rfl (fun _ => ?_) (fun h => absurd (by rw [show (g 1 35) = nI S1 from hS1]; exact (nI_le (a := S1) (b := j9) (by omega) (by omega))) h)
          refine bv_blk C frk_X2 csk_X2 1 44 rfl (L1 := ([(6, .int ((nI i9) + Int32.ofInt 1)), (7, .int (nI j9)), (3, .int x9), (4, .int y9), (5, .int m9), (0, .ref 22), (1, .ref 0), (2, .int z)] : Lc)) (st1 := ([] : List Value)) (w1 := (layB g σ τ)) (by rfl) ?_
          rw [show ((nI i9) + Int32.ofInt 1) = nI (i9 + 1) from (nIi rfl)]
          refine bv_goto (j := 8) C rfl rfl ?_
          refine bv_sub [0, 2, 3, 4, 5, 6, 7] (by rfl) ?_
          exact ihO (i9 + 1) x9 y9 m9 (by omega)  heq
        | succ q9 ihI =>
          intro j9 x9 y9 m9 hj9  heq
          refine bv_blk C frk_X2 csk_X2 4 19 rfl (L1 := ([(7, .int (nI j9)), (6, .int (nI i9)), (3, .int x9), (4, .int y9), (5, .int m9), (0, .ref 22), (1, .ref 0), (2, .int z)] : Lc)) (st1 := ([.int (g 1 35), .int (nI j9)] : List Value)) (w1 := (layB g σ τ)) (by rfl) ?_
          refine bv_icmp_ge (j := 43) C rfl rfl (fun h => absurd h (by rw [show (g 1 35) = nI S1 from hS1]; exact (nI_ge (a := j9) (b := S1) (by omega) (by omega)))) (fun _ => ?_)
          refine bv_blk C frk_X2 csk_X2 3 23 rfl (L1 := ([(7, .int (nI j9)), (6, .int (nI i9)), (3, .int x9), (4, .int y9), (5, .int m9), (0, .ref 22), (1, .ref 0), (2, .int z)] : Lc)) (st1 := ([.int (nI j9), .int (nI i9), .ref 22] : List Value)) (w1 := (layB g σ τ)) (by rfl) ?_
          refine bv_fV1 C rfl (cs_get hE g σ τ hσ i9 j9 (by omega) (by omega)) ml_X2_52 im_X2_get sel_X2_get ini_X2 cd_X2_get ok_X2_get rfl ⟨Nat.le_of_ble_eq_true rfl, Nat.le_of_ble_eq_true rfl⟩ ⟨Nat.zero_le _, Nat.zero_le _⟩ (by decide) rfl rfl rfl (rest := ([] : List Value)) rfl (Nat.le_of_ble_eq_true rfl) ?_
          refine bv_blk C frk_X2 csk_X2 1 25 rfl (L1 := ([(7, .int (nI j9)), (6, .int (nI i9)), (3, .int x9), (4, .int y9), (5, .int m9), (0, .ref 22), (1, .ref 0), (2, .int z)] : Lc)) (st1 := ([.int m9, .int (g 4 (16 * i9 + j9))] : List Value)) (w1 := (layB g σ τ)) (by rfl) ?_
          refine bv_icmp_le (j := 41) C rfl rfl (fun c6 => ?_) (fun c6 => ?_)
          · refine bv_blk C frk_X2 csk_X2 1 42 rfl (L1 := ([(7, .int ((nI j9) + Int32.ofInt 1)), (6, .int (nI i9)), (3, .int x9), (4, .int y9), (5, .int m9), (0, .ref 22), (1, .ref 0), (2, .int z)] : Lc)) (st1 := ([] : List Value)) (w1 := (layB g σ τ)) (by rfl) ?_
            rw [show ((nI j9) + Int32.ofInt 1) = nI (j9 + 1) from (nIi rfl)]
            refine bv_goto (j := 15) C rfl rfl ?_
            refine bv_sub [0, 1, 2, 3, 4, 5, 6, 7] (by rfl) ?_
            refine ihI (j9 + 1) x9 y9 m9 (by omega)  ?_
            rw [← heq, abI_1 c6]
          · refine bv_blk C frk_X2 csk_X2 4 30 rfl (L1 := ([(7, .int (nI j9)), (6, .int (nI i9)), (3, .int x9), (4, .int y9), (5, .int m9), (0, .ref 22), (1, .ref 0), (2, .int z)] : Lc)) (st1 := ([.int z, .int (nI j9), .int (nI i9), .ref 0] : List Value)) (w1 := (layB g σ τ)) (by rfl) ?_
            refine bv_fS1 C rfl (cs_isApart hE g σ τ hσ B (nI i9) (nI j9) z hB (by omega)) ml_X2_56 st_X2_isApart ini_X2 cd_X2_isApart ok_X2_isApart rfl ⟨Nat.le_of_ble_eq_true rfl, Nat.le_of_ble_eq_true rfl⟩ ⟨Nat.zero_le _, Nat.zero_le _⟩ (rest := ([] : List Value)) rfl (Nat.le_of_ble_eq_true rfl) ?_
            refine bv_if_eq (j := 41) C rfl rfl (fun c7 => ?_) (fun c7 => ?_)
            · refine bv_blk C frk_X2 csk_X2 1 42 rfl (L1 := ([(7, .int ((nI j9) + Int32.ofInt 1)), (6, .int (nI i9)), (3, .int x9), (4, .int y9), (5, .int m9), (0, .ref 22), (1, .ref 0), (2, .int z)] : Lc)) (st1 := ([] : List Value)) (w1 := (layB g σ τ)) (by rfl) ?_
              rw [show ((nI j9) + Int32.ofInt 1) = nI (j9 + 1) from (nIi rfl)]
              refine bv_goto (j := 15) C rfl rfl ?_
              refine bv_sub [0, 1, 2, 3, 4, 5, 6, 7] (by rfl) ?_
              refine ihI (j9 + 1) x9 y9 m9 (by omega)  ?_
              rw [← heq, abI_2 c6 c7]
            · refine bv_blk C frk_X2 csk_X2 3 35 rfl (L1 := ([(7, .int (nI j9)), (6, .int (nI i9)), (3, .int x9), (4, .int y9), (5, .int m9), (0, .ref 22), (1, .ref 0), (2, .int z)] : Lc)) (st1 := ([.int (nI j9), .int (nI i9), .ref 22] : List Value)) (w1 := (layB g σ τ)) (by rfl) ?_
              refine bv_fV1 C rfl (cs_get hE g σ τ hσ i9 j9 (by omega) (by omega)) ml_X2_52 im_X2_get sel_X2_get ini_X2 cd_X2_get ok_X2_get rfl ⟨Nat.le_of_ble_eq_true rfl, Nat.le_of_ble_eq_true rfl⟩ ⟨Nat.zero_le _, Nat.zero_le _⟩ (by decide) rfl rfl rfl (rest := ([] : List Value)) rfl (Nat.le_of_ble_eq_true rfl) ?_
              refine bv_blk C frk_X2 csk_X2 6 42 rfl (L1 := ([(7, .int ((nI j9) + Int32.ofInt 1)), (4, .int (nI j9)), (3, .int (nI i9)), (5, .int (g 4 (16 * i9 + j9))), (6, .int (nI i9)), (0, .ref 22), (1, .ref 0), (2, .int z)] : Lc)) (st1 := ([] : List Value)) (w1 := (layB g σ τ)) (by rfl) ?_
              rw [show ((nI j9) + Int32.ofInt 1) = nI (j9 + 1) from (nIi rfl)]
              refine bv_goto (j := 15) C rfl rfl ?_
              refine bv_sub [0, 4, 2, 1, 3, 5, 6, 7] (by rfl) ?_
              refine ihI (j9 + 1) (nI i9) (nI j9) (g 4 (16 * i9 + j9)) (by omega)  ?_
              rw [← heq, abI_3 c6 c7]
      refine bv_sub [0, 1, 2, 3, 4, 5, 6, 7] (by rfl) ?_
      exact lpI S1 0 x9 y9 m9 (by omega)  heq
  refine bv_sub [0, 3, 2, 1, 4, 5, 6] (by rfl) ?_
  exact lpO S0 0 (-100000) (-100000) (-100000) (by omega)  rfl
def fbS (n : Nat) (g : Nat → Nat → Int32) (i j : Nat) : Nat → Nat → Int32 := ug (sntG g 0 (nI i) (nI j) 4 n) 4 (16 * i + j) (trnG g 0 (nI i) (nI j) n)
def fbI (n i : Nat) : Nat → Nat → (Nat → Nat → Int32) → Nat → Nat → Int32
  | 0, _, g => g
  | q + 1, j, g => fbI n i q (j + 1) (fbS n g i j)
def fbO (n S1 : Nat) : Nat → Nat → (Nat → Nat → Int32) → Nat → Nat → Int32
  | 0, _, g => g
  | r + 1, i, g => fbO n S1 r (i + 1) (fbI n i S1 0 g)
theorem fbI_0 {n i j : Nat} {g : Nat → Nat → Int32} : fbI n i 0 j g = g := rfl
theorem fbI_s {n i q j : Nat} {g : Nat → Nat → Int32} : fbI n i (q + 1) j g = fbI n i q (j + 1) (fbS n g i j) := rfl
theorem fbO_0 {n S1 i : Nat} {g : Nat → Nat → Int32} : fbO n S1 0 i g = g := rfl
theorem fbO_nx {n S1 r i : Nat} {g : Nat → Nat → Int32} : fbO n S1 (r + 1) i g = fbO n S1 r (i + 1) (fbI n i S1 0 g) := rfl
theorem kp_fbS {n i j : Nat} {g : Nat → Nat → Int32} : kept g (fbS n g i j) := kp_ug (by omega) (kp_snt (kp_rf g))
def bkL (g : Nat → Nat → Int32) (B : Nat) : Prop := ∃ b, g 1 13 = nI b ∧ b ≤ B
def abV (g : Nat → Nat → Int32) (sep : Int32) (S0 S1 : Nat) : Nat → Nat → Int32 := abW g sep (g 1 13).toNatClampNeg S0 S1
theorem kp_abV {g : Nat → Nat → Int32} {sep : Int32} {S0 S1 B : Nat} (hB : bkL g B) (h3 : B < 3) : kept g (abV g sep S0 S1) := by
  obtain ⟨b, h1, h2⟩ := hB
  unfold abV
  rw [h1, nI_clamp (by omega)]
  unfold abW cs_badd_w
  split
  · exact kp_rf g
  · exact kp_ug (by omega) (kp_ug (by omega) (kp_ug (by omega) (kp_ug (by omega) (kp_rf g))))
theorem bk_abV {g : Nat → Nat → Int32} {sep : Int32} {S0 S1 B : Nat} (hB : bkL g B) (h3 : B < 3) : bkL (abV g sep S0 S1) (B + 1) := by
  obtain ⟨b, h1, h2⟩ := hB
  unfold abV
  rw [h1, nI_clamp (by omega)]
  unfold abW cs_badd_w
  split
  · exact ⟨b, h1, by omega⟩
  · refine ⟨b + 1, ?_, by omega⟩
    rw [ug_same, ug_ne (by omega), ug_ne (by omega), ug_ne (by omega), h1, nI_1]
theorem cs_addBestA {l : Launch} {D : va_G} {cA : FieldType → ClassId} {z0 : Nat} {SK : Nat → Nat} {SV : Nat → Int32} {ad : Nat → Nat} (hE : aD (fun q => z0 ≤ q) ad 26) (g : Nat → Nat → Int32) (σ τ : Nat → Nat) (hσ : pmK σ τ) (B S0 S1 : Nat) (z : Int32) (hS0 : g 1 15 = nI S0) (hS1 : g 1 35 = nI S1) (hA : S0 ≤ 16) (hC : S1 ≤ 16) (hB : bkL g B) (hB3 : B < 3) : bF l D cA z0 SK SV ad shB 26 yX2_addBestPair cX2_addBestPair 8 none 4 [.ref 22, .ref 0, .int z] (layB g σ τ) none (layB (abV g z S0 S1) σ τ) := by
  obtain ⟨b, h1, h2⟩ := hB
  unfold abV
  rw [h1, nI_clamp (by omega)]
  exact cs_addBest hE g σ τ hσ b S0 S1 z hS0 hS1 hA hC h1 (by omega)
def fbW (n S0 S1 : Nat) (z : Int32) (g : Nat → Nat → Int32) : Nat → Nat → Int32 := abV (abV (abV (ug (fbO n S1 S0 0 g) 1 13 0) z S0 S1) z S0 S1) z S0 S1
set_option maxRecDepth 100000 in
set_option maxHeartbeats 8000000 in
theorem cs_findBackups {l : Launch} {D : va_G} {cA : FieldType → ClassId} {z0 : Nat} {SK : Nat → Nat} {SV : Nat → Int32} {ad : Nat → Nat} (hE : aD (fun q => z0 ≤ q) ad 26) (g : Nat → Nat → Int32) (σ τ : Nat → Nat) (hσ : pmK σ τ) (n S0 S1 : Nat) (z : Int32) (hs : statR g n) (hS0 : g 1 15 = nI S0) (hS1 : g 1 35 = nI S1) (hA : S0 ≤ 16) (hC : S1 ≤ 16) : bF l D cA z0 SK SV ad shB 26 yX2_findBackups cX2_findBackups 5 none 5 [.ref 22, .ref 0, .int z] (layB g σ τ) none (layB (fbW n S0 S1 z g) σ τ) := by
  refine bCT_intro (tb := tb_X2_findBackups) (own := RX2) hE pn_X2 rfl tk_X2_findBackups rfl (Nat.le_of_ble_eq_true rfl) ?_
  intro p e s0 m args below meth c C hr
  refine bv_blk C frk_X2 csk_X2 2 2 rfl (L1 := ([(3, .int (0)), (0, .ref 22), (1, .ref 0), (2, .int z)] : Lc)) (st1 := ([] : List Value)) (w1 := (layB g σ τ)) (by rfl) ?_
  have lpO : ∀ (r9 i9 : Nat) (gg : Nat → Nat → Int32) , i9 + r9 = S0 → statR gg n → gg 1 15 = nI S0 → gg 1 35 = nI S1 → fbO n S1 r9 i9 gg = fbO n S1 S0 0 g → bV p l e (bR 5) s0 m args below meth c D cA shB (adA ad 26) 5 tb_X2_findBackups (MQ below (bQ D cA ad shB 26 (fun r w1 => r = none ∧ w1 = (layB (fbW n S0 S1 z g) σ τ))) args s0 0 0 (adA ad 26)) ad 26 0 0 (layB gg σ τ) 2 ([(3, .int (nI i9)), (0, .ref 22), (1, .ref 0), (2, .int z)] : Lc) ([] : List Value) := by
    intro r9
    induction r9 with
    | zero =>
      intro i9 gg hi9 hs hg0 hg1 heq
      rw [fbO_0] at heq
      refine bv_blk C frk_X2 csk_X2 4 6 rfl (L1 := ([(3, .int (nI i9)), (0, .ref 22), (1, .ref 0), (2, .int z)] : Lc)) (st1 := ([.int (gg 1 15), .int (nI i9)] : List Value)) (w1 := (layB gg σ τ)) (by rfl) ?_
      refine bv_icmp_ge (j := 28) C rfl rfl (fun _ => ?_) (fun h => absurd (by rw [show (gg 1 15) = nI S0 from hg0]; exact (nI_le (a := S0) (b := i9) (by omega) (by omega))) h)
      refine bv_blk C frk_X2 csk_X2 4 32 rfl (L1 := ([(3, .int (nI i9)), (0, .ref 22), (1, .ref 0), (2, .int z)] : Lc)) (st1 := ([] : List Value)) (w1 := up2 (layB gg σ τ) 14 3 (.int (0))) (by rfl) ?_
      refine bv_w (lb_up (o := 14) (k := 3) (a := 1) (b := 13) hσ (by decide) (by decide) (by rfl) (by rfl)) ?_
      refine bv_blk C frk_X2 csk_X2 2 34 rfl (L1 := ([(3, .int (0)), (0, .ref 22), (1, .ref 0), (2, .int z)] : Lc)) (st1 := ([] : List Value)) (w1 := (layB (ug gg 1 13 (0)) σ τ)) (by rfl) ?_
      obtain ⟨v0, ev0⟩ : ∃ x : Nat → Nat → Int32, x = (ug (fbO n S1 S0 0 g) 1 13 0) := ⟨_, rfl⟩
      refine bv_weq (show (layB (ug gg 1 13 (0)) σ τ) = (layB v0 σ τ) from by rw [heq, ev0]) ?_
      have a0 : v0 1 15 = nI S0 := by rw [ev0, ← heq, ug_ne (by omega)]; exact hg0
      have b0 : v0 1 35 = nI S1 := by rw [ev0, ← heq, ug_ne (by omega)]; exact hg1
      have k0 : bkL v0 0 := ⟨0, by rw [ev0, ug_same]; rfl, Nat.le_refl _⟩
      refine bv_blk C frk_X2 csk_X2 2 36 rfl (L1 := ([(3, .int (0)), (0, .ref 22), (1, .ref 0), (2, .int z)] : Lc)) (st1 := ([.int (3), .int (0)] : List Value)) (w1 := (layB v0 σ τ)) (by rfl) ?_
      refine bv_icmp_ge (j := 43) C rfl rfl (fun h => absurd h (by decide)) (fun _ => ?_)
      refine bv_blk C frk_X2 csk_X2 3 40 rfl (L1 := ([(3, .int (0)), (0, .ref 22), (1, .ref 0), (2, .int z)] : Lc)) (st1 := ([.int z, .ref 0, .ref 22] : List Value)) (w1 := (layB v0 σ τ)) (by rfl) ?_
      refine bv_fV0 C rfl (cs_addBestA hE v0 σ τ hσ 0 S0 S1 z a0 b0 hA hC k0 (by omega)) ml_X2_47 im_X2_addBestPair sel_X2_addBestPair ini_X2 cd_X2_addBestPair ok_X2_addBestPair rfl ⟨Nat.le_of_ble_eq_true rfl, Nat.le_of_ble_eq_true rfl⟩ ⟨Nat.zero_le _, Nat.zero_le _⟩ (by decide) rfl rfl rfl (rest := ([] : List Value)) rfl (Nat.le_of_ble_eq_true rfl) ?_
      obtain ⟨v2, ev2⟩ : ∃ x : Nat → Nat → Int32, x = (abV v0 z S0 S1) := ⟨_, rfl⟩
      refine bv_weq (show (layB (abV v0 z S0 S1) σ τ) = (layB v2 σ τ) from by rw [ev2]) ?_
      have a1 : v2 1 15 = nI S0 := by rw [ev2]; exact (kp_abV k0 (by omega) 15 (by unfold stK; omega)).trans a0
      have b1 : v2 1 35 = nI S1 := by rw [ev2]; exact (kp_abV k0 (by omega) 35 (by unfold stK; omega)).trans b0
      have k1 : bkL v2 1 := by rw [ev2]; exact bk_abV k0 (by omega)
      refine bv_blk C frk_X2 csk_X2 1 42 rfl (L1 := ([(3, .int ((0) + Int32.ofInt 1)), (0, .ref 22), (1, .ref 0), (2, .int z)] : Lc)) (st1 := ([] : List Value)) (w1 := (layB v2 σ τ)) (by rfl) ?_
      refine bv_goto (j := 34) C rfl rfl ?_
      refine bv_blk C frk_X2 csk_X2 2 36 rfl (L1 := ([(3, .int ((0) + Int32.ofInt 1)), (0, .ref 22), (1, .ref 0), (2, .int z)] : Lc)) (st1 := ([.int (3), .int ((0) + Int32.ofInt 1)] : List Value)) (w1 := (layB v2 σ τ)) (by rfl) ?_
      refine bv_icmp_ge (j := 43) C rfl rfl (fun h => absurd h (by decide)) (fun _ => ?_)
      refine bv_blk C frk_X2 csk_X2 3 40 rfl (L1 := ([(3, .int ((0) + Int32.ofInt 1)), (0, .ref 22), (1, .ref 0), (2, .int z)] : Lc)) (st1 := ([.int z, .ref 0, .ref 22] : List Value)) (w1 := (layB v2 σ τ)) (by rfl) ?_
      refine bv_fV0 C rfl (cs_addBestA hE v2 σ τ hσ 1 S0 S1 z a1 b1 hA hC k1 (by omega)) ml_X2_47 im_X2_addBestPair sel_X2_addBestPair ini_X2 cd_X2_addBestPair ok_X2_addBestPair rfl ⟨Nat.le_of_ble_eq_true rfl, Nat.le_of_ble_eq_true rfl⟩ ⟨Nat.zero_le _, Nat.zero_le _⟩ (by decide) rfl rfl rfl (rest := ([] : List Value)) rfl (Nat.le_of_ble_eq_true rfl) ?_
      obtain ⟨v3, ev3⟩ : ∃ x : Nat → Nat → Int32, x = (abV v2 z S0 S1) := ⟨_, rfl⟩
      refine bv_weq (show (layB (abV v2 z S0 S1) σ τ) = (layB v3 σ τ) from by rw [ev3]) ?_
      have a2 : v3 1 15 = nI S0 := by rw [ev3]; exact (kp_abV k1 (by omega) 15 (by unfold stK; omega)).trans a1
      have b2 : v3 1 35 = nI S1 := by rw [ev3]; exact (kp_abV k1 (by omega) 35 (by unfold stK; omega)).trans b1
      have k2 : bkL v3 2 := by rw [ev3]; exact bk_abV k1 (by omega)
      refine bv_blk C frk_X2 csk_X2 1 42 rfl (L1 := ([(3, .int (((0) + Int32.ofInt 1) + Int32.ofInt 1)), (0, .ref 22), (1, .ref 0), (2, .int z)] : Lc)) (st1 := ([] : List Value)) (w1 := (layB v3 σ τ)) (by rfl) ?_
      refine bv_goto (j := 34) C rfl rfl ?_
      refine bv_blk C frk_X2 csk_X2 2 36 rfl (L1 := ([(3, .int (((0) + Int32.ofInt 1) + Int32.ofInt 1)), (0, .ref 22), (1, .ref 0), (2, .int z)] : Lc)) (st1 := ([.int (3), .int (((0) + Int32.ofInt 1) + Int32.ofInt 1)] : List Value)) (w1 := (layB v3 σ τ)) (by rfl) ?_
      refine bv_icmp_ge (j := 43) C rfl rfl (fun h => absurd h (by decide)) (fun _ => ?_)
      refine bv_blk C frk_X2 csk_X2 3 40 rfl (L1 := ([(3, .int (((0) + Int32.ofInt 1) + Int32.ofInt 1)), (0, .ref 22), (1, .ref 0), (2, .int z)] : Lc)) (st1 := ([.int z, .ref 0, .ref 22] : List Value)) (w1 := (layB v3 σ τ)) (by rfl) ?_
      refine bv_fV0 C rfl (cs_addBestA hE v3 σ τ hσ 2 S0 S1 z a2 b2 hA hC k2 (by omega)) ml_X2_47 im_X2_addBestPair sel_X2_addBestPair ini_X2 cd_X2_addBestPair ok_X2_addBestPair rfl ⟨Nat.le_of_ble_eq_true rfl, Nat.le_of_ble_eq_true rfl⟩ ⟨Nat.zero_le _, Nat.zero_le _⟩ (by decide) rfl rfl rfl (rest := ([] : List Value)) rfl (Nat.le_of_ble_eq_true rfl) ?_
      obtain ⟨v4, ev4⟩ : ∃ x : Nat → Nat → Int32, x = (abV v3 z S0 S1) := ⟨_, rfl⟩
      refine bv_weq (show (layB (abV v3 z S0 S1) σ τ) = (layB v4 σ τ) from by rw [ev4]) ?_
      have a3 : v4 1 15 = nI S0 := by rw [ev4]; exact (kp_abV k2 (by omega) 15 (by unfold stK; omega)).trans a2
      have b3 : v4 1 35 = nI S1 := by rw [ev4]; exact (kp_abV k2 (by omega) 35 (by unfold stK; omega)).trans b2
      have k3 : bkL v4 3 := by rw [ev4]; exact bk_abV k2 (by omega)
      refine bv_blk C frk_X2 csk_X2 1 42 rfl (L1 := ([(3, .int ((((0) + Int32.ofInt 1) + Int32.ofInt 1) + Int32.ofInt 1)), (0, .ref 22), (1, .ref 0), (2, .int z)] : Lc)) (st1 := ([] : List Value)) (w1 := (layB v4 σ τ)) (by rfl) ?_
      refine bv_goto (j := 34) C rfl rfl ?_
      refine bv_blk C frk_X2 csk_X2 2 36 rfl (L1 := ([(3, .int ((((0) + Int32.ofInt 1) + Int32.ofInt 1) + Int32.ofInt 1)), (0, .ref 22), (1, .ref 0), (2, .int z)] : Lc)) (st1 := ([.int (3), .int ((((0) + Int32.ofInt 1) + Int32.ofInt 1) + Int32.ofInt 1)] : List Value)) (w1 := (layB v4 σ τ)) (by rfl) ?_
      refine bv_icmp_ge (j := 43) C rfl rfl (fun _ => ?_) (fun h => absurd h (by decide))
      exact bv_vret C rfl hr ⟨by (rfl), by (subst ev2; subst ev3; subst ev4; unfold fbW; subst ev0; rfl)⟩
    | succ r9 ihO =>
      intro i9 gg hi9 hs hg0 hg1 heq
      rw [fbO_nx] at heq
      refine bv_blk C frk_X2 csk_X2 4 6 rfl (L1 := ([(3, .int (nI i9)), (0, .ref 22), (1, .ref 0), (2, .int z)] : Lc)) (st1 := ([.int (gg 1 15), .int (nI i9)] : List Value)) (w1 := (layB gg σ τ)) (by rfl) ?_
      refine bv_icmp_ge (j := 28) C rfl rfl (fun h => absurd h (by rw [show (gg 1 15) = nI S0 from hg0]; exact (nI_ge (a := i9) (b := S0) (by omega) (by omega)))) (fun _ => ?_)
      refine bv_blk C frk_X2 csk_X2 2 9 rfl (L1 := ([(4, .int (0)), (3, .int (nI i9)), (0, .ref 22), (1, .ref 0), (2, .int z)] : Lc)) (st1 := ([] : List Value)) (w1 := (layB gg σ τ)) (by rfl) ?_
      have lpI : ∀ (q9 j9 : Nat) (gg : Nat → Nat → Int32) , j9 + q9 = S1 → statR gg n → gg 1 15 = nI S0 → gg 1 35 = nI S1 → fbO n S1 r9 (i9 + 1) (fbI n i9 q9 j9 gg) = fbO n S1 S0 0 g → bV p l e (bR 5) s0 m args below meth c D cA shB (adA ad 26) 5 tb_X2_findBackups (MQ below (bQ D cA ad shB 26 (fun r w1 => r = none ∧ w1 = (layB (fbW n S0 S1 z g) σ τ))) args s0 0 0 (adA ad 26)) ad 26 0 0 (layB gg σ τ) 9 ([(4, .int (nI j9)), (3, .int (nI i9)), (0, .ref 22), (1, .ref 0), (2, .int z)] : Lc) ([] : List Value) := by
        intro q9
        induction q9 with
        | zero =>
          intro j9 gg hj9 hs hg0 hg1 heq
          rw [fbI_0] at heq
          refine bv_blk C frk_X2 csk_X2 4 13 rfl (L1 := ([(4, .int (nI j9)), (3, .int (nI i9)), (0, .ref 22), (1, .ref 0), (2, .int z)] : Lc)) (st1 := ([.int (gg 1 35), .int (nI j9)] : List Value)) (w1 := (layB gg σ τ)) (by rfl) ?_
          refine bv_icmp_ge (j := 26) C rfl rfl (fun _ => ?_) (fun h => absurd (by rw [show (gg 1 35) = nI S1 from hg1]; exact (nI_le (a := S1) (b := j9) (by omega) (by omega))) h)
          refine bv_blk C frk_X2 csk_X2 1 27 rfl (L1 := ([(3, .int ((nI i9) + Int32.ofInt 1)), (4, .int (nI j9)), (0, .ref 22), (1, .ref 0), (2, .int z)] : Lc)) (st1 := ([] : List Value)) (w1 := (layB gg σ τ)) (by rfl) ?_
          rw [show ((nI i9) + Int32.ofInt 1) = nI (i9 + 1) from (nIi rfl)]
          refine bv_goto (j := 2) C rfl rfl ?_
          refine bv_sub [0, 2, 3, 4] (by rfl) ?_
          exact ihO (i9 + 1) gg (by omega) hs hg0 hg1 heq
        | succ q9 ihI =>
          intro j9 gg hj9 hs hg0 hg1 heq
          refine bv_blk C frk_X2 csk_X2 4 13 rfl (L1 := ([(4, .int (nI j9)), (3, .int (nI i9)), (0, .ref 22), (1, .ref 0), (2, .int z)] : Lc)) (st1 := ([.int (gg 1 35), .int (nI j9)] : List Value)) (w1 := (layB gg σ τ)) (by rfl) ?_
          refine bv_icmp_ge (j := 26) C rfl rfl (fun h => absurd h (by rw [show (gg 1 35) = nI S1 from hg1]; exact (nI_ge (a := j9) (b := S1) (by omega) (by omega)))) (fun _ => ?_)
          refine bv_blk C frk_X2 csk_X2 8 22 rfl (L1 := ([(4, .int (nI j9)), (3, .int (nI i9)), (0, .ref 22), (1, .ref 0), (2, .int z)] : Lc)) (st1 := ([.int (4), .int (nI j9), .int (nI i9), .int (0), .ref 0, .int (nI j9), .int (nI i9), .ref 22] : List Value)) (w1 := (layB gg σ τ)) (by rfl) ?_
          refine bv_fV1 C rfl (cs_transmit0 hE gg σ τ hσ n (nI i9) (nI j9) (4) hs) ml_X2_30 im_X6_transmit sel_X6_transmit ini_X6 cd_X6_transmit ok_X6_transmit rfl ⟨Nat.le_of_ble_eq_true rfl, Nat.le_of_ble_eq_true rfl⟩ ⟨Nat.zero_le _, Nat.zero_le _⟩ (by decide) rfl rfl rfl (rest := ([.int (nI j9), .int (nI i9), .ref 22] : List Value)) rfl (Nat.le_of_ble_eq_true rfl) ?_
          refine bv_fV0 C rfl (cs_put hE (sntG gg 0 (nI i9) (nI j9) (4) n) σ τ hσ i9 j9 (trnG gg 0 (nI i9) (nI j9) n) (by omega) (by omega)) ml_X2_34 im_X2_put sel_X2_put ini_X2 cd_X2_put ok_X2_put rfl ⟨Nat.le_of_ble_eq_true rfl, Nat.le_of_ble_eq_true rfl⟩ ⟨Nat.zero_le _, Nat.zero_le _⟩ (by decide) rfl rfl rfl (rest := ([] : List Value)) rfl (Nat.le_of_ble_eq_true rfl) ?_
          refine bv_blk C frk_X2 csk_X2 1 25 rfl (L1 := ([(4, .int ((nI j9) + Int32.ofInt 1)), (3, .int (nI i9)), (0, .ref 22), (1, .ref 0), (2, .int z)] : Lc)) (st1 := ([] : List Value)) (w1 := (layB (ug (sntG gg 0 (nI i9) (nI j9) (4) n) 4 (16 * i9 + j9) (trnG gg 0 (nI i9) (nI j9) n)) σ τ)) (by rfl) ?_
          rw [show ((nI j9) + Int32.ofInt 1) = nI (j9 + 1) from (nIi rfl)]
          refine bv_goto (j := 9) C rfl rfl ?_
          refine bv_sub [0, 1, 2, 3, 4] (by rfl) ?_
          refine ihI (j9 + 1) (ug (sntG gg 0 (nI i9) (nI j9) (4) n) 4 (16 * i9 + j9) (trnG gg 0 (nI i9) (nI j9) n)) (by omega) (st_same kp_fbS hs) ((kp_fbS 15 (by unfold stK; omega)).trans hg0) ((kp_fbS 35 (by unfold stK; omega)).trans hg1) ?_
          rw [← heq, fbI_s]; rfl
      refine bv_sub [0, 1, 2, 3, 4] (by rfl) ?_
      exact lpI S1 0 gg (by omega) hs hg0 hg1 heq
  refine bv_sub [0, 1, 2, 3] (by rfl) ?_
  exact lpO S0 0 g (by omega) hs hS0 hS1 rfl
