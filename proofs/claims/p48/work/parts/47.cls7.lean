def ssS (fr n : Nat) (g : Nat → Nat → Int32) (k : Nat) : Nat → Nat → Int32 := ug (sntG g fr (b0W fr (nI k) (-1)) (b1W fr (nI k) (-1)) 16 n) 1 (19 + 20 * (1 - fr) + k) (trnG g fr (b0W fr (nI k) (-1)) (b1W fr (nI k) (-1)) n)
def ssG (fr n : Nat) : Nat → (Nat → Nat → Int32) → Nat → Nat → Int32
  | 0, g => g
  | k + 1, g => ssG fr n k (ssS fr n g k)
def ssB (fr n : Nat) : Nat → (Nat → Nat → Int32) → Int32 → Int32 → Int32
  | 0, _, b, _ => b
  | k + 1, g, b, m => if trnG g fr (b0W fr (nI k) (-1)) (b1W fr (nI k) (-1)) n ≤ m then ssB fr n k (ssS fr n g k) b m else ssB fr n k (ssS fr n g k) (nI k) (trnG g fr (b0W fr (nI k) (-1)) (b1W fr (nI k) (-1)) n)
theorem kp_ssS {g : Nat → Nat → Int32} {fr n k : Nat} (hf : fr < 2) (hk : k < 16) : kept g (ssS fr n g k) := kp_ug (by omega) (kp_snt (kp_rf g))
theorem kp_ssG {g0 : Nat → Nat → Int32} {fr n : Nat} (hf : fr < 2) : ∀ (S : Nat) (g : Nat → Nat → Int32), S ≤ 16 → kept g0 g → kept g0 (ssG fr n S g)
  | 0, _, _, h => h
  | S + 1, g, hS, h => kp_ssG hf S _ (by omega) (kp_tr h (kp_ssS hf (by omega)))
theorem kf_ssS {g : Nat → Nat → Int32} {fr n k : Nat} (hf : fr < 2) (hk : k < 16) : keptF g (ssS fr n g k) := kf_ug (by omega) (kf_snt (kf_rf g))
theorem kf_ssG {g0 : Nat → Nat → Int32} {fr n : Nat} (hf : fr < 2) : ∀ (S : Nat) (g : Nat → Nat → Int32), S ≤ 16 → keptF g0 g → keptF g0 (ssG fr n S g)
  | 0, _, _, h => h
  | S + 1, g, hS, h => kf_ssG hf S _ (by omega) (kf_tr h (kf_ssS hf (by omega)))
def esG (f : Nat) (r : Int32) (g : Nat → Nat → Int32) : Nat → Nat → Int32 := if r = 0 then nteG (ug (ug g 1 0 1) 1 1 0) 1 (nI f) else nteG (ug (ug g 1 0 0) 1 1 0) 5 r
set_option maxRecDepth 100000 in
set_option maxHeartbeats 8000000 in
theorem cs_sendSectors0 {l : Launch} {D : va_G} {cA : FieldType → ClassId} {z0 : Nat} {SK : Nat → Nat} {SV : Nat → Int32} {ad : Nat → Nat} (hE : aD (fun q => z0 ≤ q) ad 26) (g : Nat → Nat → Int32) (σ τ : Nat → Nat) (hσ : pmK σ τ) (n S : Nat) (hs : statR g n) (hS : g 1 15 = nI S) (hS2 : 2 ≤ S ∧ S ≤ 16) : bF l D cA z0 SK SV ad shB 26 yX6_sendSectors cX6_sendSectors 7 (some .int) 4 [.ref 0, .int (0)] (layB g σ τ) (some (.int (ssB 0 n S g (-100000) (-100000)))) (layB (ssG 0 n S g) σ τ) := by
  refine bCT_intro (tb := tb_X6_sendSectors) (own := RX6) hE pn_X6 rfl tk_X6_sendSectors rfl (Nat.le_of_ble_eq_true rfl) ?_
  intro p e s0 m args below meth c C hr
  refine bv_blk C frk_X6 csk_X6 4 4 rfl (L1 := ([(0, .ref 0), (1, .int (0))] : Lc)) (st1 := ([.int ((1) - (0)), .ref 0] : List Value)) (w1 := (layB g σ τ)) (by rfl) ?_
  refine bv_fV1 C rfl (cs_station1 hE g σ τ hσ) ml_X6_107 im_X6_station sel_X6_station ini_X6 cd_X6_station ok_X6_station rfl ⟨Nat.le_of_ble_eq_true rfl, Nat.le_of_ble_eq_true rfl⟩ ⟨Nat.zero_le _, Nat.zero_le _⟩ (by decide) rfl rfl rfl (rest := ([] : List Value)) rfl (Nat.le_of_ble_eq_true rfl) ?_
  refine bv_blk C frk_X6 csk_X6 7 12 rfl (L1 := ([(4, .int (-100000)), (3, .int (-100000)), (2, .ref 3), (0, .ref 0), (1, .int (0))] : Lc)) (st1 := ([.int (0), .ref 0] : List Value)) (w1 := (layB g σ τ)) (by rfl) ?_
  refine bv_fV1 C rfl (cs_station0 hE g σ τ hσ) ml_X6_107 im_X6_station sel_X6_station ini_X6 cd_X6_station ok_X6_station rfl ⟨Nat.le_of_ble_eq_true rfl, Nat.le_of_ble_eq_true rfl⟩ ⟨Nat.zero_le _, Nat.zero_le _⟩ (by decide) rfl rfl rfl (rest := ([] : List Value)) rfl (Nat.le_of_ble_eq_true rfl) ?_
  refine bv_blk C frk_X6 csk_X6 4 17 rfl (L1 := ([(5, .int ((g 1 15) - (1))), (4, .int (-100000)), (3, .int (-100000)), (2, .ref 3), (0, .ref 0), (1, .int (0))] : Lc)) (st1 := ([] : List Value)) (w1 := (layB g σ τ)) (by rfl) ?_
  have lp : ∀ (q : Nat) (gg : Nat → Nat → Int32) (bs bm : Int32), q ≤ S → statR gg n → ssG 0 n q gg = ssG 0 n S g → ssB 0 n q gg bs bm = ssB 0 n S g (-100000) (-100000) → bV p l e (bR 4) s0 m args below meth c D cA shB (adA ad 26) 7 tb_X6_sendSectors (MQ below (bQ D cA ad shB 26 (fun r w1 => r = (some (.int (ssB 0 n S g (-100000) (-100000)))) ∧ w1 = (layB (ssG 0 n S g) σ τ))) args s0 0 0 (adA ad 26)) ad 26 0 0 (layB gg σ τ) 17 ([(5, .int (nI q - 1)), (0, .ref 0), (1, .int (0)), (2, .ref 3), (3, .int bs), (4, .int bm)] : Lc) ([] : List Value) := by
    intro q
    induction q with
    | zero =>
      intro gg bs bm hq hs hG hB
      refine bv_blk C frk_X6 csk_X6 1 18 rfl (L1 := ([(5, .int (nI 0 - 1)), (0, .ref 0), (1, .int (0)), (2, .ref 3), (3, .int bs), (4, .int bm)] : Lc)) (st1 := ([.int (nI 0 - 1)] : List Value)) (w1 := (layB gg σ τ)) (by rfl) ?_
      refine bv_if_lt (j := 39) C rfl rfl (fun _ => ?_) (fun h => absurd h (by decide))
      refine bv_blk C frk_X6 csk_X6 1 40 rfl (L1 := ([(5, .int (nI 0 - 1)), (0, .ref 0), (1, .int (0)), (2, .ref 3), (3, .int bs), (4, .int bm)] : Lc)) (st1 := ([.int bs] : List Value)) (w1 := (layB gg σ τ)) (by rfl) ?_
      exact bv_iret C rfl hr rfl ⟨by (exact congrArg (fun x => some (Value.int x)) hB), by (exact congrArg (fun x => layB x σ τ) hG)⟩
    | succ q ih =>
      intro gg bs bm hq hs hG hB
      rw [show nI (q + 1) - 1 = nI q from pk_sub (b := 1) (by omega)]
      refine bv_blk C frk_X6 csk_X6 1 18 rfl (L1 := ([(5, .int (nI q)), (0, .ref 0), (1, .int (0)), (2, .ref 3), (3, .int bs), (4, .int bm)] : Lc)) (st1 := ([.int (nI q)] : List Value)) (w1 := (layB gg σ τ)) (by rfl) ?_
      refine bv_if_lt (j := 39) C rfl rfl (fun h => absurd h (nI_nlt (a := q) (b := 0) (by omega) (by omega))) (fun _ => ?_)
      refine bv_blk C frk_X6 csk_X6 5 24 rfl (L1 := ([(5, .int (nI q)), (0, .ref 0), (1, .int (0)), (2, .ref 3), (3, .int bs), (4, .int bm)] : Lc)) (st1 := ([.int (16), .int (-1), .int (nI q), .int (0), .ref 0] : List Value)) (w1 := (layB gg σ τ)) (by rfl) ?_
      refine bv_fV1 C rfl (cs_transmit0 hE gg σ τ hσ n (nI q) (-1) (16) hs) ml_X6_183 im_X6_transmit sel_X6_transmit ini_X6 cd_X6_transmit ok_X6_transmit rfl ⟨Nat.le_of_ble_eq_true rfl, Nat.le_of_ble_eq_true rfl⟩ ⟨Nat.zero_le _, Nat.zero_le _⟩ (by decide) rfl rfl rfl (rest := ([] : List Value)) rfl (Nat.le_of_ble_eq_true rfl) ?_
      refine bv_blk C frk_X6 csk_X6 4 29 rfl (L1 := ([(6, .int (trnG gg 0 (nI q) (-1) n)), (5, .int (nI q)), (0, .ref 0), (1, .int (0)), (2, .ref 3), (3, .int bs), (4, .int bm)] : Lc)) (st1 := ([.int (trnG gg 0 (nI q) (-1) n), .int (nI q), .ref 3] : List Value)) (w1 := (layB (sntG gg 0 (nI q) (-1) (16) n) σ τ)) (by rfl) ?_
      refine bv_fV0 C rfl (cs_enter_3 hE (sntG gg 0 (nI q) (-1) (16) n) σ τ hσ q (trnG gg 0 (nI q) (-1) n) (by omega)) ml_X6_187 im_X7_enter sel_X7_enter ini_X7 cd_X7_enter ok_X7_enter rfl ⟨Nat.le_of_ble_eq_true rfl, Nat.le_of_ble_eq_true rfl⟩ ⟨Nat.zero_le _, Nat.zero_le _⟩ (by decide) rfl rfl rfl (rest := ([] : List Value)) rfl (Nat.le_of_ble_eq_true rfl) ?_
      refine bv_blk C frk_X6 csk_X6 2 32 rfl (L1 := ([(6, .int (trnG gg 0 (nI q) (-1) n)), (5, .int (nI q)), (0, .ref 0), (1, .int (0)), (2, .ref 3), (3, .int bs), (4, .int bm)] : Lc)) (st1 := ([.int bm, .int (trnG gg 0 (nI q) (-1) n)] : List Value)) (w1 := (layB (ug (sntG gg 0 (nI q) (-1) (16) n) 1 (39 + q) (trnG gg 0 (nI q) (-1) n)) σ τ)) (by rfl) ?_
      refine bv_icmp_le (j := 37) C rfl rfl (fun c3 => ?_) (fun c3 => ?_)
      · refine bv_blk C frk_X6 csk_X6 1 38 rfl (L1 := ([(5, .int ((nI q) + Int32.ofInt (-1))), (6, .int (trnG gg 0 (nI q) (-1) n)), (0, .ref 0), (1, .int (0)), (2, .ref 3), (3, .int bs), (4, .int bm)] : Lc)) (st1 := ([] : List Value)) (w1 := (layB (ug (sntG gg 0 (nI q) (-1) (16) n) 1 (39 + q) (trnG gg 0 (nI q) (-1) n)) σ τ)) (by rfl) ?_
        refine bv_goto (j := 17) C rfl rfl ?_
        rw [nI_m1 q]
        refine bv_sub [0, 2, 3, 4, 5, 6] (by rfl) ?_
        refine ih (ssS 0 n gg q) _ _ (by omega) (st_same (kp_ssS (by omega) (by omega)) hs) hG ?_
        exact (if_pos c3).symm.trans hB
      · refine bv_blk C frk_X6 csk_X6 5 38 rfl (L1 := ([(5, .int ((nI q) + Int32.ofInt (-1))), (3, .int (nI q)), (4, .int (trnG gg 0 (nI q) (-1) n)), (6, .int (trnG gg 0 (nI q) (-1) n)), (0, .ref 0), (1, .int (0)), (2, .ref 3)] : Lc)) (st1 := ([] : List Value)) (w1 := (layB (ug (sntG gg 0 (nI q) (-1) (16) n) 1 (39 + q) (trnG gg 0 (nI q) (-1) n)) σ τ)) (by rfl) ?_
        refine bv_goto (j := 17) C rfl rfl ?_
        rw [nI_m1 q]
        refine bv_sub [0, 4, 5, 6, 1, 2] (by rfl) ?_
        refine ih (ssS 0 n gg q) _ _ (by omega) (st_same (kp_ssS (by omega) (by omega)) hs) hG ?_
        exact (if_neg c3).symm.trans hB
  refine bv_sub [0, 4, 5, 3, 2, 1] (by rfl) ?_
  rw [show ((g 1 15) - (1)) = nI S - 1 from by rw [hS]]
  exact lp S g _ _ (Nat.le_refl _) hs rfl rfl
set_option maxRecDepth 100000 in
set_option maxHeartbeats 8000000 in
theorem cs_endSweep0 {l : Launch} {D : va_G} {cA : FieldType → ClassId} {z0 : Nat} {SK : Nat → Nat} {SV : Nat → Int32} {ad : Nat → Nat} (hE : aD (fun q => z0 ≤ q) ad 26) (g : Nat → Nat → Int32) (σ τ : Nat → Nat) (hσ : pmK σ τ) (r : Int32) (hev : evK g) : bF l D cA z0 SK SV ad shB 26 yX6_endSweep cX6_endSweep 3 (some .int) 2 [.ref 0, .int (0), .int r] (layB g σ τ) (some (.int r)) (layB (esG 0 r g) σ τ) := by
  refine bCT_intro (tb := tb_X6_endSweep) (own := RX6) hE pn_X6 rfl tk_X6_endSweep rfl (Nat.le_of_ble_eq_true rfl) ?_
  intro p e s0 m args below meth c C hr
  refine bv_blk C frk_X6 csk_X6 2 2 rfl (L1 := ([(0, .ref 0), (1, .int (0)), (2, .int r)] : Lc)) (st1 := ([.int r, .ref 0] : List Value)) (w1 := (layB g σ τ)) (by rfl) ?_
  refine bv_if_ne (j := 5) C rfl rfl (fun c1 => ?_) (fun c1 => ?_)
  · refine bv_blk C frk_X6 csk_X6 1 6 rfl (L1 := ([(0, .ref 0), (1, .int (0)), (2, .int r)] : Lc)) (st1 := ([.int (0), .ref 0] : List Value)) (w1 := (layB g σ τ)) (by rfl) ?_
    refine bv_put (ty := .boolean) C rfl cl_X6 fl_X6_57 (by decide) rfl (by decide +kernel) (nar_01 (by decide) _) rfl rfl (by decide) (by decide) ?_
    refine bv_w (lb_up (o := 0) (k := 6) (a := 1) (b := 0) hσ (by decide) (by decide) (by rfl) (by rfl)) ?_
    refine bv_blk C frk_X6 csk_X6 3 10 rfl (L1 := ([(0, .ref 0), (1, .int (0)), (2, .int r)] : Lc)) (st1 := ([] : List Value)) (w1 := up2 (layB (ug g 1 0 (0)) σ τ) 0 7 (.int (0))) (by rfl) ?_
    refine bv_w (lb_up (o := 0) (k := 7) (a := 1) (b := 1) hσ (by decide) (by decide) (by rfl) (by rfl)) ?_
    refine bv_blk C frk_X6 csk_X6 2 12 rfl (L1 := ([(0, .ref 0), (1, .int (0)), (2, .int r)] : Lc)) (st1 := ([.int (0)] : List Value)) (w1 := (layB (ug (ug g 1 0 (0)) 1 1 (0)) σ τ)) (by rfl) ?_
    refine bv_if_eq (j := 21) C rfl rfl (fun _ => ?_) (fun h => absurd h (by decide))
    refine bv_blk C frk_X6 csk_X6 6 27 rfl (L1 := ([(0, .ref 0), (1, .int (0)), (2, .int r)] : Lc)) (st1 := ([.int (g 1 2), .int r, .int (5), .ref 18] : List Value)) (w1 := (layB (ug (ug g 1 0 (0)) 1 1 (0)) σ τ)) (by rfl) ?_
    refine bv_fV0 C rfl (cs_eadd hE (ug (ug g 1 0 (0)) 1 1 (0)) σ τ hσ (5) r (g 1 2) (rfl) (evK_at hev rfl)) ml_X6_191 im_X1_add sel_X1_add ini_X1 cd_X1_add ok_X1_add rfl ⟨Nat.le_of_ble_eq_true rfl, Nat.le_of_ble_eq_true rfl⟩ ⟨Nat.zero_le _, Nat.zero_le _⟩ (by decide) rfl rfl rfl (rest := ([] : List Value)) rfl (Nat.le_of_ble_eq_true rfl) ?_
    refine bv_blk C frk_X6 csk_X6 1 29 rfl (L1 := ([(0, .ref 0), (1, .int (0)), (2, .int r)] : Lc)) (st1 := ([.int r] : List Value)) (w1 := (layB (nteG (ug (ug g 1 0 (0)) 1 1 (0)) (5) r) σ τ)) (by rfl) ?_
    exact bv_iret C rfl hr rfl ⟨by (rfl), by (exact congrArg (fun x => (layB x σ τ)) (((if_neg c1).trans rfl)).symm)⟩
  · refine bv_blk C frk_X6 csk_X6 1 4 rfl (L1 := ([(0, .ref 0), (1, .int (0)), (2, .int r)] : Lc)) (st1 := ([.int (1), .ref 0] : List Value)) (w1 := (layB g σ τ)) (by rfl) ?_
    refine bv_goto (j := 6) C rfl rfl ?_
    refine bv_put (ty := .boolean) C rfl cl_X6 fl_X6_57 (by decide) rfl (by decide +kernel) (nar_01 (by decide) _) rfl rfl (by decide) (by decide) ?_
    refine bv_w (lb_up (o := 0) (k := 6) (a := 1) (b := 0) hσ (by decide) (by decide) (by rfl) (by rfl)) ?_
    refine bv_blk C frk_X6 csk_X6 3 10 rfl (L1 := ([(0, .ref 0), (1, .int (0)), (2, .int r)] : Lc)) (st1 := ([] : List Value)) (w1 := up2 (layB (ug g 1 0 (1)) σ τ) 0 7 (.int (0))) (by rfl) ?_
    refine bv_w (lb_up (o := 0) (k := 7) (a := 1) (b := 1) hσ (by decide) (by decide) (by rfl) (by rfl)) ?_
    refine bv_blk C frk_X6 csk_X6 2 12 rfl (L1 := ([(0, .ref 0), (1, .int (0)), (2, .int r)] : Lc)) (st1 := ([.int (1)] : List Value)) (w1 := (layB (ug (ug g 1 0 (1)) 1 1 (0)) σ τ)) (by rfl) ?_
    refine bv_if_eq (j := 21) C rfl rfl (fun h => absurd h (by decide)) (fun _ => ?_)
    refine bv_blk C frk_X6 csk_X6 6 19 rfl (L1 := ([(0, .ref 0), (1, .int (0)), (2, .int r)] : Lc)) (st1 := ([.int (g 1 2), .int (0), .int (1), .ref 18] : List Value)) (w1 := (layB (ug (ug g 1 0 (1)) 1 1 (0)) σ τ)) (by rfl) ?_
    refine bv_fV0 C rfl (cs_eadd hE (ug (ug g 1 0 (1)) 1 1 (0)) σ τ hσ (1) (0) (g 1 2) (rfl) (evK_at hev rfl)) ml_X6_191 im_X1_add sel_X1_add ini_X1 cd_X1_add ok_X1_add rfl ⟨Nat.le_of_ble_eq_true rfl, Nat.le_of_ble_eq_true rfl⟩ ⟨Nat.zero_le _, Nat.zero_le _⟩ (by decide) rfl rfl rfl (rest := ([] : List Value)) rfl (Nat.le_of_ble_eq_true rfl) ?_
    refine bv_goto (j := 28) C rfl rfl ?_
    refine bv_blk C frk_X6 csk_X6 1 29 rfl (L1 := ([(0, .ref 0), (1, .int (0)), (2, .int r)] : Lc)) (st1 := ([.int r] : List Value)) (w1 := (layB (nteG (ug (ug g 1 0 (1)) 1 1 (0)) (1) (0)) σ τ)) (by rfl) ?_
    exact bv_iret C rfl hr rfl ⟨by (rfl), by (exact congrArg (fun x => (layB x σ τ)) (((if_pos c1).trans rfl)).symm)⟩
set_option maxRecDepth 100000 in
set_option maxHeartbeats 8000000 in
theorem cs_sendSectors1 {l : Launch} {D : va_G} {cA : FieldType → ClassId} {z0 : Nat} {SK : Nat → Nat} {SV : Nat → Int32} {ad : Nat → Nat} (hE : aD (fun q => z0 ≤ q) ad 26) (g : Nat → Nat → Int32) (σ τ : Nat → Nat) (hσ : pmK σ τ) (n S : Nat) (hs : statR g n) (hS : g 1 35 = nI S) (hS2 : 2 ≤ S ∧ S ≤ 16) : bF l D cA z0 SK SV ad shB 26 yX6_sendSectors cX6_sendSectors 7 (some .int) 4 [.ref 0, .int (1)] (layB g σ τ) (some (.int (ssB 1 n S g (-100000) (-100000)))) (layB (ssG 1 n S g) σ τ) := by
  refine bCT_intro (tb := tb_X6_sendSectors) (own := RX6) hE pn_X6 rfl tk_X6_sendSectors rfl (Nat.le_of_ble_eq_true rfl) ?_
  intro p e s0 m args below meth c C hr
  refine bv_blk C frk_X6 csk_X6 4 4 rfl (L1 := ([(0, .ref 0), (1, .int (1))] : Lc)) (st1 := ([.int ((1) - (1)), .ref 0] : List Value)) (w1 := (layB g σ τ)) (by rfl) ?_
  refine bv_fV1 C rfl (cs_station0 hE g σ τ hσ) ml_X6_107 im_X6_station sel_X6_station ini_X6 cd_X6_station ok_X6_station rfl ⟨Nat.le_of_ble_eq_true rfl, Nat.le_of_ble_eq_true rfl⟩ ⟨Nat.zero_le _, Nat.zero_le _⟩ (by decide) rfl rfl rfl (rest := ([] : List Value)) rfl (Nat.le_of_ble_eq_true rfl) ?_
  refine bv_blk C frk_X6 csk_X6 7 12 rfl (L1 := ([(4, .int (-100000)), (3, .int (-100000)), (2, .ref 1), (0, .ref 0), (1, .int (1))] : Lc)) (st1 := ([.int (1), .ref 0] : List Value)) (w1 := (layB g σ τ)) (by rfl) ?_
  refine bv_fV1 C rfl (cs_station1 hE g σ τ hσ) ml_X6_107 im_X6_station sel_X6_station ini_X6 cd_X6_station ok_X6_station rfl ⟨Nat.le_of_ble_eq_true rfl, Nat.le_of_ble_eq_true rfl⟩ ⟨Nat.zero_le _, Nat.zero_le _⟩ (by decide) rfl rfl rfl (rest := ([] : List Value)) rfl (Nat.le_of_ble_eq_true rfl) ?_
  refine bv_blk C frk_X6 csk_X6 4 17 rfl (L1 := ([(5, .int ((g 1 35) - (1))), (4, .int (-100000)), (3, .int (-100000)), (2, .ref 1), (0, .ref 0), (1, .int (1))] : Lc)) (st1 := ([] : List Value)) (w1 := (layB g σ τ)) (by rfl) ?_
  have lp : ∀ (q : Nat) (gg : Nat → Nat → Int32) (bs bm : Int32), q ≤ S → statR gg n → ssG 1 n q gg = ssG 1 n S g → ssB 1 n q gg bs bm = ssB 1 n S g (-100000) (-100000) → bV p l e (bR 4) s0 m args below meth c D cA shB (adA ad 26) 7 tb_X6_sendSectors (MQ below (bQ D cA ad shB 26 (fun r w1 => r = (some (.int (ssB 1 n S g (-100000) (-100000)))) ∧ w1 = (layB (ssG 1 n S g) σ τ))) args s0 0 0 (adA ad 26)) ad 26 0 0 (layB gg σ τ) 17 ([(5, .int (nI q - 1)), (0, .ref 0), (1, .int (1)), (2, .ref 1), (3, .int bs), (4, .int bm)] : Lc) ([] : List Value) := by
    intro q
    induction q with
    | zero =>
      intro gg bs bm hq hs hG hB
      refine bv_blk C frk_X6 csk_X6 1 18 rfl (L1 := ([(5, .int (nI 0 - 1)), (0, .ref 0), (1, .int (1)), (2, .ref 1), (3, .int bs), (4, .int bm)] : Lc)) (st1 := ([.int (nI 0 - 1)] : List Value)) (w1 := (layB gg σ τ)) (by rfl) ?_
      refine bv_if_lt (j := 39) C rfl rfl (fun _ => ?_) (fun h => absurd h (by decide))
      refine bv_blk C frk_X6 csk_X6 1 40 rfl (L1 := ([(5, .int (nI 0 - 1)), (0, .ref 0), (1, .int (1)), (2, .ref 1), (3, .int bs), (4, .int bm)] : Lc)) (st1 := ([.int bs] : List Value)) (w1 := (layB gg σ τ)) (by rfl) ?_
      exact bv_iret C rfl hr rfl ⟨by (exact congrArg (fun x => some (Value.int x)) hB), by (exact congrArg (fun x => layB x σ τ) hG)⟩
    | succ q ih =>
      intro gg bs bm hq hs hG hB
      rw [show nI (q + 1) - 1 = nI q from pk_sub (b := 1) (by omega)]
      refine bv_blk C frk_X6 csk_X6 1 18 rfl (L1 := ([(5, .int (nI q)), (0, .ref 0), (1, .int (1)), (2, .ref 1), (3, .int bs), (4, .int bm)] : Lc)) (st1 := ([.int (nI q)] : List Value)) (w1 := (layB gg σ τ)) (by rfl) ?_
      refine bv_if_lt (j := 39) C rfl rfl (fun h => absurd h (nI_nlt (a := q) (b := 0) (by omega) (by omega))) (fun _ => ?_)
      refine bv_blk C frk_X6 csk_X6 5 24 rfl (L1 := ([(5, .int (nI q)), (0, .ref 0), (1, .int (1)), (2, .ref 1), (3, .int bs), (4, .int bm)] : Lc)) (st1 := ([.int (16), .int (-1), .int (nI q), .int (1), .ref 0] : List Value)) (w1 := (layB gg σ τ)) (by rfl) ?_
      refine bv_fV1 C rfl (cs_transmit1 hE gg σ τ hσ n (nI q) (-1) (16) hs) ml_X6_183 im_X6_transmit sel_X6_transmit ini_X6 cd_X6_transmit ok_X6_transmit rfl ⟨Nat.le_of_ble_eq_true rfl, Nat.le_of_ble_eq_true rfl⟩ ⟨Nat.zero_le _, Nat.zero_le _⟩ (by decide) rfl rfl rfl (rest := ([] : List Value)) rfl (Nat.le_of_ble_eq_true rfl) ?_
      refine bv_blk C frk_X6 csk_X6 4 29 rfl (L1 := ([(6, .int (trnG gg 1 (-1) (nI q) n)), (5, .int (nI q)), (0, .ref 0), (1, .int (1)), (2, .ref 1), (3, .int bs), (4, .int bm)] : Lc)) (st1 := ([.int (trnG gg 1 (-1) (nI q) n), .int (nI q), .ref 1] : List Value)) (w1 := (layB (sntG gg 1 (-1) (nI q) (16) n) σ τ)) (by rfl) ?_
      refine bv_fV0 C rfl (cs_enter_1 hE (sntG gg 1 (-1) (nI q) (16) n) σ τ hσ q (trnG gg 1 (-1) (nI q) n) (by omega)) ml_X6_187 im_X7_enter sel_X7_enter ini_X7 cd_X7_enter ok_X7_enter rfl ⟨Nat.le_of_ble_eq_true rfl, Nat.le_of_ble_eq_true rfl⟩ ⟨Nat.zero_le _, Nat.zero_le _⟩ (by decide) rfl rfl rfl (rest := ([] : List Value)) rfl (Nat.le_of_ble_eq_true rfl) ?_
      refine bv_blk C frk_X6 csk_X6 2 32 rfl (L1 := ([(6, .int (trnG gg 1 (-1) (nI q) n)), (5, .int (nI q)), (0, .ref 0), (1, .int (1)), (2, .ref 1), (3, .int bs), (4, .int bm)] : Lc)) (st1 := ([.int bm, .int (trnG gg 1 (-1) (nI q) n)] : List Value)) (w1 := (layB (ug (sntG gg 1 (-1) (nI q) (16) n) 1 (19 + q) (trnG gg 1 (-1) (nI q) n)) σ τ)) (by rfl) ?_
      refine bv_icmp_le (j := 37) C rfl rfl (fun c3 => ?_) (fun c3 => ?_)
      · refine bv_blk C frk_X6 csk_X6 1 38 rfl (L1 := ([(5, .int ((nI q) + Int32.ofInt (-1))), (6, .int (trnG gg 1 (-1) (nI q) n)), (0, .ref 0), (1, .int (1)), (2, .ref 1), (3, .int bs), (4, .int bm)] : Lc)) (st1 := ([] : List Value)) (w1 := (layB (ug (sntG gg 1 (-1) (nI q) (16) n) 1 (19 + q) (trnG gg 1 (-1) (nI q) n)) σ τ)) (by rfl) ?_
        refine bv_goto (j := 17) C rfl rfl ?_
        rw [nI_m1 q]
        refine bv_sub [0, 2, 3, 4, 5, 6] (by rfl) ?_
        refine ih (ssS 1 n gg q) _ _ (by omega) (st_same (kp_ssS (by omega) (by omega)) hs) hG ?_
        exact (if_pos c3).symm.trans hB
      · refine bv_blk C frk_X6 csk_X6 5 38 rfl (L1 := ([(5, .int ((nI q) + Int32.ofInt (-1))), (3, .int (nI q)), (4, .int (trnG gg 1 (-1) (nI q) n)), (6, .int (trnG gg 1 (-1) (nI q) n)), (0, .ref 0), (1, .int (1)), (2, .ref 1)] : Lc)) (st1 := ([] : List Value)) (w1 := (layB (ug (sntG gg 1 (-1) (nI q) (16) n) 1 (19 + q) (trnG gg 1 (-1) (nI q) n)) σ τ)) (by rfl) ?_
        refine bv_goto (j := 17) C rfl rfl ?_
        rw [nI_m1 q]
        refine bv_sub [0, 4, 5, 6, 1, 2] (by rfl) ?_
        refine ih (ssS 1 n gg q) _ _ (by omega) (st_same (kp_ssS (by omega) (by omega)) hs) hG ?_
        exact (if_neg c3).symm.trans hB
  refine bv_sub [0, 4, 5, 3, 2, 1] (by rfl) ?_
  rw [show ((g 1 35) - (1)) = nI S - 1 from by rw [hS]]
  exact lp S g _ _ (Nat.le_refl _) hs rfl rfl
set_option maxRecDepth 100000 in
set_option maxHeartbeats 8000000 in
theorem cs_endSweep1 {l : Launch} {D : va_G} {cA : FieldType → ClassId} {z0 : Nat} {SK : Nat → Nat} {SV : Nat → Int32} {ad : Nat → Nat} (hE : aD (fun q => z0 ≤ q) ad 26) (g : Nat → Nat → Int32) (σ τ : Nat → Nat) (hσ : pmK σ τ) (r : Int32) (hev : evK g) : bF l D cA z0 SK SV ad shB 26 yX6_endSweep cX6_endSweep 3 (some .int) 2 [.ref 0, .int (1), .int r] (layB g σ τ) (some (.int r)) (layB (esG 1 r g) σ τ) := by
  refine bCT_intro (tb := tb_X6_endSweep) (own := RX6) hE pn_X6 rfl tk_X6_endSweep rfl (Nat.le_of_ble_eq_true rfl) ?_
  intro p e s0 m args below meth c C hr
  refine bv_blk C frk_X6 csk_X6 2 2 rfl (L1 := ([(0, .ref 0), (1, .int (1)), (2, .int r)] : Lc)) (st1 := ([.int r, .ref 0] : List Value)) (w1 := (layB g σ τ)) (by rfl) ?_
  refine bv_if_ne (j := 5) C rfl rfl (fun c1 => ?_) (fun c1 => ?_)
  · refine bv_blk C frk_X6 csk_X6 1 6 rfl (L1 := ([(0, .ref 0), (1, .int (1)), (2, .int r)] : Lc)) (st1 := ([.int (0), .ref 0] : List Value)) (w1 := (layB g σ τ)) (by rfl) ?_
    refine bv_put (ty := .boolean) C rfl cl_X6 fl_X6_57 (by decide) rfl (by decide +kernel) (nar_01 (by decide) _) rfl rfl (by decide) (by decide) ?_
    refine bv_w (lb_up (o := 0) (k := 6) (a := 1) (b := 0) hσ (by decide) (by decide) (by rfl) (by rfl)) ?_
    refine bv_blk C frk_X6 csk_X6 3 10 rfl (L1 := ([(0, .ref 0), (1, .int (1)), (2, .int r)] : Lc)) (st1 := ([] : List Value)) (w1 := up2 (layB (ug g 1 0 (0)) σ τ) 0 7 (.int (0))) (by rfl) ?_
    refine bv_w (lb_up (o := 0) (k := 7) (a := 1) (b := 1) hσ (by decide) (by decide) (by rfl) (by rfl)) ?_
    refine bv_blk C frk_X6 csk_X6 2 12 rfl (L1 := ([(0, .ref 0), (1, .int (1)), (2, .int r)] : Lc)) (st1 := ([.int (0)] : List Value)) (w1 := (layB (ug (ug g 1 0 (0)) 1 1 (0)) σ τ)) (by rfl) ?_
    refine bv_if_eq (j := 21) C rfl rfl (fun _ => ?_) (fun h => absurd h (by decide))
    refine bv_blk C frk_X6 csk_X6 6 27 rfl (L1 := ([(0, .ref 0), (1, .int (1)), (2, .int r)] : Lc)) (st1 := ([.int (g 1 2), .int r, .int (5), .ref 18] : List Value)) (w1 := (layB (ug (ug g 1 0 (0)) 1 1 (0)) σ τ)) (by rfl) ?_
    refine bv_fV0 C rfl (cs_eadd hE (ug (ug g 1 0 (0)) 1 1 (0)) σ τ hσ (5) r (g 1 2) (rfl) (evK_at hev rfl)) ml_X6_191 im_X1_add sel_X1_add ini_X1 cd_X1_add ok_X1_add rfl ⟨Nat.le_of_ble_eq_true rfl, Nat.le_of_ble_eq_true rfl⟩ ⟨Nat.zero_le _, Nat.zero_le _⟩ (by decide) rfl rfl rfl (rest := ([] : List Value)) rfl (Nat.le_of_ble_eq_true rfl) ?_
    refine bv_blk C frk_X6 csk_X6 1 29 rfl (L1 := ([(0, .ref 0), (1, .int (1)), (2, .int r)] : Lc)) (st1 := ([.int r] : List Value)) (w1 := (layB (nteG (ug (ug g 1 0 (0)) 1 1 (0)) (5) r) σ τ)) (by rfl) ?_
    exact bv_iret C rfl hr rfl ⟨by (rfl), by (exact congrArg (fun x => (layB x σ τ)) (((if_neg c1).trans rfl)).symm)⟩
  · refine bv_blk C frk_X6 csk_X6 1 4 rfl (L1 := ([(0, .ref 0), (1, .int (1)), (2, .int r)] : Lc)) (st1 := ([.int (1), .ref 0] : List Value)) (w1 := (layB g σ τ)) (by rfl) ?_
    refine bv_goto (j := 6) C rfl rfl ?_
    refine bv_put (ty := .boolean) C rfl cl_X6 fl_X6_57 (by decide) rfl (by decide +kernel) (nar_01 (by decide) _) rfl rfl (by decide) (by decide) ?_
    refine bv_w (lb_up (o := 0) (k := 6) (a := 1) (b := 0) hσ (by decide) (by decide) (by rfl) (by rfl)) ?_
    refine bv_blk C frk_X6 csk_X6 3 10 rfl (L1 := ([(0, .ref 0), (1, .int (1)), (2, .int r)] : Lc)) (st1 := ([] : List Value)) (w1 := up2 (layB (ug g 1 0 (1)) σ τ) 0 7 (.int (0))) (by rfl) ?_
    refine bv_w (lb_up (o := 0) (k := 7) (a := 1) (b := 1) hσ (by decide) (by decide) (by rfl) (by rfl)) ?_
    refine bv_blk C frk_X6 csk_X6 2 12 rfl (L1 := ([(0, .ref 0), (1, .int (1)), (2, .int r)] : Lc)) (st1 := ([.int (1)] : List Value)) (w1 := (layB (ug (ug g 1 0 (1)) 1 1 (0)) σ τ)) (by rfl) ?_
    refine bv_if_eq (j := 21) C rfl rfl (fun h => absurd h (by decide)) (fun _ => ?_)
    refine bv_blk C frk_X6 csk_X6 6 19 rfl (L1 := ([(0, .ref 0), (1, .int (1)), (2, .int r)] : Lc)) (st1 := ([.int (g 1 2), .int (1), .int (1), .ref 18] : List Value)) (w1 := (layB (ug (ug g 1 0 (1)) 1 1 (0)) σ τ)) (by rfl) ?_
    refine bv_fV0 C rfl (cs_eadd hE (ug (ug g 1 0 (1)) 1 1 (0)) σ τ hσ (1) (1) (g 1 2) (rfl) (evK_at hev rfl)) ml_X6_191 im_X1_add sel_X1_add ini_X1 cd_X1_add ok_X1_add rfl ⟨Nat.le_of_ble_eq_true rfl, Nat.le_of_ble_eq_true rfl⟩ ⟨Nat.zero_le _, Nat.zero_le _⟩ (by decide) rfl rfl rfl (rest := ([] : List Value)) rfl (Nat.le_of_ble_eq_true rfl) ?_
    refine bv_goto (j := 28) C rfl rfl ?_
    refine bv_blk C frk_X6 csk_X6 1 29 rfl (L1 := ([(0, .ref 0), (1, .int (1)), (2, .int r)] : Lc)) (st1 := ([.int r] : List Value)) (w1 := (layB (nteG (ug (ug g 1 0 (1)) 1 1 (0)) (1) (1)) σ τ)) (by rfl) ?_
    exact bv_iret C rfl hr rfl ⟨by (rfl), by (exact congrArg (fun x => (layB x σ τ)) (((if_pos c1).trans rfl)).symm)⟩
