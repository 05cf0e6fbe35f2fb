def tsA (s n : Nat) (g : Nat → Nat → Int32) (b : Int32) : Nat → Nat → Int32 := sntG g s (b0W s b (g 1 (18 + 20 * (1 - s)))) (b1W s b (g 1 (18 + 20 * (1 - s)))) 4 n
def tsH (s n : Nat) (g : Nat → Nat → Int32) (b : Int32) : Bool := hrdG g s (b0W s b (g 1 (18 + 20 * (1 - s)))) (b1W s b (g 1 (18 + 20 * (1 - s)))) n
def tstG (s n : Nat) (g : Nat → Nat → Int32) (b : Int32) : Nat → Nat → Int32 := if tsH s n g b = true ∧ (tsA s n g b 0 6 = -100000 ∨ ¬ tsA s n g b 0 5 ≤ tsA s n g b 0 7) then ug (ug (tsA s n g b) 0 6 b) 0 7 (tsA s n g b 0 5) else tsA s n g b
theorem tsA_eq0 (n : Nat) (g : Nat → Nat → Int32) (b : Int32) : tsA 0 n g b = sntG g 0 b (g 1 38) 4 n := by
  unfold tsA
  rw [b0W_0, b1W_0]
theorem tsH_eq0 (n : Nat) (g : Nat → Nat → Int32) (b : Int32) : tsH 0 n g b = hrdG g 0 b (g 1 38) n := by
  unfold tsH
  rw [b0W_0, b1W_0]
set_option maxRecDepth 100000 in
set_option maxHeartbeats 4000000 in
theorem ct_tests0 {l : Launch} {D : va_G} {cA : FieldType → ClassId} {z0 : Nat} {SK SV : Nat → Nat} {ad : Nat → Nat} (hE : aD (fun q => z0 ≤ q) ad 9) (g : Nat → Nat → Int32) (h : Int64) (n : Nat) (b : Int32) (hs : statR g n) : bF l D cA z0 SK SV ad shM 9 yX9_tests cX9_tests 4 none 8 [.ref 0, .int (0), .int b] (layM g h) none (layM (tstG 0 n g b) h) := by
  refine bCT_intro (tb := tb_X9_tests) (own := RX9) hE pn_X9 rfl tk_X9_tests rfl (Nat.le_of_ble_eq_true rfl) ?_
  intro p e s0 m args below meth c C hr
  refine bv_blk C frk_X9 csk_X9 8 8 rfl (L1 := ([(0, .ref 0), (1, .int (0)), (2, .int b)] : Lc)) (st1 := ([.int (3), .int ((1) - (0)), .ref 0, .int b, .int (0), .ref 0] : List Value)) (w1 := (layM g h)) (by rfl) ?_
  refine bv_fV1 C rfl (ct_of hE _ _ 1 3 (by omega) (by omega)) ml_X9_69 im_X9_of sel_X9_of ini_X9 cd_X9_of ok_X9_of rfl ⟨Nat.le_of_ble_eq_true rfl, Nat.le_of_ble_eq_true rfl⟩ ⟨Nat.zero_le _, Nat.zero_le _⟩ (by decide) rfl rfl rfl (rest := ([.int b, .int (0), .ref 0] : List Value)) rfl (Nat.le_of_ble_eq_true rfl) ?_
  refine bv_blk C frk_X9 csk_X9 1 10 rfl (L1 := ([(0, .ref 0), (1, .int (0)), (2, .int b)] : Lc)) (st1 := ([.int (4), .int (g 1 38), .int b, .int (0), .ref 0] : List Value)) (w1 := (layM g h)) (by rfl) ?_
  refine bv_fV1 C rfl (ct_sW0 hE g _ n b (g 1 38) (4) hs) ml_X9_113 im_X9_sendsWith sel_X9_sendsWith ini_X9 cd_X9_sendsWith ok_X9_sendsWith rfl ⟨Nat.le_of_ble_eq_true rfl, Nat.le_of_ble_eq_true rfl⟩ ⟨Nat.zero_le _, Nat.zero_le _⟩ (by decide) rfl rfl rfl (rest := ([] : List Value)) rfl (Nat.le_of_ble_eq_true rfl) ?_
  obtain ⟨v1, ev1⟩ : ∃ x : Nat → Nat → Int32, x = (tsA 0 n g b) := ⟨_, rfl⟩
  have kp_v1 : kept g v1 := by rw [ev1, tsA_eq0]; exact (kp_snt (kp_rf _))
  refine bv_weq (show (layM (sntG g 0 b (g 1 38) (4) n) h) = (layM v1 h) from by rw [ev1, tsA_eq0]) ?_
  refine bv_blk C frk_X9 csk_X9 2 13 rfl (L1 := ([(3, .int (b2i (hrdG g 0 b (g 1 38) n))), (0, .ref 0), (1, .int (0)), (2, .int b)] : Lc)) (st1 := ([.int (b2i (hrdG g 0 b (g 1 38) n))] : List Value)) (w1 := (layM v1 h)) (by rfl) ?_
  refine bv_if_eq (j := 30) C rfl rfl (fun c1 => ?_) (fun c1 => ?_)
  · exact bv_vret C rfl hr ⟨by (rfl), by (subst ev1; unfold tstG; rw [if_neg (show ¬ (tsH 0 n g b = true ∧ (tsA 0 n g b 0 6 = -100000 ∨ ¬ tsA 0 n g b 0 5 ≤ tsA 0 n g b 0 7)) from fun q => absurd (((tsH_eq0 n g b).trans (b2i_0 c1)).symm.trans q.1) Bool.noConfusion)])⟩
  · refine bv_blk C frk_X9 csk_X9 3 17 rfl (L1 := ([(3, .int (b2i (hrdG g 0 b (g 1 38) n))), (0, .ref 0), (1, .int (0)), (2, .int b)] : Lc)) (st1 := ([.int (-100000), .int (v1 0 6)] : List Value)) (w1 := (layM v1 h)) (by rfl) ?_
    refine bv_icmp_eq (j := 23) C rfl rfl (fun c2 => ?_) (fun c2 => ?_)
    · refine bv_blk C frk_X9 csk_X9 3 26 rfl (L1 := ([(3, .int (b2i (hrdG g 0 b (g 1 38) n))), (0, .ref 0), (1, .int (0)), (2, .int b)] : Lc)) (st1 := ([] : List Value)) (w1 := up2 (layM v1 h) 0 6 (.int b)) (by rfl) ?_
      rw [lm_up rfl]
      refine bv_blk C frk_X9 csk_X9 4 30 rfl (L1 := ([(3, .int (b2i (hrdG g 0 b (g 1 38) n))), (0, .ref 0), (1, .int (0)), (2, .int b)] : Lc)) (st1 := ([] : List Value)) (w1 := up2 (layM (ug v1 0 6 b) h) 0 7 (.int (v1 0 5))) (by rfl) ?_
      rw [lm_up rfl]
      exact bv_vret C rfl hr ⟨by (rfl), by (subst ev1; unfold tstG; rw [if_pos (show tsH 0 n g b = true ∧ (tsA 0 n g b 0 6 = -100000 ∨ ¬ tsA 0 n g b 0 5 ≤ tsA 0 n g b 0 7) from ⟨((tsH_eq0 n g b).trans (b2i_1 c1)), Or.inl c2⟩)])⟩
    · refine bv_blk C frk_X9 csk_X9 4 22 rfl (L1 := ([(3, .int (b2i (hrdG g 0 b (g 1 38) n))), (0, .ref 0), (1, .int (0)), (2, .int b)] : Lc)) (st1 := ([.int (v1 0 7), .int (v1 0 5)] : List Value)) (w1 := (layM v1 h)) (by rfl) ?_
      refine bv_icmp_le (j := 30) C rfl rfl (fun c3 => ?_) (fun c3 => ?_)
      · exact bv_vret C rfl hr ⟨by (rfl), by (subst ev1; unfold tstG; rw [if_neg (show ¬ (tsH 0 n g b = true ∧ (tsA 0 n g b 0 6 = -100000 ∨ ¬ tsA 0 n g b 0 5 ≤ tsA 0 n g b 0 7)) from fun q => q.2.elim c2 (fun z => z c3))])⟩
      · refine bv_blk C frk_X9 csk_X9 3 26 rfl (L1 := ([(3, .int (b2i (hrdG g 0 b (g 1 38) n))), (0, .ref 0), (1, .int (0)), (2, .int b)] : Lc)) (st1 := ([] : List Value)) (w1 := up2 (layM v1 h) 0 6 (.int b)) (by rfl) ?_
        rw [lm_up rfl]
        refine bv_blk C frk_X9 csk_X9 4 30 rfl (L1 := ([(3, .int (b2i (hrdG g 0 b (g 1 38) n))), (0, .ref 0), (1, .int (0)), (2, .int b)] : Lc)) (st1 := ([] : List Value)) (w1 := up2 (layM (ug v1 0 6 b) h) 0 7 (.int (v1 0 5))) (by rfl) ?_
        rw [lm_up rfl]
        exact bv_vret C rfl hr ⟨by (rfl), by (subst ev1; unfold tstG; rw [if_pos (show tsH 0 n g b = true ∧ (tsA 0 n g b 0 6 = -100000 ∨ ¬ tsA 0 n g b 0 5 ≤ tsA 0 n g b 0 7) from ⟨((tsH_eq0 n g b).trans (b2i_1 c1)), Or.inr c3⟩)])⟩
theorem tsA_eq1 (n : Nat) (g : Nat → Nat → Int32) (b : Int32) : tsA 1 n g b = sntG g 1 (g 1 18) b 4 n := by
  unfold tsA
  rw [b0W_1, b1W_1]
theorem tsH_eq1 (n : Nat) (g : Nat → Nat → Int32) (b : Int32) : tsH 1 n g b = hrdG g 1 (g 1 18) b n := by
  unfold tsH
  rw [b0W_1, b1W_1]
set_option maxRecDepth 100000 in
set_option maxHeartbeats 4000000 in
theorem ct_tests1 {l : Launch} {D : va_G} {cA : FieldType → ClassId} {z0 : Nat} {SK SV : Nat → Nat} {ad : Nat → Nat} (hE : aD (fun q => z0 ≤ q) ad 9) (g : Nat → Nat → Int32) (h : Int64) (n : Nat) (b : Int32) (hs : statR g n) : bF l D cA z0 SK SV ad shM 9 yX9_tests cX9_tests 4 none 8 [.ref 0, .int (1), .int b] (layM g h) none (layM (tstG 1 n g b) h) := by
  refine bCT_intro (tb := tb_X9_tests) (own := RX9) hE pn_X9 rfl tk_X9_tests rfl (Nat.le_of_ble_eq_true rfl) ?_
  intro p e s0 m args below meth c C hr
  refine bv_blk C frk_X9 csk_X9 8 8 rfl (L1 := ([(0, .ref 0), (1, .int (1)), (2, .int b)] : Lc)) (st1 := ([.int (3), .int ((1) - (1)), .ref 0, .int b, .int (1), .ref 0] : List Value)) (w1 := (layM g h)) (by rfl) ?_
  refine bv_fV1 C rfl (ct_of hE _ _ 0 3 (by omega) (by omega)) ml_X9_69 im_X9_of sel_X9_of ini_X9 cd_X9_of ok_X9_of rfl ⟨Nat.le_of_ble_eq_true rfl, Nat.le_of_ble_eq_true rfl⟩ ⟨Nat.zero_le _, Nat.zero_le _⟩ (by decide) rfl rfl rfl (rest := ([.int b, .int (1), .ref 0] : List Value)) rfl (Nat.le_of_ble_eq_true rfl) ?_
  refine bv_blk C frk_X9 csk_X9 1 10 rfl (L1 := ([(0, .ref 0), (1, .int (1)), (2, .int b)] : Lc)) (st1 := ([.int (4), .int (g 1 18), .int b, .int (1), .ref 0] : List Value)) (w1 := (layM g h)) (by rfl) ?_
  refine bv_fV1 C rfl (ct_sW1 hE g _ n b (g 1 18) (4) hs) ml_X9_113 im_X9_sendsWith sel_X9_sendsWith ini_X9 cd_X9_sendsWith ok_X9_sendsWith rfl ⟨Nat.le_of_ble_eq_true rfl, Nat.le_of_ble_eq_true rfl⟩ ⟨Nat.zero_le _, Nat.zero_le _⟩ (by decide) rfl rfl rfl (rest := ([] : List Value)) rfl (Nat.le_of_ble_eq_true rfl) ?_
  obtain ⟨v1, ev1⟩ : ∃ x : Nat → Nat → Int32, x = (tsA 1 n g b) := ⟨_, rfl⟩
  have kp_v1 : kept g v1 := by rw [ev1, tsA_eq1]; exact (kp_snt (kp_rf _))
  refine bv_weq (show (layM (sntG g 1 (g 1 18) b (4) n) h) = (layM v1 h) from by rw [ev1, tsA_eq1]) ?_
  refine bv_blk C frk_X9 csk_X9 2 13 rfl (L1 := ([(3, .int (b2i (hrdG g 1 (g 1 18) b n))), (0, .ref 0), (1, .int (1)), (2, .int b)] : Lc)) (st1 := ([.int (b2i (hrdG g 1 (g 1 18) b n))] : List Value)) (w1 := (layM v1 h)) (by rfl) ?_
  refine bv_if_eq (j := 30) C rfl rfl (fun c1 => ?_) (fun c1 => ?_)
  · exact bv_vret C rfl hr ⟨by (rfl), by (subst ev1; unfold tstG; rw [if_neg (show ¬ (tsH 1 n g b = true ∧ (tsA 1 n g b 0 6 = -100000 ∨ ¬ tsA 1 n g b 0 5 ≤ tsA 1 n g b 0 7)) from fun q => absurd (((tsH_eq1 n g b).trans (b2i_0 c1)).symm.trans q.1) Bool.noConfusion)])⟩
  · refine bv_blk C frk_X9 csk_X9 3 17 rfl (L1 := ([(3, .int (b2i (hrdG g 1 (g 1 18) b n))), (0, .ref 0), (1, .int (1)), (2, .int b)] : Lc)) (st1 := ([.int (-100000), .int (v1 0 6)] : List Value)) (w1 := (layM v1 h)) (by rfl) ?_
    refine bv_icmp_eq (j := 23) C rfl rfl (fun c2 => ?_) (fun c2 => ?_)
    · refine bv_blk C frk_X9 csk_X9 3 26 rfl (L1 := ([(3, .int (b2i (hrdG g 1 (g 1 18) b n))), (0, .ref 0), (1, .int (1)), (2, .int b)] : Lc)) (st1 := ([] : List Value)) (w1 := up2 (layM v1 h) 0 6 (.int b)) (by rfl) ?_
      rw [lm_up rfl]
      refine bv_blk C frk_X9 csk_X9 4 30 rfl (L1 := ([(3, .int (b2i (hrdG g 1 (g 1 18) b n))), (0, .ref 0), (1, .int (1)), (2, .int b)] : Lc)) (st1 := ([] : List Value)) (w1 := up2 (layM (ug v1 0 6 b) h) 0 7 (.int (v1 0 5))) (by rfl) ?_
      rw [lm_up rfl]
      exact bv_vret C rfl hr ⟨by (rfl), by (subst ev1; unfold tstG; rw [if_pos (show tsH 1 n g b = true ∧ (tsA 1 n g b 0 6 = -100000 ∨ ¬ tsA 1 n g b 0 5 ≤ tsA 1 n g b 0 7) from ⟨((tsH_eq1 n g b).trans (b2i_1 c1)), Or.inl c2⟩)])⟩
    · refine bv_blk C frk_X9 csk_X9 4 22 rfl (L1 := ([(3, .int (b2i (hrdG g 1 (g 1 18) b n))), (0, .ref 0), (1, .int (1)), (2, .int b)] : Lc)) (st1 := ([.int (v1 0 7), .int (v1 0 5)] : List Value)) (w1 := (layM v1 h)) (by rfl) ?_
      refine bv_icmp_le (j := 30) C rfl rfl (fun c3 => ?_) (fun c3 => ?_)
      · exact bv_vret C rfl hr ⟨by (rfl), by (subst ev1; unfold tstG; rw [if_neg (show ¬ (tsH 1 n g b = true ∧ (tsA 1 n g b 0 6 = -100000 ∨ ¬ tsA 1 n g b 0 5 ≤ tsA 1 n g b 0 7)) from fun q => q.2.elim c2 (fun z => z c3))])⟩
      · refine bv_blk C frk_X9 csk_X9 3 26 rfl (L1 := ([(3, .int (b2i (hrdG g 1 (g 1 18) b n))), (0, .ref 0), (1, .int (1)), (2, .int b)] : Lc)) (st1 := ([] : List Value)) (w1 := up2 (layM v1 h) 0 6 (.int b)) (by rfl) ?_
        rw [lm_up rfl]
        refine bv_blk C frk_X9 csk_X9 4 30 rfl (L1 := ([(3, .int (b2i (hrdG g 1 (g 1 18) b n))), (0, .ref 0), (1, .int (1)), (2, .int b)] : Lc)) (st1 := ([] : List Value)) (w1 := up2 (layM (ug v1 0 6 b) h) 0 7 (.int (v1 0 5))) (by rfl) ?_
        rw [lm_up rfl]
        exact bv_vret C rfl hr ⟨by (rfl), by (subst ev1; unfold tstG; rw [if_pos (show tsH 1 n g b = true ∧ (tsA 1 n g b 0 6 = -100000 ∨ ¬ tsA 1 n g b 0 5 ≤ tsA 1 n g b 0 7) from ⟨((tsH_eq1 n g b).trans (b2i_1 c1)), Or.inr c3⟩)])⟩
