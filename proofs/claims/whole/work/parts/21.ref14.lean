set_option maxRecDepth 100000 in
set_option maxHeartbeats 4000000 in
theorem ct_setTracking {l : Launch} {D : va_G} {cA : FieldType → ClassId} {z0 : Nat} {SK SV : Nat → Nat} {ad : Nat → Nat} (hE : aD (fun q => z0 ≤ q) ad 9) (g : Nat → Nat → Int32) (h : Int64) (a x : Int32) (hv : svK g) : bF l D cA z0 SK SV ad shM 9 yX9_setTracking cX9_setTracking 4 (some .int) 3 [.ref 0, .int a, .int x] (layM g h) (some (.int (if ((0) ≤ x ∧ x ≤ (40)) then svG g 1 8 else (-100002)))) (layM (if ((0) ≤ x ∧ x ≤ (40)) then ug (ug (svG g) 1 8 (if a = 0 then 0 else 1)) 1 9 x else g) h) := by
  refine bCT_intro (tb := tb_X9_setTracking) (own := RX9) hE pn_X9 rfl tk_X9_setTracking rfl (Nat.le_of_ble_eq_true rfl) ?_
  intro p e s0 m args below meth c C hr
  refine bv_blk C frk_X9 csk_X9 4 4 rfl (L1 := ([(0, .ref 0), (1, .int a), (2, .int x)] : Lc)) (st1 := ([.long (40), .long (0), .long (Int32.toInt64 x)] : List Value)) (w1 := (layM g h)) (by rfl) ?_
  by_cases c1 : ((0) ≤ x ∧ x ≤ (40))
  · refine bv_fS1 C rfl (ct_in_t hE _ (x := x) (lo := (0)) (hi := (40)) c1) ml_X9_65 st_X9_in ini_X9 cd_X9_in ok_X9_in rfl ⟨Nat.le_of_ble_eq_true rfl, Nat.le_of_ble_eq_true rfl⟩ ⟨Nat.zero_le _, Nat.zero_le _⟩ (rest := ([] : List Value)) rfl (Nat.le_of_ble_eq_true rfl) ?_
    refine bv_if_ne (j := 8) C rfl rfl (fun _ => ?_) (fun h => absurd h (by decide))
    refine bv_blk C frk_X9 csk_X9 3 11 rfl (L1 := ([(0, .ref 0), (1, .int a), (2, .int x)] : Lc)) (st1 := ([.int a, .int (8), .ref 0] : List Value)) (w1 := (layM g h)) (by rfl) ?_
    refine bv_if_eq (j := 14) C rfl rfl (fun c3 => ?_) (fun c3 => ?_)
    · refine bv_blk C frk_X9 csk_X9 1 15 rfl (L1 := ([(0, .ref 0), (1, .int a), (2, .int x)] : Lc)) (st1 := ([.int (0), .int (8), .ref 0] : List Value)) (w1 := (layM g h)) (by rfl) ?_
      refine bv_fV1 C rfl (ct_becomes hE g _ 8 (0) hv (by omega)) ml_X9_279 im_X9_becomes sel_X9_becomes ini_X9 cd_X9_becomes ok_X9_becomes rfl ⟨Nat.le_of_ble_eq_true rfl, Nat.le_of_ble_eq_true rfl⟩ ⟨Nat.zero_le _, Nat.zero_le _⟩ (by decide) rfl rfl rfl (rest := ([] : List Value)) rfl (Nat.le_of_ble_eq_true rfl) ?_
      refine bv_blk C frk_X9 csk_X9 5 21 rfl (L1 := ([(3, .int ((svG g) 1 8)), (0, .ref 0), (1, .int a), (2, .int x)] : Lc)) (st1 := ([.int x, .int (9), .ref 1] : List Value)) (w1 := (layM (ug (svG g) 1 8 (0)) h)) (by rfl) ?_
      refine bv_iast C rfl rfl (by decide) (j := 9) (by exact rfl) (by first | decide | omega) (by decide) ?_
      rw [lm_up rfl]
      refine bv_blk C frk_X9 csk_X9 1 23 rfl (L1 := ([(3, .int ((svG g) 1 8)), (0, .ref 0), (1, .int a), (2, .int x)] : Lc)) (st1 := ([.int ((svG g) 1 8)] : List Value)) (w1 := (layM (ug (ug (svG g) 1 8 (0)) 1 9 x) h)) (by rfl) ?_
      exact bv_iret C rfl hr rfl ⟨by (simp only [c1, c3, and_self, eq_self, or_true, true_or, not_true, not_false_iff, if_true, if_false, ↓reduceIte]), by (simp only [c1, c3, and_self, eq_self, or_true, true_or, not_true, not_false_iff, if_true, if_false, ↓reduceIte])⟩
    · refine bv_blk C frk_X9 csk_X9 1 13 rfl (L1 := ([(0, .ref 0), (1, .int a), (2, .int x)] : Lc)) (st1 := ([.int (1), .int (8), .ref 0] : List Value)) (w1 := (layM g h)) (by rfl) ?_
      refine bv_goto (j := 15) C rfl rfl ?_
      refine bv_fV1 C rfl (ct_becomes hE g _ 8 (1) hv (by omega)) ml_X9_279 im_X9_becomes sel_X9_becomes ini_X9 cd_X9_becomes ok_X9_becomes rfl ⟨Nat.le_of_ble_eq_true rfl, Nat.le_of_ble_eq_true rfl⟩ ⟨Nat.zero_le _, Nat.zero_le _⟩ (by decide) rfl rfl rfl (rest := ([] : List Value)) rfl (Nat.le_of_ble_eq_true rfl) ?_
      refine bv_blk C frk_X9 csk_X9 5 21 rfl (L1 := ([(3, .int ((svG g) 1 8)), (0, .ref 0), (1, .int a), (2, .int x)] : Lc)) (st1 := ([.int x, .int (9), .ref 1] : List Value)) (w1 := (layM (ug (svG g) 1 8 (1)) h)) (by rfl) ?_
      refine bv_iast C rfl rfl (by decide) (j := 9) (by exact rfl) (by first | decide | omega) (by decide) ?_
      rw [lm_up rfl]
      refine bv_blk C frk_X9 csk_X9 1 23 rfl (L1 := ([(3, .int ((svG g) 1 8)), (0, .ref 0), (1, .int a), (2, .int x)] : Lc)) (st1 := ([.int ((svG g) 1 8)] : List Value)) (w1 := (layM (ug (ug (svG g) 1 8 (1)) 1 9 x) h)) (by rfl) ?_
      exact bv_iret C rfl hr rfl ⟨by (simp only [c1, c3, and_self, eq_self, or_true, true_or, not_true, not_false_iff, if_true, if_false, ↓reduceIte]), by (simp only [c1, c3, and_self, eq_self, or_true, true_or, not_true, not_false_iff, if_true, if_false, ↓reduceIte])⟩
  · refine bv_fS1 C rfl (ct_in_f hE _ (x := x) (lo := (0)) (hi := (40)) c1) ml_X9_65 st_X9_in ini_X9 cd_X9_in ok_X9_in rfl ⟨Nat.le_of_ble_eq_true rfl, Nat.le_of_ble_eq_true rfl⟩ ⟨Nat.zero_le _, Nat.zero_le _⟩ (rest := ([] : List Value)) rfl (Nat.le_of_ble_eq_true rfl) ?_
    refine bv_if_ne (j := 8) C rfl rfl (fun h => absurd h (by decide)) (fun _ => ?_)
    refine bv_blk C frk_X9 csk_X9 1 7 rfl (L1 := ([(0, .ref 0), (1, .int a), (2, .int x)] : Lc)) (st1 := ([.int (-100002)] : List Value)) (w1 := (layM g h)) (by rfl) ?_
    exact bv_iret C rfl hr rfl ⟨by (simp only [c1, and_self, eq_self, or_true, true_or, not_true, not_false_iff, if_true, if_false, ↓reduceIte]), by (simp only [c1, and_self, eq_self, or_true, true_or, not_true, not_false_iff, if_true, if_false, ↓reduceIte])⟩
set_option maxRecDepth 100000 in
set_option maxHeartbeats 4000000 in
theorem ct_setRecovery {l : Launch} {D : va_G} {cA : FieldType → ClassId} {z0 : Nat} {SK SV : Nat → Nat} {ad : Nat → Nat} (hE : aD (fun q => z0 ≤ q) ad 9) (g : Nat → Nat → Int32) (h : Int64) (x a : Int32) (hv : svK g) : bF l D cA z0 SK SV ad shM 9 yX9_setRecovery cX9_setRecovery 4 (some .int) 3 [.ref 0, .int x, .int a] (layM g h) (some (.int (if ((1) ≤ x ∧ x ≤ (9)) then svG g 1 10 else (-100002)))) (layM (if ((1) ≤ x ∧ x ≤ (9)) then ug (ug (svG g) 1 10 x) 1 11 (if a = 0 then 0 else 1) else g) h) := by
  refine bCT_intro (tb := tb_X9_setRecovery) (own := RX9) hE pn_X9 rfl tk_X9_setRecovery rfl (Nat.le_of_ble_eq_true rfl) ?_
  intro p e s0 m args below meth c C hr
  refine bv_blk C frk_X9 csk_X9 4 4 rfl (L1 := ([(0, .ref 0), (1, .int x), (2, .int a)] : Lc)) (st1 := ([.long (9), .long (1), .long (Int32.toInt64 x)] : List Value)) (w1 := (layM g h)) (by rfl) ?_
  by_cases c1 : ((1) ≤ x ∧ x ≤ (9))
  · refine bv_fS1 C rfl (ct_in_t hE _ (x := x) (lo := (1)) (hi := (9)) c1) ml_X9_65 st_X9_in ini_X9 cd_X9_in ok_X9_in rfl ⟨Nat.le_of_ble_eq_true rfl, Nat.le_of_ble_eq_true rfl⟩ ⟨Nat.zero_le _, Nat.zero_le _⟩ (rest := ([] : List Value)) rfl (Nat.le_of_ble_eq_true rfl) ?_
    refine bv_if_ne (j := 8) C rfl rfl (fun _ => ?_) (fun h => absurd h (by decide))
    refine bv_blk C frk_X9 csk_X9 3 11 rfl (L1 := ([(0, .ref 0), (1, .int x), (2, .int a)] : Lc)) (st1 := ([.int x, .int (10), .ref 0] : List Value)) (w1 := (layM g h)) (by rfl) ?_
    refine bv_fV1 C rfl (ct_becomes hE g _ 10 x hv (by omega)) ml_X9_279 im_X9_becomes sel_X9_becomes ini_X9 cd_X9_becomes ok_X9_becomes rfl ⟨Nat.le_of_ble_eq_true rfl, Nat.le_of_ble_eq_true rfl⟩ ⟨Nat.zero_le _, Nat.zero_le _⟩ (by decide) rfl rfl rfl (rest := ([] : List Value)) rfl (Nat.le_of_ble_eq_true rfl) ?_
    refine bv_blk C frk_X9 csk_X9 5 17 rfl (L1 := ([(3, .int ((svG g) 1 10)), (0, .ref 0), (1, .int x), (2, .int a)] : Lc)) (st1 := ([.int a, .int (11), .ref 1] : List Value)) (w1 := (layM (ug (svG g) 1 10 x) h)) (by rfl) ?_
    refine bv_if_eq (j := 20) C rfl rfl (fun c3 => ?_) (fun c3 => ?_)
    · refine bv_blk C frk_X9 csk_X9 1 21 rfl (L1 := ([(3, .int ((svG g) 1 10)), (0, .ref 0), (1, .int x), (2, .int a)] : Lc)) (st1 := ([.int (0), .int (11), .ref 1] : List Value)) (w1 := (layM (ug (svG g) 1 10 x) h)) (by rfl) ?_
      refine bv_iast C rfl rfl (by decide) (j := 11) (by exact rfl) (by first | decide | omega) (by decide) ?_
      rw [lm_up rfl]
      refine bv_blk C frk_X9 csk_X9 1 23 rfl (L1 := ([(3, .int ((svG g) 1 10)), (0, .ref 0), (1, .int x), (2, .int a)] : Lc)) (st1 := ([.int ((svG g) 1 10)] : List Value)) (w1 := (layM (ug (ug (svG g) 1 10 x) 1 11 (0)) h)) (by rfl) ?_
      exact bv_iret C rfl hr rfl ⟨by (simp only [c1, c3, and_self, eq_self, or_true, true_or, not_true, not_false_iff, if_true, if_false, ↓reduceIte]), by (simp only [c1, c3, and_self, eq_self, or_true, true_or, not_true, not_false_iff, if_true, if_false, ↓reduceIte])⟩
    · refine bv_blk C frk_X9 csk_X9 1 19 rfl (L1 := ([(3, .int ((svG g) 1 10)), (0, .ref 0), (1, .int x), (2, .int a)] : Lc)) (st1 := ([.int (1), .int (11), .ref 1] : List Value)) (w1 := (layM (ug (svG g) 1 10 x) h)) (by rfl) ?_
      refine bv_goto (j := 21) C rfl rfl ?_
      refine bv_iast C rfl rfl (by decide) (j := 11) (by exact rfl) (by first | decide | omega) (by decide) ?_
      rw [lm_up rfl]
      refine bv_blk C frk_X9 csk_X9 1 23 rfl (L1 := ([(3, .int ((svG g) 1 10)), (0, .ref 0), (1, .int x), (2, .int a)] : Lc)) (st1 := ([.int ((svG g) 1 10)] : List Value)) (w1 := (layM (ug (ug (svG g) 1 10 x) 1 11 (1)) h)) (by rfl) ?_
      exact bv_iret C rfl hr rfl ⟨by (simp only [c1, c3, and_self, eq_self, or_true, true_or, not_true, not_false_iff, if_true, if_false, ↓reduceIte]), by (simp only [c1, c3, and_self, eq_self, or_true, true_or, not_true, not_false_iff, if_true, if_false, ↓reduceIte])⟩
  · refine bv_fS1 C rfl (ct_in_f hE _ (x := x) (lo := (1)) (hi := (9)) c1) ml_X9_65 st_X9_in ini_X9 cd_X9_in ok_X9_in rfl ⟨Nat.le_of_ble_eq_true rfl, Nat.le_of_ble_eq_true rfl⟩ ⟨Nat.zero_le _, Nat.zero_le _⟩ (rest := ([] : List Value)) rfl (Nat.le_of_ble_eq_true rfl) ?_
    refine bv_if_ne (j := 8) C rfl rfl (fun h => absurd h (by decide)) (fun _ => ?_)
    refine bv_blk C frk_X9 csk_X9 1 7 rfl (L1 := ([(0, .ref 0), (1, .int x), (2, .int a)] : Lc)) (st1 := ([.int (-100002)] : List Value)) (w1 := (layM g h)) (by rfl) ?_
    exact bv_iret C rfl hr rfl ⟨by (simp only [c1, and_self, eq_self, or_true, true_or, not_true, not_false_iff, if_true, if_false, ↓reduceIte]), by (simp only [c1, and_self, eq_self, or_true, true_or, not_true, not_false_iff, if_true, if_false, ↓reduceIte])⟩
set_option maxRecDepth 100000 in
set_option maxHeartbeats 4000000 in
theorem ct_rotate {l : Launch} {D : va_G} {cA : FieldType → ClassId} {z0 : Nat} {SK SV : Nat → Nat} {ad : Nat → Nat} (hE : aD (fun q => z0 ≤ q) ad 9) (g : Nat → Nat → Int32) (h : Int64) (a b : Int32) (hv : svK g) : bF l D cA z0 SK SV ad shM 9 yX9_rotate cX9_rotate 3 (some .int) 2 [.ref 0, .int a, .int b] (layM g h) (some (.int (if (((0) ≤ a ∧ a ≤ (1))) then (if ((-63) ≤ b ∧ b ≤ (63)) then arI (svG g 1 (15 + 20 * a.toNatClampNeg + 1) + b) 64 else (-100002)) else (-100001)))) (layM (if (((0) ≤ a ∧ a ≤ (1))) then (if ((-63) ≤ b ∧ b ≤ (63)) then ug (svG g) 1 (15 + 20 * a.toNatClampNeg + 1) (arI (svG g 1 (15 + 20 * a.toNatClampNeg + 1) + b) 64) else g) else g) h) := by
  refine bCT_intro (tb := tb_X9_rotate) (own := RX9) hE pn_X9 rfl tk_X9_rotate rfl (Nat.le_of_ble_eq_true rfl) ?_
  intro p e s0 m args below meth c C hr
  refine bv_blk C frk_X9 csk_X9 1 1 rfl (L1 := ([(0, .ref 0), (1, .int a), (2, .int b)] : Lc)) (st1 := ([.int a] : List Value)) (w1 := (layM g h)) (by rfl) ?_
  by_cases c1 : ((0) ≤ a ∧ a ≤ (1))
  · obtain ⟨s1, hs1, rfl⟩ := stat_of c1
    refine bv_fS1 C rfl (ct_isStation_t hE _ (nI s1) (stat_in hs1)) ml_X9_130 st_X9_isStation ini_X9 cd_X9_isStation ok_X9_isStation rfl ⟨Nat.le_of_ble_eq_true rfl, Nat.le_of_ble_eq_true rfl⟩ ⟨Nat.zero_le _, Nat.zero_le _⟩ (rest := ([] : List Value)) rfl (Nat.le_of_ble_eq_true rfl) ?_
    refine bv_if_ne (j := 5) C rfl rfl (fun _ => ?_) (fun h => absurd h (by decide))
    refine bv_blk C frk_X9 csk_X9 4 9 rfl (L1 := ([(0, .ref 0), (1, .int (nI s1)), (2, .int b)] : Lc)) (st1 := ([.long (63), .long (-63), .long (Int32.toInt64 b)] : List Value)) (w1 := (layM g h)) (by rfl) ?_
    by_cases c3 : ((-63) ≤ b ∧ b ≤ (63))
    · refine bv_fS1 C rfl (ct_in_t hE _ (x := b) (lo := (-63)) (hi := (63)) c3) ml_X9_65 st_X9_in ini_X9 cd_X9_in ok_X9_in rfl ⟨Nat.le_of_ble_eq_true rfl, Nat.le_of_ble_eq_true rfl⟩ ⟨Nat.zero_le _, Nat.zero_le _⟩ (rest := ([] : List Value)) rfl (Nat.le_of_ble_eq_true rfl) ?_
      refine bv_if_ne (j := 13) C rfl rfl (fun _ => ?_) (fun h => absurd h (by decide))
      refine bv_blk C frk_X9 csk_X9 1 14 rfl (L1 := ([(0, .ref 0), (1, .int (nI s1)), (2, .int b)] : Lc)) (st1 := ([.ref 0] : List Value)) (w1 := (layM g h)) (by rfl) ?_
      refine bv_fV0 C rfl (ct_savesA hE g _ hv) ml_X9_134 im_X9_saves sel_X9_saves ini_X9 cd_X9_saves ok_X9_saves rfl ⟨Nat.le_of_ble_eq_true rfl, Nat.le_of_ble_eq_true rfl⟩ ⟨Nat.zero_le _, Nat.zero_le _⟩ (by decide) rfl rfl rfl (rest := ([] : List Value)) rfl (Nat.le_of_ble_eq_true rfl) ?_
      obtain ⟨v1, ev1⟩ : ∃ x : Nat → Nat → Int32, x = (svG g) := ⟨_, rfl⟩
      have kp_v1 : kept g v1 := by rw [ev1]; exact (kp_sv (kp_rf _))
      refine bv_weq (show (layM (svG g) h) = (layM v1 h) from by rw [ev1]) ?_
      refine bv_blk C frk_X9 csk_X9 6 21 rfl (L1 := ([(0, .ref 0), (1, .int (nI s1)), (2, .int b)] : Lc)) (st1 := ([.int (1), .int (nI s1), .ref 0, .int (1), .int (nI s1), .ref 0] : List Value)) (w1 := (layM v1 h)) (by rfl) ?_
      refine bv_fV1 C rfl (ct_of hE _ _ s1 1 (by omega) (by omega)) ml_X9_69 im_X9_of sel_X9_of ini_X9 cd_X9_of ok_X9_of rfl ⟨Nat.le_of_ble_eq_true rfl, Nat.le_of_ble_eq_true rfl⟩ ⟨Nat.zero_le _, Nat.zero_le _⟩ (by decide) rfl rfl rfl (rest := ([.int (1), .int (nI s1), .ref 0] : List Value)) rfl (Nat.le_of_ble_eq_true rfl) ?_
      refine bv_blk C frk_X9 csk_X9 3 25 rfl (L1 := ([(0, .ref 0), (1, .int (nI s1)), (2, .int b)] : Lc)) (st1 := ([.int (64), .int ((v1 1 (15 + 20 * s1 + 1)) + b), .int (1), .int (nI s1), .ref 0] : List Value)) (w1 := (layM v1 h)) (by rfl) ?_
      refine bv_fS1 C rfl (ct_around hE _ ((v1 1 (15 + 20 * s1 + 1)) + b) (64) (by decide)) ml_X9_76 st_X9_around ini_X9 cd_X9_around ok_X9_around rfl ⟨Nat.le_of_ble_eq_true rfl, Nat.le_of_ble_eq_true rfl⟩ ⟨Nat.zero_le _, Nat.zero_le _⟩ (rest := ([.int (1), .int (nI s1), .ref 0] : List Value)) rfl (Nat.le_of_ble_eq_true rfl) ?_
      refine bv_fV0 C rfl (ct_sets hE _ _ s1 1 (arI ((v1 1 (15 + 20 * s1 + 1)) + b) (64)) (by omega) (by omega)) ml_X9_48 im_X9_sets sel_X9_sets ini_X9 cd_X9_sets ok_X9_sets rfl ⟨Nat.le_of_ble_eq_true rfl, Nat.le_of_ble_eq_true rfl⟩ ⟨Nat.zero_le _, Nat.zero_le _⟩ (by decide) rfl rfl rfl (rest := ([] : List Value)) rfl (Nat.le_of_ble_eq_true rfl) ?_
      refine bv_blk C frk_X9 csk_X9 3 30 rfl (L1 := ([(0, .ref 0), (1, .int (nI s1)), (2, .int b)] : Lc)) (st1 := ([.int (1), .int (nI s1), .ref 0] : List Value)) (w1 := (layM (ug v1 1 (15 + 20 * s1 + 1) (arI ((v1 1 (15 + 20 * s1 + 1)) + b) (64))) h)) (by rfl) ?_
      refine bv_fV1 C rfl (ct_of hE _ _ s1 1 (by omega) (by omega)) ml_X9_69 im_X9_of sel_X9_of ini_X9 cd_X9_of ok_X9_of rfl ⟨Nat.le_of_ble_eq_true rfl, Nat.le_of_ble_eq_true rfl⟩ ⟨Nat.zero_le _, Nat.zero_le _⟩ (by decide) rfl rfl rfl (rest := ([] : List Value)) rfl (Nat.le_of_ble_eq_true rfl) ?_
      exact bv_iret C rfl hr rfl ⟨by (subst ev1; simp only [ug_same, nI_clamp (show s1 < 2 ^ 31 by omega), c1, c3, and_self, eq_self, or_true, true_or, not_true, not_false_iff, if_true, if_false, ↓reduceIte]), by (subst ev1; simp only [ug_same, nI_clamp (show s1 < 2 ^ 31 by omega), c1, c3, and_self, eq_self, or_true, true_or, not_true, not_false_iff, if_true, if_false, ↓reduceIte])⟩
    · refine bv_fS1 C rfl (ct_in_f hE _ (x := b) (lo := (-63)) (hi := (63)) c3) ml_X9_65 st_X9_in ini_X9 cd_X9_in ok_X9_in rfl ⟨Nat.le_of_ble_eq_true rfl, Nat.le_of_ble_eq_true rfl⟩ ⟨Nat.zero_le _, Nat.zero_le _⟩ (rest := ([] : List Value)) rfl (Nat.le_of_ble_eq_true rfl) ?_
      refine bv_if_ne (j := 13) C rfl rfl (fun h => absurd h (by decide)) (fun _ => ?_)
      refine bv_blk C frk_X9 csk_X9 1 12 rfl (L1 := ([(0, .ref 0), (1, .int (nI s1)), (2, .int b)] : Lc)) (st1 := ([.int (-100002)] : List Value)) (w1 := (layM g h)) (by rfl) ?_
      exact bv_iret C rfl hr rfl ⟨by (simp only [ug_same, nI_clamp (show s1 < 2 ^ 31 by omega), c1, c3, and_self, eq_self, or_true, true_or, not_true, not_false_iff, if_true, if_false, ↓reduceIte]), by (simp only [ug_same, nI_clamp (show s1 < 2 ^ 31 by omega), c1, c3, and_self, eq_self, or_true, true_or, not_true, not_false_iff, if_true, if_false, ↓reduceIte])⟩
  · refine bv_fS1 C rfl (ct_isStation_f hE _ a c1) ml_X9_130 st_X9_isStation ini_X9 cd_X9_isStation ok_X9_isStation rfl ⟨Nat.le_of_ble_eq_true rfl, Nat.le_of_ble_eq_true rfl⟩ ⟨Nat.zero_le _, Nat.zero_le _⟩ (rest := ([] : List Value)) rfl (Nat.le_of_ble_eq_true rfl) ?_
    refine bv_if_ne (j := 5) C rfl rfl (fun h => absurd h (by decide)) (fun _ => ?_)
    refine bv_blk C frk_X9 csk_X9 1 4 rfl (L1 := ([(0, .ref 0), (1, .int a), (2, .int b)] : Lc)) (st1 := ([.int (-100001)] : List Value)) (w1 := (layM g h)) (by rfl) ?_
    exact bv_iret C rfl hr rfl ⟨by (simp only [ug_same, c1, and_self, eq_self, or_true, true_or, not_true, not_false_iff, if_true, if_false, ↓reduceIte]), by (simp only [ug_same, c1, and_self, eq_self, or_true, true_or, not_true, not_false_iff, if_true, if_false, ↓reduceIte])⟩
set_option maxRecDepth 100000 in
set_option maxHeartbeats 4000000 in
theorem ct_setStation {l : Launch} {D : va_G} {cA : FieldType → ClassId} {z0 : Nat} {SK SV : Nat → Nat} {ad : Nat → Nat} (hE : aD (fun q => z0 ≤ q) ad 9) (g : Nat → Nat → Int32) (h : Int64) (a x y z : Int32) (hv : svK g) : bF l D cA z0 SK SV ad shM 9 yX9_setStation cX9_setStation 6 (some .int) 2 [.ref 0, .int a, .int x, .int y, .int z] (layM g h) (some (.int (if (((0) ≤ a ∧ a ≤ (1))) then (if ((2) ≤ x ∧ x ≤ (16)) then (if ((0) ≤ y ∧ y ≤ (63)) then (if ((0) ≤ z ∧ z ≤ (100)) then svG g 1 (15 + 20 * a.toNatClampNeg + 0) else (-100002)) else (-100002)) else (-100002)) else (-100001)))) (layM (if (((0) ≤ a ∧ a ≤ (1))) then (if ((2) ≤ x ∧ x ≤ (16)) then (if ((0) ≤ y ∧ y ≤ (63)) then (if ((0) ≤ z ∧ z ≤ (100)) then ug (ug (fillG (fillG (ug (ug (ug (ug (svG g) 1 (15 + 20 * a.toNatClampNeg + 0) x) 1 (15 + 20 * a.toNatClampNeg + 1) y) 1 (15 + 20 * a.toNatClampNeg + 2) z) 1 (15 + 20 * a.toNatClampNeg + 3) (-100000)) 19 16 (-100000)) 39 16 (-100000)) 1 0 0) 1 13 0 else g) else g) else g) else g) h) := by
  refine bCT_intro (tb := tb_X9_setStation) (own := RX9) hE pn_X9 rfl tk_X9_setStation rfl (Nat.le_of_ble_eq_true rfl) ?_
  intro p e s0 m args below meth c C hr
  refine bv_blk C frk_X9 csk_X9 1 1 rfl (L1 := ([(0, .ref 0), (1, .int a), (2, .int x), (3, .int y), (4, .int z)] : Lc)) (st1 := ([.int a] : List Value)) (w1 := (layM g h)) (by rfl) ?_
  by_cases c1 : ((0) ≤ a ∧ a ≤ (1))
  · obtain ⟨s1, hs1, rfl⟩ := stat_of c1
    refine bv_fS1 C rfl (ct_isStation_t hE _ (nI s1) (stat_in hs1)) ml_X9_130 st_X9_isStation ini_X9 cd_X9_isStation ok_X9_isStation rfl ⟨Nat.le_of_ble_eq_true rfl, Nat.le_of_ble_eq_true rfl⟩ ⟨Nat.zero_le _, Nat.zero_le _⟩ (rest := ([] : List Value)) rfl (Nat.le_of_ble_eq_true rfl) ?_
    refine bv_if_ne (j := 5) C rfl rfl (fun _ => ?_) (fun h => absurd h (by decide))
    refine bv_blk C frk_X9 csk_X9 4 9 rfl (L1 := ([(0, .ref 0), (1, .int (nI s1)), (2, .int x), (3, .int y), (4, .int z)] : Lc)) (st1 := ([.long (16), .long (2), .long (Int32.toInt64 x)] : List Value)) (w1 := (layM g h)) (by rfl) ?_
    by_cases c3 : ((2) ≤ x ∧ x ≤ (16))
    · refine bv_fS1 C rfl (ct_in_t hE _ (x := x) (lo := (2)) (hi := (16)) c3) ml_X9_65 st_X9_in ini_X9 cd_X9_in ok_X9_in rfl ⟨Nat.le_of_ble_eq_true rfl, Nat.le_of_ble_eq_true rfl⟩ ⟨Nat.zero_le _, Nat.zero_le _⟩ (rest := ([] : List Value)) rfl (Nat.le_of_ble_eq_true rfl) ?_
      refine bv_if_eq (j := 23) C rfl rfl (fun h => absurd h (by decide)) (fun _ => ?_)
      refine bv_blk C frk_X9 csk_X9 4 15 rfl (L1 := ([(0, .ref 0), (1, .int (nI s1)), (2, .int x), (3, .int y), (4, .int z)] : Lc)) (st1 := ([.long (63), .long (0), .long (Int32.toInt64 y)] : List Value)) (w1 := (layM g h)) (by rfl) ?_
      by_cases c5 : ((0) ≤ y ∧ y ≤ (63))
      · refine bv_fS1 C rfl (ct_in_t hE _ (x := y) (lo := (0)) (hi := (63)) c5) ml_X9_65 st_X9_in ini_X9 cd_X9_in ok_X9_in rfl ⟨Nat.le_of_ble_eq_true rfl, Nat.le_of_ble_eq_true rfl⟩ ⟨Nat.zero_le _, Nat.zero_le _⟩ (rest := ([] : List Value)) rfl (Nat.le_of_ble_eq_true rfl) ?_
        refine bv_if_eq (j := 23) C rfl rfl (fun h => absurd h (by decide)) (fun _ => ?_)
        refine bv_blk C frk_X9 csk_X9 4 21 rfl (L1 := ([(0, .ref 0), (1, .int (nI s1)), (2, .int x), (3, .int y), (4, .int z)] : Lc)) (st1 := ([.long (100), .long (0), .long (Int32.toInt64 z)] : List Value)) (w1 := (layM g h)) (by rfl) ?_
        by_cases c7 : ((0) ≤ z ∧ z ≤ (100))
        · refine bv_fS1 C rfl (ct_in_t hE _ (x := z) (lo := (0)) (hi := (100)) c7) ml_X9_65 st_X9_in ini_X9 cd_X9_in ok_X9_in rfl ⟨Nat.le_of_ble_eq_true rfl, Nat.le_of_ble_eq_true rfl⟩ ⟨Nat.zero_le _, Nat.zero_le _⟩ (rest := ([] : List Value)) rfl (Nat.le_of_ble_eq_true rfl) ?_
          refine bv_if_ne (j := 25) C rfl rfl (fun _ => ?_) (fun h => absurd h (by decide))
          refine bv_blk C frk_X9 csk_X9 1 26 rfl (L1 := ([(0, .ref 0), (1, .int (nI s1)), (2, .int x), (3, .int y), (4, .int z)] : Lc)) (st1 := ([.ref 0] : List Value)) (w1 := (layM g h)) (by rfl) ?_
          refine bv_fV0 C rfl (ct_savesA hE g _ hv) ml_X9_134 im_X9_saves sel_X9_saves ini_X9 cd_X9_saves ok_X9_saves rfl ⟨Nat.le_of_ble_eq_true rfl, Nat.le_of_ble_eq_true rfl⟩ ⟨Nat.zero_le _, Nat.zero_le _⟩ (by decide) rfl rfl rfl (rest := ([] : List Value)) rfl (Nat.le_of_ble_eq_true rfl) ?_
          obtain ⟨v1, ev1⟩ : ∃ x : Nat → Nat → Int32, x = (svG g) := ⟨_, rfl⟩
          have kp_v1 : kept g v1 := by rw [ev1]; exact (kp_sv (kp_rf _))
          refine bv_weq (show (layM (svG g) h) = (layM v1 h) from by rw [ev1]) ?_
          refine bv_blk C frk_X9 csk_X9 3 30 rfl (L1 := ([(0, .ref 0), (1, .int (nI s1)), (2, .int x), (3, .int y), (4, .int z)] : Lc)) (st1 := ([.int (0), .int (nI s1), .ref 0] : List Value)) (w1 := (layM v1 h)) (by rfl) ?_
          refine bv_fV1 C rfl (ct_of hE _ _ s1 0 (by omega) (by omega)) ml_X9_69 im_X9_of sel_X9_of ini_X9 cd_X9_of ok_X9_of rfl ⟨Nat.le_of_ble_eq_true rfl, Nat.le_of_ble_eq_true rfl⟩ ⟨Nat.zero_le _, Nat.zero_le _⟩ (by decide) rfl rfl rfl (rest := ([] : List Value)) rfl (Nat.le_of_ble_eq_true rfl) ?_
          refine bv_blk C frk_X9 csk_X9 5 36 rfl (L1 := ([(5, .int (v1 1 (15 + 20 * s1 + 0))), (0, .ref 0), (1, .int (nI s1)), (2, .int x), (3, .int y), (4, .int z)] : Lc)) (st1 := ([.int x, .int (0), .int (nI s1), .ref 0] : List Value)) (w1 := (layM v1 h)) (by rfl) ?_
          refine bv_fV0 C rfl (ct_sets hE _ _ s1 0 x (by omega) (by omega)) ml_X9_48 im_X9_sets sel_X9_sets ini_X9 cd_X9_sets ok_X9_sets rfl ⟨Nat.le_of_ble_eq_true rfl, Nat.le_of_ble_eq_true rfl⟩ ⟨Nat.zero_le _, Nat.zero_le _⟩ (by decide) rfl rfl rfl (rest := ([] : List Value)) rfl (Nat.le_of_ble_eq_true rfl) ?_
          refine bv_blk C frk_X9 csk_X9 4 41 rfl (L1 := ([(5, .int (v1 1 (15 + 20 * s1 + 0))), (0, .ref 0), (1, .int (nI s1)), (2, .int x), (3, .int y), (4, .int z)] : Lc)) (st1 := ([.int y, .int (1), .int (nI s1), .ref 0] : List Value)) (w1 := (layM (ug v1 1 (15 + 20 * s1 + 0) x) h)) (by rfl) ?_
          refine bv_fV0 C rfl (ct_sets hE _ _ s1 1 y (by omega) (by omega)) ml_X9_48 im_X9_sets sel_X9_sets ini_X9 cd_X9_sets ok_X9_sets rfl ⟨Nat.le_of_ble_eq_true rfl, Nat.le_of_ble_eq_true rfl⟩ ⟨Nat.zero_le _, Nat.zero_le _⟩ (by decide) rfl rfl rfl (rest := ([] : List Value)) rfl (Nat.le_of_ble_eq_true rfl) ?_
          refine bv_blk C frk_X9 csk_X9 4 46 rfl (L1 := ([(5, .int (v1 1 (15 + 20 * s1 + 0))), (0, .ref 0), (1, .int (nI s1)), (2, .int x), (3, .int y), (4, .int z)] : Lc)) (st1 := ([.int z, .int (2), .int (nI s1), .ref 0] : List Value)) (w1 := (layM (ug (ug v1 1 (15 + 20 * s1 + 0) x) 1 (15 + 20 * s1 + 1) y) h)) (by rfl) ?_
          refine bv_fV0 C rfl (ct_sets hE _ _ s1 2 z (by omega) (by omega)) ml_X9_48 im_X9_sets sel_X9_sets ini_X9 cd_X9_sets ok_X9_sets rfl ⟨Nat.le_of_ble_eq_true rfl, Nat.le_of_ble_eq_true rfl⟩ ⟨Nat.zero_le _, Nat.zero_le _⟩ (by decide) rfl rfl rfl (rest := ([] : List Value)) rfl (Nat.le_of_ble_eq_true rfl) ?_
          refine bv_blk C frk_X9 csk_X9 4 51 rfl (L1 := ([(5, .int (v1 1 (15 + 20 * s1 + 0))), (0, .ref 0), (1, .int (nI s1)), (2, .int x), (3, .int y), (4, .int z)] : Lc)) (st1 := ([.int (-100000), .int (3), .int (nI s1), .ref 0] : List Value)) (w1 := (layM (ug (ug (ug v1 1 (15 + 20 * s1 + 0) x) 1 (15 + 20 * s1 + 1) y) 1 (15 + 20 * s1 + 2) z) h)) (by rfl) ?_
          refine bv_fV0 C rfl (ct_sets hE _ _ s1 3 (-100000) (by omega) (by omega)) ml_X9_48 im_X9_sets sel_X9_sets ini_X9 cd_X9_sets ok_X9_sets rfl ⟨Nat.le_of_ble_eq_true rfl, Nat.le_of_ble_eq_true rfl⟩ ⟨Nat.zero_le _, Nat.zero_le _⟩ (by decide) rfl rfl rfl (rest := ([] : List Value)) rfl (Nat.le_of_ble_eq_true rfl) ?_
          refine bv_blk C frk_X9 csk_X9 2 54 rfl (L1 := ([(5, .int (v1 1 (15 + 20 * s1 + 0))), (0, .ref 0), (1, .int (nI s1)), (2, .int x), (3, .int y), (4, .int z)] : Lc)) (st1 := ([.int (0), .ref 0] : List Value)) (w1 := (layM (ug (ug (ug (ug v1 1 (15 + 20 * s1 + 0) x) 1 (15 + 20 * s1 + 1) y) 1 (15 + 20 * s1 + 2) z) 1 (15 + 20 * s1 + 3) (-100000)) h)) (by rfl) ?_
          refine bv_fV0 C rfl (ct_clearsTable hE _ _ 0 (by omega)) ml_X9_53 im_X9_clearsTable sel_X9_clearsTable ini_X9 cd_X9_clearsTable ok_X9_clearsTable rfl ⟨Nat.le_of_ble_eq_true rfl, Nat.le_of_ble_eq_true rfl⟩ ⟨Nat.zero_le _, Nat.zero_le _⟩ (by decide) rfl rfl rfl (rest := ([] : List Value)) rfl (Nat.le_of_ble_eq_true rfl) ?_
          refine bv_blk C frk_X9 csk_X9 2 57 rfl (L1 := ([(5, .int (v1 1 (15 + 20 * s1 + 0))), (0, .ref 0), (1, .int (nI s1)), (2, .int x), (3, .int y), (4, .int z)] : Lc)) (st1 := ([.int (1), .ref 0] : List Value)) (w1 := (layM (fillG (ug (ug (ug (ug v1 1 (15 + 20 * s1 + 0) x) 1 (15 + 20 * s1 + 1) y) 1 (15 + 20 * s1 + 2) z) 1 (15 + 20 * s1 + 3) (-100000)) 19 16 (-100000)) h)) (by rfl) ?_
          refine bv_fV0 C rfl (ct_clearsTable hE _ _ 1 (by omega)) ml_X9_53 im_X9_clearsTable sel_X9_clearsTable ini_X9 cd_X9_clearsTable ok_X9_clearsTable rfl ⟨Nat.le_of_ble_eq_true rfl, Nat.le_of_ble_eq_true rfl⟩ ⟨Nat.zero_le _, Nat.zero_le _⟩ (by decide) rfl rfl rfl (rest := ([] : List Value)) rfl (Nat.le_of_ble_eq_true rfl) ?_
          refine bv_blk C frk_X9 csk_X9 4 62 rfl (L1 := ([(5, .int (v1 1 (15 + 20 * s1 + 0))), (0, .ref 0), (1, .int (nI s1)), (2, .int x), (3, .int y), (4, .int z)] : Lc)) (st1 := ([.int (0), .int (0), .ref 1] : List Value)) (w1 := (layM (fillG (fillG (ug (ug (ug (ug v1 1 (15 + 20 * s1 + 0) x) 1 (15 + 20 * s1 + 1) y) 1 (15 + 20 * s1 + 2) z) 1 (15 + 20 * s1 + 3) (-100000)) 19 16 (-100000)) 39 16 (-100000)) h)) (by rfl) ?_
          refine bv_iast C rfl rfl (by decide) (j := 0) (by exact rfl) (by first | decide | omega) (by decide) ?_
          rw [lm_up rfl]
          refine bv_blk C frk_X9 csk_X9 4 67 rfl (L1 := ([(5, .int (v1 1 (15 + 20 * s1 + 0))), (0, .ref 0), (1, .int (nI s1)), (2, .int x), (3, .int y), (4, .int z)] : Lc)) (st1 := ([.int (0), .int (13), .ref 1] : List Value)) (w1 := (layM (ug (fillG (fillG (ug (ug (ug (ug v1 1 (15 + 20 * s1 + 0) x) 1 (15 + 20 * s1 + 1) y) 1 (15 + 20 * s1 + 2) z) 1 (15 + 20 * s1 + 3) (-100000)) 19 16 (-100000)) 39 16 (-100000)) 1 0 (0)) h)) (by rfl) ?_
          refine bv_iast C rfl rfl (by decide) (j := 13) (by exact rfl) (by first | decide | omega) (by decide) ?_
          rw [lm_up rfl]
          refine bv_blk C frk_X9 csk_X9 1 69 rfl (L1 := ([(5, .int (v1 1 (15 + 20 * s1 + 0))), (0, .ref 0), (1, .int (nI s1)), (2, .int x), (3, .int y), (4, .int z)] : Lc)) (st1 := ([.int (v1 1 (15 + 20 * s1 + 0))] : List Value)) (w1 := (layM (ug (ug (fillG (fillG (ug (ug (ug (ug v1 1 (15 + 20 * s1 + 0) x) 1 (15 + 20 * s1 + 1) y) 1 (15 + 20 * s1 + 2) z) 1 (15 + 20 * s1 + 3) (-100000)) 19 16 (-100000)) 39 16 (-100000)) 1 0 (0)) 1 13 (0)) h)) (by rfl) ?_
          exact bv_iret C rfl hr rfl ⟨by (subst ev1; simp only [ug_same, nI_clamp (show s1 < 2 ^ 31 by omega), c1, c3, c5, c7, and_self, eq_self, or_true, true_or, not_true, not_false_iff, if_true, if_false, ↓reduceIte]), by (subst ev1; simp only [ug_same, nI_clamp (show s1 < 2 ^ 31 by omega), c1, c3, c5, c7, and_self, eq_self, or_true, true_or, not_true, not_false_iff, if_true, if_false, ↓reduceIte])⟩
        · refine bv_fS1 C rfl (ct_in_f hE _ (x := z) (lo := (0)) (hi := (100)) c7) ml_X9_65 st_X9_in ini_X9 cd_X9_in ok_X9_in rfl ⟨Nat.le_of_ble_eq_true rfl, Nat.le_of_ble_eq_true rfl⟩ ⟨Nat.zero_le _, Nat.zero_le _⟩ (rest := ([] : List Value)) rfl (Nat.le_of_ble_eq_true rfl) ?_
          refine bv_if_ne (j := 25) C rfl rfl (fun h => absurd h (by decide)) (fun _ => ?_)
          refine bv_blk C frk_X9 csk_X9 1 24 rfl (L1 := ([(0, .ref 0), (1, .int (nI s1)), (2, .int x), (3, .int y), (4, .int z)] : Lc)) (st1 := ([.int (-100002)] : List Value)) (w1 := (layM g h)) (by rfl) ?_
          exact bv_iret C rfl hr rfl ⟨by (simp only [ug_same, nI_clamp (show s1 < 2 ^ 31 by omega), c1, c3, c5, c7, and_self, eq_self, or_true, true_or, not_true, not_false_iff, if_true, if_false, ↓reduceIte]), by (simp only [ug_same, nI_clamp (show s1 < 2 ^ 31 by omega), c1, c3, c5, c7, and_self, eq_self, or_true, true_or, not_true, not_false_iff, if_true, if_false, ↓reduceIte])⟩
      · refine bv_fS1 C rfl (ct_in_f hE _ (x := y) (lo := (0)) (hi := (63)) c5) ml_X9_65 st_X9_in ini_X9 cd_X9_in ok_X9_in rfl ⟨Nat.le_of_ble_eq_true rfl, Nat.le_of_ble_eq_true rfl⟩ ⟨Nat.zero_le _, Nat.zero_le _⟩ (rest := ([] : List Value)) rfl (Nat.le_of_ble_eq_true rfl) ?_
        refine bv_if_eq (j := 23) C rfl rfl (fun _ => ?_) (fun h => absurd h (by decide))
        refine bv_blk C frk_X9 csk_X9 1 24 rfl (L1 := ([(0, .ref 0), (1, .int (nI s1)), (2, .int x), (3, .int y), (4, .int z)] : Lc)) (st1 := ([.int (-100002)] : List Value)) (w1 := (layM g h)) (by rfl) ?_
        exact bv_iret C rfl hr rfl ⟨by (simp only [ug_same, nI_clamp (show s1 < 2 ^ 31 by omega), c1, c3, c5, and_self, eq_self, or_true, true_or, not_true, not_false_iff, if_true, if_false, ↓reduceIte]), by (simp only [ug_same, nI_clamp (show s1 < 2 ^ 31 by omega), c1, c3, c5, and_self, eq_self, or_true, true_or, not_true, not_false_iff, if_true, if_false, ↓reduceIte])⟩
    · refine bv_fS1 C rfl (ct_in_f hE _ (x := x) (lo := (2)) (hi := (16)) c3) ml_X9_65 st_X9_in ini_X9 cd_X9_in ok_X9_in rfl ⟨Nat.le_of_ble_eq_true rfl, Nat.le_of_ble_eq_true rfl⟩ ⟨Nat.zero_le _, Nat.zero_le _⟩ (rest := ([] : List Value)) rfl (Nat.le_of_ble_eq_true rfl) ?_
      refine bv_if_eq (j := 23) C rfl rfl (fun _ => ?_) (fun h => absurd h (by decide))
      refine bv_blk C frk_X9 csk_X9 1 24 rfl (L1 := ([(0, .ref 0), (1, .int (nI s1)), (2, .int x), (3, .int y), (4, .int z)] : Lc)) (st1 := ([.int (-100002)] : List Value)) (w1 := (layM g h)) (by rfl) ?_
      exact bv_iret C rfl hr rfl ⟨by (simp only [ug_same, nI_clamp (show s1 < 2 ^ 31 by omega), c1, c3, and_self, eq_self, or_true, true_or, not_true, not_false_iff, if_true, if_false, ↓reduceIte]), by (simp only [ug_same, nI_clamp (show s1 < 2 ^ 31 by omega), c1, c3, and_self, eq_self, or_true, true_or, not_true, not_false_iff, if_true, if_false, ↓reduceIte])⟩
  · refine bv_fS1 C rfl (ct_isStation_f hE _ a c1) ml_X9_130 st_X9_isStation ini_X9 cd_X9_isStation ok_X9_isStation rfl ⟨Nat.le_of_ble_eq_true rfl, Nat.le_of_ble_eq_true rfl⟩ ⟨Nat.zero_le _, Nat.zero_le _⟩ (rest := ([] : List Value)) rfl (Nat.le_of_ble_eq_true rfl) ?_
    refine bv_if_ne (j := 5) C rfl rfl (fun h => absurd h (by decide)) (fun _ => ?_)
    refine bv_blk C frk_X9 csk_X9 1 4 rfl (L1 := ([(0, .ref 0), (1, .int a), (2, .int x), (3, .int y), (4, .int z)] : Lc)) (st1 := ([.int (-100001)] : List Value)) (w1 := (layM g h)) (by rfl) ?_
    exact bv_iret C rfl hr rfl ⟨by (simp only [ug_same, c1, and_self, eq_self, or_true, true_or, not_true, not_false_iff, if_true, if_false, ↓reduceIte]), by (simp only [ug_same, c1, and_self, eq_self, or_true, true_or, not_true, not_false_iff, if_true, if_false, ↓reduceIte])⟩
set_option maxRecDepth 100000 in
set_option maxHeartbeats 4000000 in
theorem ct_select {l : Launch} {D : va_G} {cA : FieldType → ClassId} {z0 : Nat} {SK SV : Nat → Nat} {ad : Nat → Nat} (hE : aD (fun q => z0 ≤ q) ad 9) (g : Nat → Nat → Int32) (h : Int64) (a b : Int32) (hv : svK g) : bF l D cA z0 SK SV ad shM 9 yX9_select cX9_select 4 (some .int) 2 [.ref 0, .int a, .int b] (layM g h) (some (.int (if (((0) ≤ a ∧ a ≤ (1))) then (if ((0) ≤ b ∧ b ≤ ((6) * (g 1 (15 + 20 * a.toNatClampNeg + 0))) - (1)) then svG g 1 (15 + 20 * a.toNatClampNeg + 3) else (-100002)) else (-100001)))) (layM (if (((0) ≤ a ∧ a ≤ (1))) then (if ((0) ≤ b ∧ b ≤ ((6) * (g 1 (15 + 20 * a.toNatClampNeg + 0))) - (1)) then ug (svG g) 1 (15 + 20 * a.toNatClampNeg + 3) b else g) else g) h) := by
  refine bCT_intro (tb := tb_X9_select) (own := RX9) hE pn_X9 rfl tk_X9_select rfl (Nat.le_of_ble_eq_true rfl) ?_
  intro p e s0 m args below meth c C hr
  refine bv_blk C frk_X9 csk_X9 1 1 rfl (L1 := ([(0, .ref 0), (1, .int a), (2, .int b)] : Lc)) (st1 := ([.int a] : List Value)) (w1 := (layM g h)) (by rfl) ?_
  by_cases c1 : ((0) ≤ a ∧ a ≤ (1))
  · obtain ⟨s1, hs1, rfl⟩ := stat_of c1
    refine bv_fS1 C rfl (ct_isStation_t hE _ (nI s1) (stat_in hs1)) ml_X9_130 st_X9_isStation ini_X9 cd_X9_isStation ok_X9_isStation rfl ⟨Nat.le_of_ble_eq_true rfl, Nat.le_of_ble_eq_true rfl⟩ ⟨Nat.zero_le _, Nat.zero_le _⟩ (rest := ([] : List Value)) rfl (Nat.le_of_ble_eq_true rfl) ?_
    refine bv_if_ne (j := 5) C rfl rfl (fun _ => ?_) (fun h => absurd h (by decide))
    refine bv_blk C frk_X9 csk_X9 3 8 rfl (L1 := ([(0, .ref 0), (1, .int (nI s1)), (2, .int b)] : Lc)) (st1 := ([.int b, .int (nI s1), .ref 0] : List Value)) (w1 := (layM g h)) (by rfl) ?_
    by_cases c3 : ((0) ≤ b ∧ b ≤ ((6) * (g 1 (15 + 20 * s1 + 0))) - (1))
    · refine bv_fV1 C rfl (ct_hasBeam_t hE _ _ s1 b (by omega) c3) ml_X9_288 im_X9_hasBeam sel_X9_hasBeam ini_X9 cd_X9_hasBeam ok_X9_hasBeam rfl ⟨Nat.le_of_ble_eq_true rfl, Nat.le_of_ble_eq_true rfl⟩ ⟨Nat.zero_le _, Nat.zero_le _⟩ (by decide) rfl rfl rfl (rest := ([] : List Value)) rfl (Nat.le_of_ble_eq_true rfl) ?_
      refine bv_if_ne (j := 12) C rfl rfl (fun _ => ?_) (fun h => absurd h (by decide))
      refine bv_blk C frk_X9 csk_X9 1 13 rfl (L1 := ([(0, .ref 0), (1, .int (nI s1)), (2, .int b)] : Lc)) (st1 := ([.ref 0] : List Value)) (w1 := (layM g h)) (by rfl) ?_
      refine bv_fV0 C rfl (ct_savesA hE g _ hv) ml_X9_134 im_X9_saves sel_X9_saves ini_X9 cd_X9_saves ok_X9_saves rfl ⟨Nat.le_of_ble_eq_true rfl, Nat.le_of_ble_eq_true rfl⟩ ⟨Nat.zero_le _, Nat.zero_le _⟩ (by decide) rfl rfl rfl (rest := ([] : List Value)) rfl (Nat.le_of_ble_eq_true rfl) ?_
      obtain ⟨v1, ev1⟩ : ∃ x : Nat → Nat → Int32, x = (svG g) := ⟨_, rfl⟩
      have kp_v1 : kept g v1 := by rw [ev1]; exact (kp_sv (kp_rf _))
      refine bv_weq (show (layM (svG g) h) = (layM v1 h) from by rw [ev1]) ?_
      refine bv_blk C frk_X9 csk_X9 3 17 rfl (L1 := ([(0, .ref 0), (1, .int (nI s1)), (2, .int b)] : Lc)) (st1 := ([.int (3), .int (nI s1), .ref 0] : List Value)) (w1 := (layM v1 h)) (by rfl) ?_
      refine bv_fV1 C rfl (ct_of hE _ _ s1 3 (by omega) (by omega)) ml_X9_69 im_X9_of sel_X9_of ini_X9 cd_X9_of ok_X9_of rfl ⟨Nat.le_of_ble_eq_true rfl, Nat.le_of_ble_eq_true rfl⟩ ⟨Nat.zero_le _, Nat.zero_le _⟩ (by decide) rfl rfl rfl (rest := ([] : List Value)) rfl (Nat.le_of_ble_eq_true rfl) ?_
      refine bv_blk C frk_X9 csk_X9 5 23 rfl (L1 := ([(3, .int (v1 1 (15 + 20 * s1 + 3))), (0, .ref 0), (1, .int (nI s1)), (2, .int b)] : Lc)) (st1 := ([.int b, .int (3), .int (nI s1), .ref 0] : List Value)) (w1 := (layM v1 h)) (by rfl) ?_
      refine bv_fV0 C rfl (ct_sets hE _ _ s1 3 b (by omega) (by omega)) ml_X9_48 im_X9_sets sel_X9_sets ini_X9 cd_X9_sets ok_X9_sets rfl ⟨Nat.le_of_ble_eq_true rfl, Nat.le_of_ble_eq_true rfl⟩ ⟨Nat.zero_le _, Nat.zero_le _⟩ (by decide) rfl rfl rfl (rest := ([] : List Value)) rfl (Nat.le_of_ble_eq_true rfl) ?_
      refine bv_blk C frk_X9 csk_X9 1 25 rfl (L1 := ([(3, .int (v1 1 (15 + 20 * s1 + 3))), (0, .ref 0), (1, .int (nI s1)), (2, .int b)] : Lc)) (st1 := ([.int (v1 1 (15 + 20 * s1 + 3))] : List Value)) (w1 := (layM (ug v1 1 (15 + 20 * s1 + 3) b) h)) (by rfl) ?_
      exact bv_iret C rfl hr rfl ⟨by (subst ev1; simp only [ug_same, nI_clamp (show s1 < 2 ^ 31 by omega), c1, c3, and_self, eq_self, or_true, true_or, not_true, not_false_iff, if_true, if_false, ↓reduceIte]), by (subst ev1; simp only [ug_same, nI_clamp (show s1 < 2 ^ 31 by omega), c1, c3, and_self, eq_self, or_true, true_or, not_true, not_false_iff, if_true, if_false, ↓reduceIte])⟩
    · refine bv_fV1 C rfl (ct_hasBeam_f hE _ _ s1 b (by omega) c3) ml_X9_288 im_X9_hasBeam sel_X9_hasBeam ini_X9 cd_X9_hasBeam ok_X9_hasBeam rfl ⟨Nat.le_of_ble_eq_true rfl, Nat.le_of_ble_eq_true rfl⟩ ⟨Nat.zero_le _, Nat.zero_le _⟩ (by decide) rfl rfl rfl (rest := ([] : List Value)) rfl (Nat.le_of_ble_eq_true rfl) ?_
      refine bv_if_ne (j := 12) C rfl rfl (fun h => absurd h (by decide)) (fun _ => ?_)
      refine bv_blk C frk_X9 csk_X9 1 11 rfl (L1 := ([(0, .ref 0), (1, .int (nI s1)), (2, .int b)] : Lc)) (st1 := ([.int (-100002)] : List Value)) (w1 := (layM g h)) (by rfl) ?_
      exact bv_iret C rfl hr rfl ⟨by (simp only [ug_same, nI_clamp (show s1 < 2 ^ 31 by omega), c1, c3, and_self, eq_self, or_true, true_or, not_true, not_false_iff, if_true, if_false, ↓reduceIte]), by (simp only [ug_same, nI_clamp (show s1 < 2 ^ 31 by omega), c1, c3, and_self, eq_self, or_true, true_or, not_true, not_false_iff, if_true, if_false, ↓reduceIte])⟩
  · refine bv_fS1 C rfl (ct_isStation_f hE _ a c1) ml_X9_130 st_X9_isStation ini_X9 cd_X9_isStation ok_X9_isStation rfl ⟨Nat.le_of_ble_eq_true rfl, Nat.le_of_ble_eq_true rfl⟩ ⟨Nat.zero_le _, Nat.zero_le _⟩ (rest := ([] : List Value)) rfl (Nat.le_of_ble_eq_true rfl) ?_
    refine bv_if_ne (j := 5) C rfl rfl (fun h => absurd h (by decide)) (fun _ => ?_)
    refine bv_blk C frk_X9 csk_X9 1 4 rfl (L1 := ([(0, .ref 0), (1, .int a), (2, .int b)] : Lc)) (st1 := ([.int (-100001)] : List Value)) (w1 := (layM g h)) (by rfl) ?_
    exact bv_iret C rfl hr rfl ⟨by (simp only [ug_same, c1, and_self, eq_self, or_true, true_or, not_true, not_false_iff, if_true, if_false, ↓reduceIte]), by (simp only [ug_same, c1, and_self, eq_self, or_true, true_or, not_true, not_false_iff, if_true, if_false, ↓reduceIte])⟩
set_option maxRecDepth 100000 in
set_option maxHeartbeats 4000000 in
theorem ct_setDrift {l : Launch} {D : va_G} {cA : FieldType → ClassId} {z0 : Nat} {SK SV : Nat → Nat} {ad : Nat → Nat} (hE : aD (fun q => z0 ≤ q) ad 9) (g : Nat → Nat → Int32) (h : Int64) (n : Nat) (a x y : Int32) (hs : statR g n) (hv : svK g) : bF l D cA z0 SK SV ad shM 9 yX9_setDrift cX9_setDrift 4 (some .int) 2 [.ref 0, .int a, .int x, .int y] (layM g h) (some (.int (if ((0) ≤ a ∧ a ≤ (g 1 12) - (1)) then (if ((-3) ≤ x ∧ x ≤ (3)) then (if ((-3) ≤ y ∧ y ≤ (3)) then 1 else (-100002)) else (-100002)) else (-100001)))) (layM (if ((0) ≤ a ∧ a ≤ (g 1 12) - (1)) then (if ((-3) ≤ x ∧ x ≤ (3)) then (if ((-3) ≤ y ∧ y ≤ (3)) then ug (ug (svG g) 1 (55 + 6 * a.toNatClampNeg + 4) x) 1 (55 + 6 * a.toNatClampNeg + 5) y else g) else g) else g) h) := by
  refine bCT_intro (tb := tb_X9_setDrift) (own := RX9) hE pn_X9 rfl tk_X9_setDrift rfl (Nat.le_of_ble_eq_true rfl) ?_
  intro p e s0 m args below meth c C hr
  have hn8 := hs.2.1
  refine bv_blk C frk_X9 csk_X9 2 2 rfl (L1 := ([(0, .ref 0), (1, .int a), (2, .int x), (3, .int y)] : Lc)) (st1 := ([.int a, .ref 0] : List Value)) (w1 := (layM g h)) (by rfl) ?_
  by_cases c1 : ((0) ≤ a ∧ a ≤ (g 1 12) - (1))
  · obtain ⟨q1, hq1, rfl⟩ := path_of hs.1 (by omega) c1
    refine bv_fV1 C rfl (ct_isPath_t hE _ _ (nI q1) c1) ml_X9_268 im_X9_isPath sel_X9_isPath ini_X9 cd_X9_isPath ok_X9_isPath rfl ⟨Nat.le_of_ble_eq_true rfl, Nat.le_of_ble_eq_true rfl⟩ ⟨Nat.zero_le _, Nat.zero_le _⟩ (by decide) rfl rfl rfl (rest := ([] : List Value)) rfl (Nat.le_of_ble_eq_true rfl) ?_
    refine bv_if_ne (j := 6) C rfl rfl (fun _ => ?_) (fun h => absurd h (by decide))
    refine bv_blk C frk_X9 csk_X9 4 10 rfl (L1 := ([(0, .ref 0), (1, .int (nI q1)), (2, .int x), (3, .int y)] : Lc)) (st1 := ([.long (3), .long (-3), .long (Int32.toInt64 x)] : List Value)) (w1 := (layM g h)) (by rfl) ?_
    by_cases c3 : ((-3) ≤ x ∧ x ≤ (3))
    · refine bv_fS1 C rfl (ct_in_t hE _ (x := x) (lo := (-3)) (hi := (3)) c3) ml_X9_65 st_X9_in ini_X9 cd_X9_in ok_X9_in rfl ⟨Nat.le_of_ble_eq_true rfl, Nat.le_of_ble_eq_true rfl⟩ ⟨Nat.zero_le _, Nat.zero_le _⟩ (rest := ([] : List Value)) rfl (Nat.le_of_ble_eq_true rfl) ?_
      refine bv_if_eq (j := 18) C rfl rfl (fun h => absurd h (by decide)) (fun _ => ?_)
      refine bv_blk C frk_X9 csk_X9 4 16 rfl (L1 := ([(0, .ref 0), (1, .int (nI q1)), (2, .int x), (3, .int y)] : Lc)) (st1 := ([.long (3), .long (-3), .long (Int32.toInt64 y)] : List Value)) (w1 := (layM g h)) (by rfl) ?_
      by_cases c5 : ((-3) ≤ y ∧ y ≤ (3))
      · refine bv_fS1 C rfl (ct_in_t hE _ (x := y) (lo := (-3)) (hi := (3)) c5) ml_X9_65 st_X9_in ini_X9 cd_X9_in ok_X9_in rfl ⟨Nat.le_of_ble_eq_true rfl, Nat.le_of_ble_eq_true rfl⟩ ⟨Nat.zero_le _, Nat.zero_le _⟩ (rest := ([] : List Value)) rfl (Nat.le_of_ble_eq_true rfl) ?_
        refine bv_if_ne (j := 20) C rfl rfl (fun _ => ?_) (fun h => absurd h (by decide))
        refine bv_blk C frk_X9 csk_X9 1 21 rfl (L1 := ([(0, .ref 0), (1, .int (nI q1)), (2, .int x), (3, .int y)] : Lc)) (st1 := ([.ref 0] : List Value)) (w1 := (layM g h)) (by rfl) ?_
        refine bv_fV0 C rfl (ct_savesA hE g _ hv) ml_X9_134 im_X9_saves sel_X9_saves ini_X9 cd_X9_saves ok_X9_saves rfl ⟨Nat.le_of_ble_eq_true rfl, Nat.le_of_ble_eq_true rfl⟩ ⟨Nat.zero_le _, Nat.zero_le _⟩ (by decide) rfl rfl rfl (rest := ([] : List Value)) rfl (Nat.le_of_ble_eq_true rfl) ?_
        obtain ⟨v1, ev1⟩ : ∃ x : Nat → Nat → Int32, x = (svG g) := ⟨_, rfl⟩
        have kp_v1 : kept g v1 := by rw [ev1]; exact (kp_sv (kp_rf _))
        refine bv_weq (show (layM (svG g) h) = (layM v1 h) from by rw [ev1]) ?_
        refine bv_blk C frk_X9 csk_X9 4 26 rfl (L1 := ([(0, .ref 0), (1, .int (nI q1)), (2, .int x), (3, .int y)] : Lc)) (st1 := ([.int x, .int (4), .int (nI q1), .ref 0] : List Value)) (w1 := (layM v1 h)) (by rfl) ?_
        refine bv_fV0 C rfl (ct_setsPath hE _ _ q1 4 x (by omega) (by omega)) ml_X9_173 im_X9_setsPath sel_X9_setsPath ini_X9 cd_X9_setsPath ok_X9_setsPath rfl ⟨Nat.le_of_ble_eq_true rfl, Nat.le_of_ble_eq_true rfl⟩ ⟨Nat.zero_le _, Nat.zero_le _⟩ (by decide) rfl rfl rfl (rest := ([] : List Value)) rfl (Nat.le_of_ble_eq_true rfl) ?_
        refine bv_blk C frk_X9 csk_X9 4 31 rfl (L1 := ([(0, .ref 0), (1, .int (nI q1)), (2, .int x), (3, .int y)] : Lc)) (st1 := ([.int y, .int (5), .int (nI q1), .ref 0] : List Value)) (w1 := (layM (ug v1 1 (55 + 6 * q1 + 4) x) h)) (by rfl) ?_
        refine bv_fV0 C rfl (ct_setsPath hE _ _ q1 5 y (by omega) (by omega)) ml_X9_173 im_X9_setsPath sel_X9_setsPath ini_X9 cd_X9_setsPath ok_X9_setsPath rfl ⟨Nat.le_of_ble_eq_true rfl, Nat.le_of_ble_eq_true rfl⟩ ⟨Nat.zero_le _, Nat.zero_le _⟩ (by decide) rfl rfl rfl (rest := ([] : List Value)) rfl (Nat.le_of_ble_eq_true rfl) ?_
        refine bv_blk C frk_X9 csk_X9 1 33 rfl (L1 := ([(0, .ref 0), (1, .int (nI q1)), (2, .int x), (3, .int y)] : Lc)) (st1 := ([.int (1)] : List Value)) (w1 := (layM (ug (ug v1 1 (55 + 6 * q1 + 4) x) 1 (55 + 6 * q1 + 5) y) h)) (by rfl) ?_
        exact bv_iret C rfl hr rfl ⟨by (subst ev1; simp only [ug_same, nI_clamp (show q1 < 2 ^ 31 by omega), c1, c3, c5, and_self, eq_self, or_true, true_or, not_true, not_false_iff, if_true, if_false, ↓reduceIte]), by (subst ev1; simp only [ug_same, nI_clamp (show q1 < 2 ^ 31 by omega), c1, c3, c5, and_self, eq_self, or_true, true_or, not_true, not_false_iff, if_true, if_false, ↓reduceIte])⟩
      · refine bv_fS1 C rfl (ct_in_f hE _ (x := y) (lo := (-3)) (hi := (3)) c5) ml_X9_65 st_X9_in ini_X9 cd_X9_in ok_X9_in rfl ⟨Nat.le_of_ble_eq_true rfl, Nat.le_of_ble_eq_true rfl⟩ ⟨Nat.zero_le _, Nat.zero_le _⟩ (rest := ([] : List Value)) rfl (Nat.le_of_ble_eq_true rfl) ?_
        refine bv_if_ne (j := 20) C rfl rfl (fun h => absurd h (by decide)) (fun _ => ?_)
        refine bv_blk C frk_X9 csk_X9 1 19 rfl (L1 := ([(0, .ref 0), (1, .int (nI q1)), (2, .int x), (3, .int y)] : Lc)) (st1 := ([.int (-100002)] : List Value)) (w1 := (layM g h)) (by rfl) ?_
        exact bv_iret C rfl hr rfl ⟨by (simp only [ug_same, nI_clamp (show q1 < 2 ^ 31 by omega), c1, c3, c5, and_self, eq_self, or_true, true_or, not_true, not_false_iff, if_true, if_false, ↓reduceIte]), by (simp only [ug_same, nI_clamp (show q1 < 2 ^ 31 by omega), c1, c3, c5, and_self, eq_self, or_true, true_or, not_true, not_false_iff, if_true, if_false, ↓reduceIte])⟩
    · refine bv_fS1 C rfl (ct_in_f hE _ (x := x) (lo := (-3)) (hi := (3)) c3) ml_X9_65 st_X9_in ini_X9 cd_X9_in ok_X9_in rfl ⟨Nat.le_of_ble_eq_true rfl, Nat.le_of_ble_eq_true rfl⟩ ⟨Nat.zero_le _, Nat.zero_le _⟩ (rest := ([] : List Value)) rfl (Nat.le_of_ble_eq_true rfl) ?_
      refine bv_if_eq (j := 18) C rfl rfl (fun _ => ?_) (fun h => absurd h (by decide))
      refine bv_blk C frk_X9 csk_X9 1 19 rfl (L1 := ([(0, .ref 0), (1, .int (nI q1)), (2, .int x), (3, .int y)] : Lc)) (st1 := ([.int (-100002)] : List Value)) (w1 := (layM g h)) (by rfl) ?_
      exact bv_iret C rfl hr rfl ⟨by (simp only [ug_same, nI_clamp (show q1 < 2 ^ 31 by omega), c1, c3, and_self, eq_self, or_true, true_or, not_true, not_false_iff, if_true, if_false, ↓reduceIte]), by (simp only [ug_same, nI_clamp (show q1 < 2 ^ 31 by omega), c1, c3, and_self, eq_self, or_true, true_or, not_true, not_false_iff, if_true, if_false, ↓reduceIte])⟩
  · refine bv_fV1 C rfl (ct_isPath_f hE _ _ a c1) ml_X9_268 im_X9_isPath sel_X9_isPath ini_X9 cd_X9_isPath ok_X9_isPath rfl ⟨Nat.le_of_ble_eq_true rfl, Nat.le_of_ble_eq_true rfl⟩ ⟨Nat.zero_le _, Nat.zero_le _⟩ (by decide) rfl rfl rfl (rest := ([] : List Value)) rfl (Nat.le_of_ble_eq_true rfl) ?_
    refine bv_if_ne (j := 6) C rfl rfl (fun h => absurd h (by decide)) (fun _ => ?_)
    refine bv_blk C frk_X9 csk_X9 1 5 rfl (L1 := ([(0, .ref 0), (1, .int a), (2, .int x), (3, .int y)] : Lc)) (st1 := ([.int (-100001)] : List Value)) (w1 := (layM g h)) (by rfl) ?_
    exact bv_iret C rfl hr rfl ⟨by (simp only [ug_same, c1, and_self, eq_self, or_true, true_or, not_true, not_false_iff, if_true, if_false, ↓reduceIte]), by (simp only [ug_same, c1, and_self, eq_self, or_true, true_or, not_true, not_false_iff, if_true, if_false, ↓reduceIte])⟩
set_option maxRecDepth 100000 in
set_option maxHeartbeats 4000000 in
theorem ct_setBlock {l : Launch} {D : va_G} {cA : FieldType → ClassId} {z0 : Nat} {SK SV : Nat → Nat} {ad : Nat → Nat} (hE : aD (fun q => z0 ≤ q) ad 9) (g : Nat → Nat → Int32) (h : Int64) (n : Nat) (a x : Int32) (hs : statR g n) (hv : svK g) : bF l D cA z0 SK SV ad shM 9 yX9_setBlock cX9_setBlock 4 (some .int) 2 [.ref 0, .int a, .int x] (layM g h) (some (.int (if ((0) ≤ a ∧ a ≤ (g 1 12) - (1)) then (if ((0) ≤ x ∧ x ≤ (200)) then svG g 1 (55 + 6 * a.toNatClampNeg + 3) else (-100002)) else (-100001)))) (layM (if ((0) ≤ a ∧ a ≤ (g 1 12) - (1)) then (if ((0) ≤ x ∧ x ≤ (200)) then ug (svG g) 1 (55 + 6 * a.toNatClampNeg + 3) x else g) else g) h) := by
  refine bCT_intro (tb := tb_X9_setBlock) (own := RX9) hE pn_X9 rfl tk_X9_setBlock rfl (Nat.le_of_ble_eq_true rfl) ?_
  intro p e s0 m args below meth c C hr
  have hn8 := hs.2.1
  refine bv_blk C frk_X9 csk_X9 2 2 rfl (L1 := ([(0, .ref 0), (1, .int a), (2, .int x)] : Lc)) (st1 := ([.int a, .ref 0] : List Value)) (w1 := (layM g h)) (by rfl) ?_
  by_cases c1 : ((0) ≤ a ∧ a ≤ (g 1 12) - (1))
  · obtain ⟨q1, hq1, rfl⟩ := path_of hs.1 (by omega) c1
    refine bv_fV1 C rfl (ct_isPath_t hE _ _ (nI q1) c1) ml_X9_268 im_X9_isPath sel_X9_isPath ini_X9 cd_X9_isPath ok_X9_isPath rfl ⟨Nat.le_of_ble_eq_true rfl, Nat.le_of_ble_eq_true rfl⟩ ⟨Nat.zero_le _, Nat.zero_le _⟩ (by decide) rfl rfl rfl (rest := ([] : List Value)) rfl (Nat.le_of_ble_eq_true rfl) ?_
    refine bv_if_ne (j := 6) C rfl rfl (fun _ => ?_) (fun h => absurd h (by decide))
    refine bv_blk C frk_X9 csk_X9 4 10 rfl (L1 := ([(0, .ref 0), (1, .int (nI q1)), (2, .int x)] : Lc)) (st1 := ([.long (200), .long (0), .long (Int32.toInt64 x)] : List Value)) (w1 := (layM g h)) (by rfl) ?_
    by_cases c3 : ((0) ≤ x ∧ x ≤ (200))
    · refine bv_fS1 C rfl (ct_in_t hE _ (x := x) (lo := (0)) (hi := (200)) c3) ml_X9_65 st_X9_in ini_X9 cd_X9_in ok_X9_in rfl ⟨Nat.le_of_ble_eq_true rfl, Nat.le_of_ble_eq_true rfl⟩ ⟨Nat.zero_le _, Nat.zero_le _⟩ (rest := ([] : List Value)) rfl (Nat.le_of_ble_eq_true rfl) ?_
      refine bv_if_ne (j := 14) C rfl rfl (fun _ => ?_) (fun h => absurd h (by decide))
      refine bv_blk C frk_X9 csk_X9 1 15 rfl (L1 := ([(0, .ref 0), (1, .int (nI q1)), (2, .int x)] : Lc)) (st1 := ([.ref 0] : List Value)) (w1 := (layM g h)) (by rfl) ?_
      refine bv_fV0 C rfl (ct_savesA hE g _ hv) ml_X9_134 im_X9_saves sel_X9_saves ini_X9 cd_X9_saves ok_X9_saves rfl ⟨Nat.le_of_ble_eq_true rfl, Nat.le_of_ble_eq_true rfl⟩ ⟨Nat.zero_le _, Nat.zero_le _⟩ (by decide) rfl rfl rfl (rest := ([] : List Value)) rfl (Nat.le_of_ble_eq_true rfl) ?_
      obtain ⟨v1, ev1⟩ : ∃ x : Nat → Nat → Int32, x = (svG g) := ⟨_, rfl⟩
      have kp_v1 : kept g v1 := by rw [ev1]; exact (kp_sv (kp_rf _))
      refine bv_weq (show (layM (svG g) h) = (layM v1 h) from by rw [ev1]) ?_
      refine bv_blk C frk_X9 csk_X9 3 19 rfl (L1 := ([(0, .ref 0), (1, .int (nI q1)), (2, .int x)] : Lc)) (st1 := ([.int (3), .int (nI q1), .ref 0] : List Value)) (w1 := (layM v1 h)) (by rfl) ?_
      refine bv_fV1 C rfl (ct_ofPath hE _ _ q1 3 (by omega) (by omega)) ml_X9_86 im_X9_ofPath sel_X9_ofPath ini_X9 cd_X9_ofPath ok_X9_ofPath rfl ⟨Nat.le_of_ble_eq_true rfl, Nat.le_of_ble_eq_true rfl⟩ ⟨Nat.zero_le _, Nat.zero_le _⟩ (by decide) rfl rfl rfl (rest := ([] : List Value)) rfl (Nat.le_of_ble_eq_true rfl) ?_
      refine bv_blk C frk_X9 csk_X9 5 25 rfl (L1 := ([(3, .int (v1 1 (55 + 6 * q1 + 3))), (0, .ref 0), (1, .int (nI q1)), (2, .int x)] : Lc)) (st1 := ([.int x, .int (3), .int (nI q1), .ref 0] : List Value)) (w1 := (layM v1 h)) (by rfl) ?_
      refine bv_fV0 C rfl (ct_setsPath hE _ _ q1 3 x (by omega) (by omega)) ml_X9_173 im_X9_setsPath sel_X9_setsPath ini_X9 cd_X9_setsPath ok_X9_setsPath rfl ⟨Nat.le_of_ble_eq_true rfl, Nat.le_of_ble_eq_true rfl⟩ ⟨Nat.zero_le _, Nat.zero_le _⟩ (by decide) rfl rfl rfl (rest := ([] : List Value)) rfl (Nat.le_of_ble_eq_true rfl) ?_
      refine bv_blk C frk_X9 csk_X9 1 27 rfl (L1 := ([(3, .int (v1 1 (55 + 6 * q1 + 3))), (0, .ref 0), (1, .int (nI q1)), (2, .int x)] : Lc)) (st1 := ([.int (v1 1 (55 + 6 * q1 + 3))] : List Value)) (w1 := (layM (ug v1 1 (55 + 6 * q1 + 3) x) h)) (by rfl) ?_
      exact bv_iret C rfl hr rfl ⟨by (subst ev1; simp only [ug_same, nI_clamp (show q1 < 2 ^ 31 by omega), c1, c3, and_self, eq_self, or_true, true_or, not_true, not_false_iff, if_true, if_false, ↓reduceIte]), by (subst ev1; simp only [ug_same, nI_clamp (show q1 < 2 ^ 31 by omega), c1, c3, and_self, eq_self, or_true, true_or, not_true, not_false_iff, if_true, if_false, ↓reduceIte])⟩
    · refine bv_fS1 C rfl (ct_in_f hE _ (x := x) (lo := (0)) (hi := (200)) c3) ml_X9_65 st_X9_in ini_X9 cd_X9_in ok_X9_in rfl ⟨Nat.le_of_ble_eq_true rfl, Nat.le_of_ble_eq_true rfl⟩ ⟨Nat.zero_le _, Nat.zero_le _⟩ (rest := ([] : List Value)) rfl (Nat.le_of_ble_eq_true rfl) ?_
      refine bv_if_ne (j := 14) C rfl rfl (fun h => absurd h (by decide)) (fun _ => ?_)
      refine bv_blk C frk_X9 csk_X9 1 13 rfl (L1 := ([(0, .ref 0), (1, .int (nI q1)), (2, .int x)] : Lc)) (st1 := ([.int (-100002)] : List Value)) (w1 := (layM g h)) (by rfl) ?_
      exact bv_iret C rfl hr rfl ⟨by (simp only [ug_same, nI_clamp (show q1 < 2 ^ 31 by omega), c1, c3, and_self, eq_self, or_true, true_or, not_true, not_false_iff, if_true, if_false, ↓reduceIte]), by (simp only [ug_same, nI_clamp (show q1 < 2 ^ 31 by omega), c1, c3, and_self, eq_self, or_true, true_or, not_true, not_false_iff, if_true, if_false, ↓reduceIte])⟩
  · refine bv_fV1 C rfl (ct_isPath_f hE _ _ a c1) ml_X9_268 im_X9_isPath sel_X9_isPath ini_X9 cd_X9_isPath ok_X9_isPath rfl ⟨Nat.le_of_ble_eq_true rfl, Nat.le_of_ble_eq_true rfl⟩ ⟨Nat.zero_le _, Nat.zero_le _⟩ (by decide) rfl rfl rfl (rest := ([] : List Value)) rfl (Nat.le_of_ble_eq_true rfl) ?_
    refine bv_if_ne (j := 6) C rfl rfl (fun h => absurd h (by decide)) (fun _ => ?_)
    refine bv_blk C frk_X9 csk_X9 1 5 rfl (L1 := ([(0, .ref 0), (1, .int a), (2, .int x)] : Lc)) (st1 := ([.int (-100001)] : List Value)) (w1 := (layM g h)) (by rfl) ?_
    exact bv_iret C rfl hr rfl ⟨by (simp only [ug_same, c1, and_self, eq_self, or_true, true_or, not_true, not_false_iff, if_true, if_false, ↓reduceIte]), by (simp only [ug_same, c1, and_self, eq_self, or_true, true_or, not_true, not_false_iff, if_true, if_false, ↓reduceIte])⟩
theorem lt_of_ne {x : Int32} {n m : Nat} (h : x = nI n) (h2 : n ≤ m) (hm : m < 2 ^ 31) (c : ¬ x = nI m) : n < m := by
  rcases Nat.lt_or_ge n m with q | q
  · exact q
  · exact absurd (by rw [h, show n = m by omega]) c
set_option maxRecDepth 100000 in
set_option maxHeartbeats 4000000 in
theorem ct_addPath {l : Launch} {D : va_G} {cA : FieldType → ClassId} {z0 : Nat} {SK SV : Nat → Nat} {ad : Nat → Nat} (hE : aD (fun q => z0 ≤ q) ad 9) (g : Nat → Nat → Int32) (h : Int64) (n : Nat) (x y z : Int32) (hs : statR g n) (hv : svK g) : bF l D cA z0 SK SV ad shM 9 yX9_addPath cX9_addPath 6 (some .int) 2 [.ref 0, .int x, .int y, .int z] (layM g h) (some (.int (if ((0) ≤ x ∧ x ≤ (63)) then (if ((0) ≤ y ∧ y ≤ (63)) then (if ((0) ≤ z ∧ z ≤ (300)) then (if g 1 12 = 8 then (-100004) else svG g 1 12) else (-100002)) else (-100002)) else (-100002)))) (layM (if ((0) ≤ x ∧ x ≤ (63)) then (if ((0) ≤ y ∧ y ≤ (63)) then (if ((0) ≤ z ∧ z ≤ (300)) then (if g 1 12 = 8 then g else ug (ug (ug (ug (ug (ug (ug (ug (ug (ug (svG g) 1 (55 + 6 * n + 0) 0) 1 (55 + 6 * n + 1) 0) 1 (55 + 6 * n + 2) 0) 1 (55 + 6 * n + 3) 0) 1 (55 + 6 * n + 4) 0) 1 (55 + 6 * n + 5) 0) 1 (55 + 6 * n + 0) x) 1 (55 + 6 * n + 1) y) 1 (55 + 6 * n + 2) z) 1 12 ((ug (ug (ug (ug (ug (ug (ug (ug (ug (svG g) 1 (55 + 6 * n + 0) 0) 1 (55 + 6 * n + 1) 0) 1 (55 + 6 * n + 2) 0) 1 (55 + 6 * n + 3) 0) 1 (55 + 6 * n + 4) 0) 1 (55 + 6 * n + 5) 0) 1 (55 + 6 * n + 0) x) 1 (55 + 6 * n + 1) y) 1 (55 + 6 * n + 2) z) 1 12 + 1)) else g) else g) else g) h) := by
  refine bCT_intro (tb := tb_X9_addPath) (own := RX9) hE pn_X9 rfl tk_X9_addPath rfl (Nat.le_of_ble_eq_true rfl) ?_
  intro p e s0 m args below meth c C hr
  have hn8 := hs.2.1
  refine bv_blk C frk_X9 csk_X9 4 4 rfl (L1 := ([(0, .ref 0), (1, .int x), (2, .int y), (3, .int z)] : Lc)) (st1 := ([.long (63), .long (0), .long (Int32.toInt64 x)] : List Value)) (w1 := (layM g h)) (by rfl) ?_
  by_cases c1 : ((0) ≤ x ∧ x ≤ (63))
  · refine bv_fS1 C rfl (ct_in_t hE _ (x := x) (lo := (0)) (hi := (63)) c1) ml_X9_65 st_X9_in ini_X9 cd_X9_in ok_X9_in rfl ⟨Nat.le_of_ble_eq_true rfl, Nat.le_of_ble_eq_true rfl⟩ ⟨Nat.zero_le _, Nat.zero_le _⟩ (rest := ([] : List Value)) rfl (Nat.le_of_ble_eq_true rfl) ?_
    refine bv_if_eq (j := 18) C rfl rfl (fun h => absurd h (by decide)) (fun _ => ?_)
    refine bv_blk C frk_X9 csk_X9 4 10 rfl (L1 := ([(0, .ref 0), (1, .int x), (2, .int y), (3, .int z)] : Lc)) (st1 := ([.long (63), .long (0), .long (Int32.toInt64 y)] : List Value)) (w1 := (layM g h)) (by rfl) ?_
    by_cases c3 : ((0) ≤ y ∧ y ≤ (63))
    · refine bv_fS1 C rfl (ct_in_t hE _ (x := y) (lo := (0)) (hi := (63)) c3) ml_X9_65 st_X9_in ini_X9 cd_X9_in ok_X9_in rfl ⟨Nat.le_of_ble_eq_true rfl, Nat.le_of_ble_eq_true rfl⟩ ⟨Nat.zero_le _, Nat.zero_le _⟩ (rest := ([] : List Value)) rfl (Nat.le_of_ble_eq_true rfl) ?_
      refine bv_if_eq (j := 18) C rfl rfl (fun h => absurd h (by decide)) (fun _ => ?_)
      refine bv_blk C frk_X9 csk_X9 4 16 rfl (L1 := ([(0, .ref 0), (1, .int x), (2, .int y), (3, .int z)] : Lc)) (st1 := ([.long (300), .long (0), .long (Int32.toInt64 z)] : List Value)) (w1 := (layM g h)) (by rfl) ?_
      by_cases c5 : ((0) ≤ z ∧ z ≤ (300))
      · refine bv_fS1 C rfl (ct_in_t hE _ (x := z) (lo := (0)) (hi := (300)) c5) ml_X9_65 st_X9_in ini_X9 cd_X9_in ok_X9_in rfl ⟨Nat.le_of_ble_eq_true rfl, Nat.le_of_ble_eq_true rfl⟩ ⟨Nat.zero_le _, Nat.zero_le _⟩ (rest := ([] : List Value)) rfl (Nat.le_of_ble_eq_true rfl) ?_
        refine bv_if_ne (j := 20) C rfl rfl (fun _ => ?_) (fun h => absurd h (by decide))
        refine bv_blk C frk_X9 csk_X9 3 23 rfl (L1 := ([(0, .ref 0), (1, .int x), (2, .int y), (3, .int z)] : Lc)) (st1 := ([.int (12), .ref 1] : List Value)) (w1 := (layM g h)) (by rfl) ?_
        refine bv_iald C rfl rfl (by decide) (j := 12) (by exact rfl) (by first | decide | omega) (by decide) (y := (g 1 12)) (by rfl) ?_
        refine bv_blk C frk_X9 csk_X9 1 25 rfl (L1 := ([(0, .ref 0), (1, .int x), (2, .int y), (3, .int z)] : Lc)) (st1 := ([.int (8), .int (g 1 12)] : List Value)) (w1 := (layM g h)) (by rfl) ?_
        refine bv_icmp_ne (j := 28) C rfl rfl (fun c7 => ?_) (fun c7 => ?_)
        · have hn7 : n < 8 := lt_of_ne (m := 8) hs.1 hn8 (by omega) c7
          refine bv_blk C frk_X9 csk_X9 1 29 rfl (L1 := ([(0, .ref 0), (1, .int x), (2, .int y), (3, .int z)] : Lc)) (st1 := ([.ref 0] : List Value)) (w1 := (layM g h)) (by rfl) ?_
          refine bv_fV0 C rfl (ct_savesA hE g _ hv) ml_X9_134 im_X9_saves sel_X9_saves ini_X9 cd_X9_saves ok_X9_saves rfl ⟨Nat.le_of_ble_eq_true rfl, Nat.le_of_ble_eq_true rfl⟩ ⟨Nat.zero_le _, Nat.zero_le _⟩ (by decide) rfl rfl rfl (rest := ([] : List Value)) rfl (Nat.le_of_ble_eq_true rfl) ?_
          obtain ⟨v1, ev1⟩ : ∃ x : Nat → Nat → Int32, x = (svG g) := ⟨_, rfl⟩
          have kp_v1 : kept g v1 := by rw [ev1]; exact (kp_sv (kp_rf _))
          refine bv_weq (show (layM (svG g) h) = (layM v1 h) from by rw [ev1]) ?_
          refine bv_blk C frk_X9 csk_X9 3 33 rfl (L1 := ([(0, .ref 0), (1, .int x), (2, .int y), (3, .int z)] : Lc)) (st1 := ([.int (12), .ref 1] : List Value)) (w1 := (layM v1 h)) (by rfl) ?_
          refine bv_iald C rfl rfl (by decide) (j := 12) (by exact rfl) (by first | decide | omega) (by decide) (y := (v1 1 12)) (by rfl) ?_
          refine bv_blk C frk_X9 csk_X9 5 39 rfl (L1 := ([(5, .int (0)), (4, .int (v1 1 12)), (0, .ref 0), (1, .int x), (2, .int y), (3, .int z)] : Lc)) (st1 := ([.int (6), .int (0)] : List Value)) (w1 := (layM v1 h)) (by rfl) ?_
          refine bv_icmp_ge (j := 47) C rfl rfl (fun h => absurd h (by decide)) (fun _ => ?_)
          refine bv_blk C frk_X9 csk_X9 4 44 rfl (L1 := ([(5, .int (0)), (4, .int (v1 1 12)), (0, .ref 0), (1, .int x), (2, .int y), (3, .int z)] : Lc)) (st1 := ([.int (0), .int (0), .int (v1 1 12), .ref 0] : List Value)) (w1 := (layM v1 h)) (by rfl) ?_
          refine bv_fV0 C rfl (ct_setsPath hE _ _ n 0 (0) (by omega) (by omega)) ml_X9_173 im_X9_setsPath sel_X9_setsPath ini_X9 cd_X9_setsPath ok_X9_setsPath rfl ⟨Nat.le_of_ble_eq_true rfl, Nat.le_of_ble_eq_true rfl⟩ ⟨Nat.zero_le _, Nat.zero_le _⟩ (by decide) rfl rfl rfl (rest := ([] : List Value)) (by first | (rw [show (v1 1 12) = nI n from ((kp_v1 12 (by unfold stK; omega)).trans hs.1)]; done) | (rw [show (v1 1 12) = nI n from ((kp_v1 12 (by unfold stK; omega)).trans hs.1)]; rfl)) (Nat.le_of_ble_eq_true rfl) ?_
          refine bv_blk C frk_X9 csk_X9 1 46 rfl (L1 := ([(5, .int ((0) + Int32.ofInt 1)), (4, .int (v1 1 12)), (0, .ref 0), (1, .int x), (2, .int y), (3, .int z)] : Lc)) (st1 := ([] : List Value)) (w1 := (layM (ug v1 1 (55 + 6 * n + 0) (0)) h)) (by rfl) ?_
          refine bv_goto (j := 37) C rfl rfl ?_
          refine bv_blk C frk_X9 csk_X9 2 39 rfl (L1 := ([(5, .int ((0) + Int32.ofInt 1)), (4, .int (v1 1 12)), (0, .ref 0), (1, .int x), (2, .int y), (3, .int z)] : Lc)) (st1 := ([.int (6), .int ((0) + Int32.ofInt 1)] : List Value)) (w1 := (layM (ug v1 1 (55 + 6 * n + 0) (0)) h)) (by rfl) ?_
          refine bv_icmp_ge (j := 47) C rfl rfl (fun h => absurd h (by decide)) (fun _ => ?_)
          refine bv_blk C frk_X9 csk_X9 4 44 rfl (L1 := ([(5, .int ((0) + Int32.ofInt 1)), (4, .int (v1 1 12)), (0, .ref 0), (1, .int x), (2, .int y), (3, .int z)] : Lc)) (st1 := ([.int (0), .int ((0) + Int32.ofInt 1), .int (v1 1 12), .ref 0] : List Value)) (w1 := (layM (ug v1 1 (55 + 6 * n + 0) (0)) h)) (by rfl) ?_
          refine bv_fV0 C rfl (ct_setsPath hE _ _ n 1 (0) (by omega) (by omega)) ml_X9_173 im_X9_setsPath sel_X9_setsPath ini_X9 cd_X9_setsPath ok_X9_setsPath rfl ⟨Nat.le_of_ble_eq_true rfl, Nat.le_of_ble_eq_true rfl⟩ ⟨Nat.zero_le _, Nat.zero_le _⟩ (by decide) rfl rfl rfl (rest := ([] : List Value)) (by first | (rw [show (v1 1 12) = nI n from ((kp_v1 12 (by unfold stK; omega)).trans hs.1)]; done) | (rw [show (v1 1 12) = nI n from ((kp_v1 12 (by unfold stK; omega)).trans hs.1)]; rfl)) (Nat.le_of_ble_eq_true rfl) ?_
          refine bv_blk C frk_X9 csk_X9 1 46 rfl (L1 := ([(5, .int (((0) + Int32.ofInt 1) + Int32.ofInt 1)), (4, .int (v1 1 12)), (0, .ref 0), (1, .int x), (2, .int y), (3, .int z)] : Lc)) (st1 := ([] : List Value)) (w1 := (layM (ug (ug v1 1 (55 + 6 * n + 0) (0)) 1 (55 + 6 * n + 1) (0)) h)) (by rfl) ?_
          refine bv_goto (j := 37) C rfl rfl ?_
          refine bv_blk C frk_X9 csk_X9 2 39 rfl (L1 := ([(5, .int (((0) + Int32.ofInt 1) + Int32.ofInt 1)), (4, .int (v1 1 12)), (0, .ref 0), (1, .int x), (2, .int y), (3, .int z)] : Lc)) (st1 := ([.int (6), .int (((0) + Int32.ofInt 1) + Int32.ofInt 1)] : List Value)) (w1 := (layM (ug (ug v1 1 (55 + 6 * n + 0) (0)) 1 (55 + 6 * n + 1) (0)) h)) (by rfl) ?_
          refine bv_icmp_ge (j := 47) C rfl rfl (fun h => absurd h (by decide)) (fun _ => ?_)
          refine bv_blk C frk_X9 csk_X9 4 44 rfl (L1 := ([(5, .int (((0) + Int32.ofInt 1) + Int32.ofInt 1)), (4, .int (v1 1 12)), (0, .ref 0), (1, .int x), (2, .int y), (3, .int z)] : Lc)) (st1 := ([.int (0), .int (((0) + Int32.ofInt 1) + Int32.ofInt 1), .int (v1 1 12), .ref 0] : List Value)) (w1 := (layM (ug (ug v1 1 (55 + 6 * n + 0) (0)) 1 (55 + 6 * n + 1) (0)) h)) (by rfl) ?_
          refine bv_fV0 C rfl (ct_setsPath hE _ _ n 2 (0) (by omega) (by omega)) ml_X9_173 im_X9_setsPath sel_X9_setsPath ini_X9 cd_X9_setsPath ok_X9_setsPath rfl ⟨Nat.le_of_ble_eq_true rfl, Nat.le_of_ble_eq_true rfl⟩ ⟨Nat.zero_le _, Nat.zero_le _⟩ (by decide) rfl rfl rfl (rest := ([] : List Value)) (by first | (rw [show (v1 1 12) = nI n from ((kp_v1 12 (by unfold stK; omega)).trans hs.1)]; done) | (rw [show (v1 1 12) = nI n from ((kp_v1 12 (by unfold stK; omega)).trans hs.1)]; rfl)) (Nat.le_of_ble_eq_true rfl) ?_
          refine bv_blk C frk_X9 csk_X9 1 46 rfl (L1 := ([(5, .int ((((0) + Int32.ofInt 1) + Int32.ofInt 1) + Int32.ofInt 1)), (4, .int (v1 1 12)), (0, .ref 0), (1, .int x), (2, .int y), (3, .int z)] : Lc)) (st1 := ([] : List Value)) (w1 := (layM (ug (ug (ug v1 1 (55 + 6 * n + 0) (0)) 1 (55 + 6 * n + 1) (0)) 1 (55 + 6 * n + 2) (0)) h)) (by rfl) ?_
          refine bv_goto (j := 37) C rfl rfl ?_
          refine bv_blk C frk_X9 csk_X9 2 39 rfl (L1 := ([(5, .int ((((0) + Int32.ofInt 1) + Int32.ofInt 1) + Int32.ofInt 1)), (4, .int (v1 1 12)), (0, .ref 0), (1, .int x), (2, .int y), (3, .int z)] : Lc)) (st1 := ([.int (6), .int ((((0) + Int32.ofInt 1) + Int32.ofInt 1) + Int32.ofInt 1)] : List Value)) (w1 := (layM (ug (ug (ug v1 1 (55 + 6 * n + 0) (0)) 1 (55 + 6 * n + 1) (0)) 1 (55 + 6 * n + 2) (0)) h)) (by rfl) ?_
          refine bv_icmp_ge (j := 47) C rfl rfl (fun h => absurd h (by decide)) (fun _ => ?_)
          refine bv_blk C frk_X9 csk_X9 4 44 rfl (L1 := ([(5, .int ((((0) + Int32.ofInt 1) + Int32.ofInt 1) + Int32.ofInt 1)), (4, .int (v1 1 12)), (0, .ref 0), (1, .int x), (2, .int y), (3, .int z)] : Lc)) (st1 := ([.int (0), .int ((((0) + Int32.ofInt 1) + Int32.ofInt 1) + Int32.ofInt 1), .int (v1 1 12), .ref 0] : List Value)) (w1 := (layM (ug (ug (ug v1 1 (55 + 6 * n + 0) (0)) 1 (55 + 6 * n + 1) (0)) 1 (55 + 6 * n + 2) (0)) h)) (by rfl) ?_
          refine bv_fV0 C rfl (ct_setsPath hE _ _ n 3 (0) (by omega) (by omega)) ml_X9_173 im_X9_setsPath sel_X9_setsPath ini_X9 cd_X9_setsPath ok_X9_setsPath rfl ⟨Nat.le_of_ble_eq_true rfl, Nat.le_of_ble_eq_true rfl⟩ ⟨Nat.zero_le _, Nat.zero_le _⟩ (by decide) rfl rfl rfl (rest := ([] : List Value)) (by first | (rw [show (v1 1 12) = nI n from ((kp_v1 12 (by unfold stK; omega)).trans hs.1)]; done) | (rw [show (v1 1 12) = nI n from ((kp_v1 12 (by unfold stK; omega)).trans hs.1)]; rfl)) (Nat.le_of_ble_eq_true rfl) ?_
          refine bv_blk C frk_X9 csk_X9 1 46 rfl (L1 := ([(5, .int (((((0) + Int32.ofInt 1) + Int32.ofInt 1) + Int32.ofInt 1) + Int32.ofInt 1)), (4, .int (v1 1 12)), (0, .ref 0), (1, .int x), (2, .int y), (3, .int z)] : Lc)) (st1 := ([] : List Value)) (w1 := (layM (ug (ug (ug (ug v1 1 (55 + 6 * n + 0) (0)) 1 (55 + 6 * n + 1) (0)) 1 (55 + 6 * n + 2) (0)) 1 (55 + 6 * n + 3) (0)) h)) (by rfl) ?_
          refine bv_goto (j := 37) C rfl rfl ?_
          refine bv_blk C frk_X9 csk_X9 2 39 rfl (L1 := ([(5, .int (((((0) + Int32.ofInt 1) + Int32.ofInt 1) + Int32.ofInt 1) + Int32.ofInt 1)), (4, .int (v1 1 12)), (0, .ref 0), (1, .int x), (2, .int y), (3, .int z)] : Lc)) (st1 := ([.int (6), .int (((((0) + Int32.ofInt 1) + Int32.ofInt 1) + Int32.ofInt 1) + Int32.ofInt 1)] : List Value)) (w1 := (layM (ug (ug (ug (ug v1 1 (55 + 6 * n + 0) (0)) 1 (55 + 6 * n + 1) (0)) 1 (55 + 6 * n + 2) (0)) 1 (55 + 6 * n + 3) (0)) h)) (by rfl) ?_
          refine bv_icmp_ge (j := 47) C rfl rfl (fun h => absurd h (by decide)) (fun _ => ?_)
          refine bv_blk C frk_X9 csk_X9 4 44 rfl (L1 := ([(5, .int (((((0) + Int32.ofInt 1) + Int32.ofInt 1) + Int32.ofInt 1) + Int32.ofInt 1)), (4, .int (v1 1 12)), (0, .ref 0), (1, .int x), (2, .int y), (3, .int z)] : Lc)) (st1 := ([.int (0), .int (((((0) + Int32.ofInt 1) + Int32.ofInt 1) + Int32.ofInt 1) + Int32.ofInt 1), .int (v1 1 12), .ref 0] : List Value)) (w1 := (layM (ug (ug (ug (ug v1 1 (55 + 6 * n + 0) (0)) 1 (55 + 6 * n + 1) (0)) 1 (55 + 6 * n + 2) (0)) 1 (55 + 6 * n + 3) (0)) h)) (by rfl) ?_
          refine bv_fV0 C rfl (ct_setsPath hE _ _ n 4 (0) (by omega) (by omega)) ml_X9_173 im_X9_setsPath sel_X9_setsPath ini_X9 cd_X9_setsPath ok_X9_setsPath rfl ⟨Nat.le_of_ble_eq_true rfl, Nat.le_of_ble_eq_true rfl⟩ ⟨Nat.zero_le _, Nat.zero_le _⟩ (by decide) rfl rfl rfl (rest := ([] : List Value)) (by first | (rw [show (v1 1 12) = nI n from ((kp_v1 12 (by unfold stK; omega)).trans hs.1)]; done) | (rw [show (v1 1 12) = nI n from ((kp_v1 12 (by unfold stK; omega)).trans hs.1)]; rfl)) (Nat.le_of_ble_eq_true rfl) ?_
          refine bv_blk C frk_X9 csk_X9 1 46 rfl (L1 := ([(5, .int ((((((0) + Int32.ofInt 1) + Int32.ofInt 1) + Int32.ofInt 1) + Int32.ofInt 1) + Int32.ofInt 1)), (4, .int (v1 1 12)), (0, .ref 0), (1, .int x), (2, .int y), (3, .int z)] : Lc)) (st1 := ([] : List Value)) (w1 := (layM (ug (ug (ug (ug (ug v1 1 (55 + 6 * n + 0) (0)) 1 (55 + 6 * n + 1) (0)) 1 (55 + 6 * n + 2) (0)) 1 (55 + 6 * n + 3) (0)) 1 (55 + 6 * n + 4) (0)) h)) (by rfl) ?_
          refine bv_goto (j := 37) C rfl rfl ?_
          refine bv_blk C frk_X9 csk_X9 2 39 rfl (L1 := ([(5, .int ((((((0) + Int32.ofInt 1) + Int32.ofInt 1) + Int32.ofInt 1) + Int32.ofInt 1) + Int32.ofInt 1)), (4, .int (v1 1 12)), (0, .ref 0), (1, .int x), (2, .int y), (3, .int z)] : Lc)) (st1 := ([.int (6), .int ((((((0) + Int32.ofInt 1) + Int32.ofInt 1) + Int32.ofInt 1) + Int32.ofInt 1) + Int32.ofInt 1)] : List Value)) (w1 := (layM (ug (ug (ug (ug (ug v1 1 (55 + 6 * n + 0) (0)) 1 (55 + 6 * n + 1) (0)) 1 (55 + 6 * n + 2) (0)) 1 (55 + 6 * n + 3) (0)) 1 (55 + 6 * n + 4) (0)) h)) (by rfl) ?_
          refine bv_icmp_ge (j := 47) C rfl rfl (fun h => absurd h (by decide)) (fun _ => ?_)
          refine bv_blk C frk_X9 csk_X9 4 44 rfl (L1 := ([(5, .int ((((((0) + Int32.ofInt 1) + Int32.ofInt 1) + Int32.ofInt 1) + Int32.ofInt 1) + Int32.ofInt 1)), (4, .int (v1 1 12)), (0, .ref 0), (1, .int x), (2, .int y), (3, .int z)] : Lc)) (st1 := ([.int (0), .int ((((((0) + Int32.ofInt 1) + Int32.ofInt 1) + Int32.ofInt 1) + Int32.ofInt 1) + Int32.ofInt 1), .int (v1 1 12), .ref 0] : List Value)) (w1 := (layM (ug (ug (ug (ug (ug v1 1 (55 + 6 * n + 0) (0)) 1 (55 + 6 * n + 1) (0)) 1 (55 + 6 * n + 2) (0)) 1 (55 + 6 * n + 3) (0)) 1 (55 + 6 * n + 4) (0)) h)) (by rfl) ?_
          refine bv_fV0 C rfl (ct_setsPath hE _ _ n 5 (0) (by omega) (by omega)) ml_X9_173 im_X9_setsPath sel_X9_setsPath ini_X9 cd_X9_setsPath ok_X9_setsPath rfl ⟨Nat.le_of_ble_eq_true rfl, Nat.le_of_ble_eq_true rfl⟩ ⟨Nat.zero_le _, Nat.zero_le _⟩ (by decide) rfl rfl rfl (rest := ([] : List Value)) (by first | (rw [show (v1 1 12) = nI n from ((kp_v1 12 (by unfold stK; omega)).trans hs.1)]; done) | (rw [show (v1 1 12) = nI n from ((kp_v1 12 (by unfold stK; omega)).trans hs.1)]; rfl)) (Nat.le_of_ble_eq_true rfl) ?_
          refine bv_blk C frk_X9 csk_X9 1 46 rfl (L1 := ([(5, .int (((((((0) + Int32.ofInt 1) + Int32.ofInt 1) + Int32.ofInt 1) + Int32.ofInt 1) + Int32.ofInt 1) + Int32.ofInt 1)), (4, .int (v1 1 12)), (0, .ref 0), (1, .int x), (2, .int y), (3, .int z)] : Lc)) (st1 := ([] : List Value)) (w1 := (layM (ug (ug (ug (ug (ug (ug v1 1 (55 + 6 * n + 0) (0)) 1 (55 + 6 * n + 1) (0)) 1 (55 + 6 * n + 2) (0)) 1 (55 + 6 * n + 3) (0)) 1 (55 + 6 * n + 4) (0)) 1 (55 + 6 * n + 5) (0)) h)) (by rfl) ?_
          refine bv_goto (j := 37) C rfl rfl ?_
          refine bv_blk C frk_X9 csk_X9 2 39 rfl (L1 := ([(5, .int (((((((0) + Int32.ofInt 1) + Int32.ofInt 1) + Int32.ofInt 1) + Int32.ofInt 1) + Int32.ofInt 1) + Int32.ofInt 1)), (4, .int (v1 1 12)), (0, .ref 0), (1, .int x), (2, .int y), (3, .int z)] : Lc)) (st1 := ([.int (6), .int (((((((0) + Int32.ofInt 1) + Int32.ofInt 1) + Int32.ofInt 1) + Int32.ofInt 1) + Int32.ofInt 1) + Int32.ofInt 1)] : List Value)) (w1 := (layM (ug (ug (ug (ug (ug (ug v1 1 (55 + 6 * n + 0) (0)) 1 (55 + 6 * n + 1) (0)) 1 (55 + 6 * n + 2) (0)) 1 (55 + 6 * n + 3) (0)) 1 (55 + 6 * n + 4) (0)) 1 (55 + 6 * n + 5) (0)) h)) (by rfl) ?_
          refine bv_icmp_ge (j := 47) C rfl rfl (fun _ => ?_) (fun h => absurd h (by decide))
          refine bv_blk C frk_X9 csk_X9 4 51 rfl (L1 := ([(5, .int (((((((0) + Int32.ofInt 1) + Int32.ofInt 1) + Int32.ofInt 1) + Int32.ofInt 1) + Int32.ofInt 1) + Int32.ofInt 1)), (4, .int (v1 1 12)), (0, .ref 0), (1, .int x), (2, .int y), (3, .int z)] : Lc)) (st1 := ([.int x, .int (0), .int (v1 1 12), .ref 0] : List Value)) (w1 := (layM (ug (ug (ug (ug (ug (ug v1 1 (55 + 6 * n + 0) (0)) 1 (55 + 6 * n + 1) (0)) 1 (55 + 6 * n + 2) (0)) 1 (55 + 6 * n + 3) (0)) 1 (55 + 6 * n + 4) (0)) 1 (55 + 6 * n + 5) (0)) h)) (by rfl) ?_
          refine bv_fV0 C rfl (ct_setsPath hE _ _ n 0 x (by omega) (by omega)) ml_X9_173 im_X9_setsPath sel_X9_setsPath ini_X9 cd_X9_setsPath ok_X9_setsPath rfl ⟨Nat.le_of_ble_eq_true rfl, Nat.le_of_ble_eq_true rfl⟩ ⟨Nat.zero_le _, Nat.zero_le _⟩ (by decide) rfl rfl rfl (rest := ([] : List Value)) (by first | (rw [show (v1 1 12) = nI n from ((kp_v1 12 (by unfold stK; omega)).trans hs.1)]; done) | (rw [show (v1 1 12) = nI n from ((kp_v1 12 (by unfold stK; omega)).trans hs.1)]; rfl)) (Nat.le_of_ble_eq_true rfl) ?_
          refine bv_blk C frk_X9 csk_X9 4 56 rfl (L1 := ([(5, .int (((((((0) + Int32.ofInt 1) + Int32.ofInt 1) + Int32.ofInt 1) + Int32.ofInt 1) + Int32.ofInt 1) + Int32.ofInt 1)), (4, .int (v1 1 12)), (0, .ref 0), (1, .int x), (2, .int y), (3, .int z)] : Lc)) (st1 := ([.int y, .int (1), .int (v1 1 12), .ref 0] : List Value)) (w1 := (layM (ug (ug (ug (ug (ug (ug (ug v1 1 (55 + 6 * n + 0) (0)) 1 (55 + 6 * n + 1) (0)) 1 (55 + 6 * n + 2) (0)) 1 (55 + 6 * n + 3) (0)) 1 (55 + 6 * n + 4) (0)) 1 (55 + 6 * n + 5) (0)) 1 (55 + 6 * n + 0) x) h)) (by rfl) ?_
          refine bv_fV0 C rfl (ct_setsPath hE _ _ n 1 y (by omega) (by omega)) ml_X9_173 im_X9_setsPath sel_X9_setsPath ini_X9 cd_X9_setsPath ok_X9_setsPath rfl ⟨Nat.le_of_ble_eq_true rfl, Nat.le_of_ble_eq_true rfl⟩ ⟨Nat.zero_le _, Nat.zero_le _⟩ (by decide) rfl rfl rfl (rest := ([] : List Value)) (by first | (rw [show (v1 1 12) = nI n from ((kp_v1 12 (by unfold stK; omega)).trans hs.1)]; done) | (rw [show (v1 1 12) = nI n from ((kp_v1 12 (by unfold stK; omega)).trans hs.1)]; rfl)) (Nat.le_of_ble_eq_true rfl) ?_
          refine bv_blk C frk_X9 csk_X9 4 61 rfl (L1 := ([(5, .int (((((((0) + Int32.ofInt 1) + Int32.ofInt 1) + Int32.ofInt 1) + Int32.ofInt 1) + Int32.ofInt 1) + Int32.ofInt 1)), (4, .int (v1 1 12)), (0, .ref 0), (1, .int x), (2, .int y), (3, .int z)] : Lc)) (st1 := ([.int z, .int (2), .int (v1 1 12), .ref 0] : List Value)) (w1 := (layM (ug (ug (ug (ug (ug (ug (ug (ug v1 1 (55 + 6 * n + 0) (0)) 1 (55 + 6 * n + 1) (0)) 1 (55 + 6 * n + 2) (0)) 1 (55 + 6 * n + 3) (0)) 1 (55 + 6 * n + 4) (0)) 1 (55 + 6 * n + 5) (0)) 1 (55 + 6 * n + 0) x) 1 (55 + 6 * n + 1) y) h)) (by rfl) ?_
          refine bv_fV0 C rfl (ct_setsPath hE _ _ n 2 z (by omega) (by omega)) ml_X9_173 im_X9_setsPath sel_X9_setsPath ini_X9 cd_X9_setsPath ok_X9_setsPath rfl ⟨Nat.le_of_ble_eq_true rfl, Nat.le_of_ble_eq_true rfl⟩ ⟨Nat.zero_le _, Nat.zero_le _⟩ (by decide) rfl rfl rfl (rest := ([] : List Value)) (by first | (rw [show (v1 1 12) = nI n from ((kp_v1 12 (by unfold stK; omega)).trans hs.1)]; done) | (rw [show (v1 1 12) = nI n from ((kp_v1 12 (by unfold stK; omega)).trans hs.1)]; rfl)) (Nat.le_of_ble_eq_true rfl) ?_
          refine bv_blk C frk_X9 csk_X9 4 66 rfl (L1 := ([(5, .int (((((((0) + Int32.ofInt 1) + Int32.ofInt 1) + Int32.ofInt 1) + Int32.ofInt 1) + Int32.ofInt 1) + Int32.ofInt 1)), (4, .int (v1 1 12)), (0, .ref 0), (1, .int x), (2, .int y), (3, .int z)] : Lc)) (st1 := ([.int (12), .ref 1, .int (12), .ref 1] : List Value)) (w1 := (layM (ug (ug (ug (ug (ug (ug (ug (ug (ug v1 1 (55 + 6 * n + 0) (0)) 1 (55 + 6 * n + 1) (0)) 1 (55 + 6 * n + 2) (0)) 1 (55 + 6 * n + 3) (0)) 1 (55 + 6 * n + 4) (0)) 1 (55 + 6 * n + 5) (0)) 1 (55 + 6 * n + 0) x) 1 (55 + 6 * n + 1) y) 1 (55 + 6 * n + 2) z) h)) (by rfl) ?_
          refine bv_iald C rfl rfl (by decide) (j := 12) (by exact rfl) (by first | decide | omega) (by decide) (y := ((ug (ug (ug (ug (ug (ug (ug (ug (ug v1 1 (55 + 6 * n + 0) (0)) 1 (55 + 6 * n + 1) (0)) 1 (55 + 6 * n + 2) (0)) 1 (55 + 6 * n + 3) (0)) 1 (55 + 6 * n + 4) (0)) 1 (55 + 6 * n + 5) (0)) 1 (55 + 6 * n + 0) x) 1 (55 + 6 * n + 1) y) 1 (55 + 6 * n + 2) z) 1 12)) (by rfl) ?_
          refine bv_blk C frk_X9 csk_X9 2 69 rfl (L1 := ([(5, .int (((((((0) + Int32.ofInt 1) + Int32.ofInt 1) + Int32.ofInt 1) + Int32.ofInt 1) + Int32.ofInt 1) + Int32.ofInt 1)), (4, .int (v1 1 12)), (0, .ref 0), (1, .int x), (2, .int y), (3, .int z)] : Lc)) (st1 := ([.int (((ug (ug (ug (ug (ug (ug (ug (ug (ug v1 1 (55 + 6 * n + 0) (0)) 1 (55 + 6 * n + 1) (0)) 1 (55 + 6 * n + 2) (0)) 1 (55 + 6 * n + 3) (0)) 1 (55 + 6 * n + 4) (0)) 1 (55 + 6 * n + 5) (0)) 1 (55 + 6 * n + 0) x) 1 (55 + 6 * n + 1) y) 1 (55 + 6 * n + 2) z) 1 12) + (1)), .int (12), .ref 1] : List Value)) (w1 := (layM (ug (ug (ug (ug (ug (ug (ug (ug (ug v1 1 (55 + 6 * n + 0) (0)) 1 (55 + 6 * n + 1) (0)) 1 (55 + 6 * n + 2) (0)) 1 (55 + 6 * n + 3) (0)) 1 (55 + 6 * n + 4) (0)) 1 (55 + 6 * n + 5) (0)) 1 (55 + 6 * n + 0) x) 1 (55 + 6 * n + 1) y) 1 (55 + 6 * n + 2) z) h)) (by rfl) ?_
          refine bv_iast C rfl rfl (by decide) (j := 12) (by exact rfl) (by first | decide | omega) (by decide) ?_
          rw [lm_up rfl]
          refine bv_blk C frk_X9 csk_X9 1 71 rfl (L1 := ([(5, .int (((((((0) + Int32.ofInt 1) + Int32.ofInt 1) + Int32.ofInt 1) + Int32.ofInt 1) + Int32.ofInt 1) + Int32.ofInt 1)), (4, .int (v1 1 12)), (0, .ref 0), (1, .int x), (2, .int y), (3, .int z)] : Lc)) (st1 := ([.int (v1 1 12)] : List Value)) (w1 := (layM (ug (ug (ug (ug (ug (ug (ug (ug (ug (ug v1 1 (55 + 6 * n + 0) (0)) 1 (55 + 6 * n + 1) (0)) 1 (55 + 6 * n + 2) (0)) 1 (55 + 6 * n + 3) (0)) 1 (55 + 6 * n + 4) (0)) 1 (55 + 6 * n + 5) (0)) 1 (55 + 6 * n + 0) x) 1 (55 + 6 * n + 1) y) 1 (55 + 6 * n + 2) z) 1 12 (((ug (ug (ug (ug (ug (ug (ug (ug (ug v1 1 (55 + 6 * n + 0) (0)) 1 (55 + 6 * n + 1) (0)) 1 (55 + 6 * n + 2) (0)) 1 (55 + 6 * n + 3) (0)) 1 (55 + 6 * n + 4) (0)) 1 (55 + 6 * n + 5) (0)) 1 (55 + 6 * n + 0) x) 1 (55 + 6 * n + 1) y) 1 (55 + 6 * n + 2) z) 1 12) + (1))) h)) (by rfl) ?_
          exact bv_iret C rfl hr rfl ⟨by (subst ev1; simp only [ug_same, c1, c3, c5, c7, and_self, eq_self, or_true, true_or, not_true, not_false_iff, if_true, if_false, ↓reduceIte]), by (subst ev1; simp only [ug_same, c1, c3, c5, c7, and_self, eq_self, or_true, true_or, not_true, not_false_iff, if_true, if_false, ↓reduceIte])⟩
        · refine bv_blk C frk_X9 csk_X9 1 27 rfl (L1 := ([(0, .ref 0), (1, .int x), (2, .int y), (3, .int z)] : Lc)) (st1 := ([.int (-100004)] : List Value)) (w1 := (layM g h)) (by rfl) ?_
          exact bv_iret C rfl hr rfl ⟨by (simp only [ug_same, c1, c3, c5, c7, and_self, eq_self, or_true, true_or, not_true, not_false_iff, if_true, if_false, ↓reduceIte]), by (simp only [ug_same, c1, c3, c5, c7, and_self, eq_self, or_true, true_or, not_true, not_false_iff, if_true, if_false, ↓reduceIte])⟩
      · refine bv_fS1 C rfl (ct_in_f hE _ (x := z) (lo := (0)) (hi := (300)) c5) ml_X9_65 st_X9_in ini_X9 cd_X9_in ok_X9_in rfl ⟨Nat.le_of_ble_eq_true rfl, Nat.le_of_ble_eq_true rfl⟩ ⟨Nat.zero_le _, Nat.zero_le _⟩ (rest := ([] : List Value)) rfl (Nat.le_of_ble_eq_true rfl) ?_
        refine bv_if_ne (j := 20) C rfl rfl (fun h => absurd h (by decide)) (fun _ => ?_)
        refine bv_blk C frk_X9 csk_X9 1 19 rfl (L1 := ([(0, .ref 0), (1, .int x), (2, .int y), (3, .int z)] : Lc)) (st1 := ([.int (-100002)] : List Value)) (w1 := (layM g h)) (by rfl) ?_
        exact bv_iret C rfl hr rfl ⟨by (simp only [ug_same, c1, c3, c5, and_self, eq_self, or_true, true_or, not_true, not_false_iff, if_true, if_false, ↓reduceIte]), by (simp only [ug_same, c1, c3, c5, and_self, eq_self, or_true, true_or, not_true, not_false_iff, if_true, if_false, ↓reduceIte])⟩
    · refine bv_fS1 C rfl (ct_in_f hE _ (x := y) (lo := (0)) (hi := (63)) c3) ml_X9_65 st_X9_in ini_X9 cd_X9_in ok_X9_in rfl ⟨Nat.le_of_ble_eq_true rfl, Nat.le_of_ble_eq_true rfl⟩ ⟨Nat.zero_le _, Nat.zero_le _⟩ (rest := ([] : List Value)) rfl (Nat.le_of_ble_eq_true rfl) ?_
      refine bv_if_eq (j := 18) C rfl rfl (fun _ => ?_) (fun h => absurd h (by decide))
      refine bv_blk C frk_X9 csk_X9 1 19 rfl (L1 := ([(0, .ref 0), (1, .int x), (2, .int y), (3, .int z)] : Lc)) (st1 := ([.int (-100002)] : List Value)) (w1 := (layM g h)) (by rfl) ?_
      exact bv_iret C rfl hr rfl ⟨by (simp only [ug_same, c1, c3, and_self, eq_self, or_true, true_or, not_true, not_false_iff, if_true, if_false, ↓reduceIte]), by (simp only [ug_same, c1, c3, and_self, eq_self, or_true, true_or, not_true, not_false_iff, if_true, if_false, ↓reduceIte])⟩
  · refine bv_fS1 C rfl (ct_in_f hE _ (x := x) (lo := (0)) (hi := (63)) c1) ml_X9_65 st_X9_in ini_X9 cd_X9_in ok_X9_in rfl ⟨Nat.le_of_ble_eq_true rfl, Nat.le_of_ble_eq_true rfl⟩ ⟨Nat.zero_le _, Nat.zero_le _⟩ (rest := ([] : List Value)) rfl (Nat.le_of_ble_eq_true rfl) ?_
    refine bv_if_eq (j := 18) C rfl rfl (fun _ => ?_) (fun h => absurd h (by decide))
    refine bv_blk C frk_X9 csk_X9 1 19 rfl (L1 := ([(0, .ref 0), (1, .int x), (2, .int y), (3, .int z)] : Lc)) (st1 := ([.int (-100002)] : List Value)) (w1 := (layM g h)) (by rfl) ?_
    exact bv_iret C rfl hr rfl ⟨by (simp only [ug_same, c1, and_self, eq_self, or_true, true_or, not_true, not_false_iff, if_true, if_false, ↓reduceIte]), by (simp only [ug_same, c1, and_self, eq_self, or_true, true_or, not_true, not_false_iff, if_true, if_false, ↓reduceIte])⟩
def rpG (v : Nat → Nat → Int32) (lo hi : Nat) : Nat → Nat → Int32 := fun i j => if i = 1 ∧ lo ≤ j ∧ j < hi then v 1 (j + 6) else v i j
theorem rp_0 (g : Nat → Nat → Int32) (lo : Nat) : rpG g lo lo = g := by
  funext i k
  unfold rpG
  rw [if_neg (by omega)]
theorem rp_s (g : Nat → Nat → Int32) (lo n : Nat) (h : lo ≤ n) : ug (rpG g lo n) 1 n (rpG g lo n 1 (n + 6)) = rpG g lo (n + 1) := by
  have e : rpG g lo n 1 (n + 6) = g 1 (n + 6) := by
    unfold rpG
    rw [if_neg (by omega)]
  rw [e]
  funext i k
  unfold ug rpG
  by_cases h1 : i = 1
  · by_cases h2 : k = n
    · rw [if_pos h1, if_pos h2, if_pos (by omega), h2]
    · rw [if_pos h1, if_neg h2]
      by_cases h3 : lo ≤ k ∧ k < n
      · rw [if_pos ⟨h1, h3⟩, if_pos ⟨h1, by omega⟩]
      · rw [if_neg (fun z => h3 z.2), if_neg (fun z => h3 ⟨z.2.1, by omega⟩)]
  · rw [if_neg h1, if_neg (fun z => h1 z.1), if_neg (fun z => h1 z.1)]
set_option maxRecDepth 100000 in
set_option maxHeartbeats 4000000 in
theorem ct_type {l : Launch} {D : va_G} {cA : FieldType → ClassId} {z0 : Nat} {SK SV : Nat → Nat} {ad : Nat → Nat} (hE : aD (fun q => z0 ≤ q) ad 9) (g : Nat → Nat → Int32) (h : Int64) (m9 : Nat) (x : Int32) (hL : g 0 4 = nI m9) (hm8 : m9 ≤ 120) : bF l D cA z0 SK SV ad shM 9 yX9_type cX9_type 2 (some .int) 1 [.ref 0, .int x] (layM g h) (some (.int (if ((0) ≤ x ∧ x ≤ (255)) then (if g 0 4 = 120 then (-100004) else g 0 4 + 1) else (-100002)))) (layM (if ((0) ≤ x ∧ x ≤ (255)) then (if g 0 4 = 120 then g else ug (ug g 3 m9 x) 0 4 (g 0 4 + 1)) else g) h) := by
  refine bCT_intro (tb := tb_X9_type) (own := RX9) hE pn_X9 rfl tk_X9_type rfl (Nat.le_of_ble_eq_true rfl) ?_
  intro p e s0 m args below meth c C hr
  refine bv_blk C frk_X9 csk_X9 4 4 rfl (L1 := ([(0, .ref 0), (1, .int x)] : Lc)) (st1 := ([.long (255), .long (0), .long (Int32.toInt64 x)] : List Value)) (w1 := (layM g h)) (by rfl) ?_
  by_cases c1 : ((0) ≤ x ∧ x ≤ (255))
  · refine bv_fS1 C rfl (ct_in_t hE _ (x := x) (lo := (0)) (hi := (255)) c1) ml_X9_65 st_X9_in ini_X9 cd_X9_in ok_X9_in rfl ⟨Nat.le_of_ble_eq_true rfl, Nat.le_of_ble_eq_true rfl⟩ ⟨Nat.zero_le _, Nat.zero_le _⟩ (rest := ([] : List Value)) rfl (Nat.le_of_ble_eq_true rfl) ?_
    refine bv_if_ne (j := 8) C rfl rfl (fun _ => ?_) (fun h => absurd h (by decide))
    refine bv_blk C frk_X9 csk_X9 3 11 rfl (L1 := ([(0, .ref 0), (1, .int x)] : Lc)) (st1 := ([.int (120), .int (g 0 4)] : List Value)) (w1 := (layM g h)) (by rfl) ?_
    refine bv_icmp_ne (j := 14) C rfl rfl (fun c3 => ?_) (fun c3 => ?_)
    · have hm9 : m9 < 120 := lt_of_ne (m := 120) hL hm8 (by omega) c3
      refine bv_blk C frk_X9 csk_X9 5 19 rfl (L1 := ([(0, .ref 0), (1, .int x)] : Lc)) (st1 := ([.int x, .int (g 0 4), .ref 3] : List Value)) (w1 := (layM g h)) (by rfl) ?_
      refine bv_iast C rfl rfl (by decide) (j := m9) (by exact hL) (by first | decide | omega) (by decide) ?_
      rw [lm_up rfl]
      refine bv_blk C frk_X9 csk_X9 6 26 rfl (L1 := ([(0, .ref 0), (1, .int x)] : Lc)) (st1 := ([] : List Value)) (w1 := up2 (layM (ug g 3 m9 x) h) 0 4 (.int ((g 0 4) + (1)))) (by rfl) ?_
      rw [lm_up rfl]
      refine bv_blk C frk_X9 csk_X9 2 28 rfl (L1 := ([(0, .ref 0), (1, .int x)] : Lc)) (st1 := ([.int ((g 0 4) + (1))] : List Value)) (w1 := (layM (ug (ug g 3 m9 x) 0 4 ((g 0 4) + (1))) h)) (by rfl) ?_
      exact bv_iret C rfl hr rfl ⟨by (simp only [ug_same, c1, c3, and_self, eq_self, or_true, true_or, not_true, not_false_iff, if_true, if_false, ↓reduceIte]), by (simp only [ug_same, c1, c3, and_self, eq_self, or_true, true_or, not_true, not_false_iff, if_true, if_false, ↓reduceIte])⟩
    · refine bv_blk C frk_X9 csk_X9 1 13 rfl (L1 := ([(0, .ref 0), (1, .int x)] : Lc)) (st1 := ([.int (-100004)] : List Value)) (w1 := (layM g h)) (by rfl) ?_
      exact bv_iret C rfl hr rfl ⟨by (simp only [ug_same, c1, c3, and_self, eq_self, or_true, true_or, not_true, not_false_iff, if_true, if_false, ↓reduceIte]), by (simp only [ug_same, c1, c3, and_self, eq_self, or_true, true_or, not_true, not_false_iff, if_true, if_false, ↓reduceIte])⟩
  · refine bv_fS1 C rfl (ct_in_f hE _ (x := x) (lo := (0)) (hi := (255)) c1) ml_X9_65 st_X9_in ini_X9 cd_X9_in ok_X9_in rfl ⟨Nat.le_of_ble_eq_true rfl, Nat.le_of_ble_eq_true rfl⟩ ⟨Nat.zero_le _, Nat.zero_le _⟩ (rest := ([] : List Value)) rfl (Nat.le_of_ble_eq_true rfl) ?_
    refine bv_if_ne (j := 8) C rfl rfl (fun h => absurd h (by decide)) (fun _ => ?_)
    refine bv_blk C frk_X9 csk_X9 1 7 rfl (L1 := ([(0, .ref 0), (1, .int x)] : Lc)) (st1 := ([.int (-100002)] : List Value)) (w1 := (layM g h)) (by rfl) ?_
    exact bv_iret C rfl hr rfl ⟨by (simp only [ug_same, c1, and_self, eq_self, or_true, true_or, not_true, not_false_iff, if_true, if_false, ↓reduceIte]), by (simp only [ug_same, c1, and_self, eq_self, or_true, true_or, not_true, not_false_iff, if_true, if_false, ↓reduceIte])⟩
set_option maxRecDepth 100000 in
set_option maxHeartbeats 4000000 in
theorem ct_undo {l : Launch} {D : va_G} {cA : FieldType → ClassId} {z0 : Nat} {SK SV : Nat → Nat} {ad : Nat → Nat} (hE : aD (fun q => z0 ≤ q) ad 9) (g : Nat → Nat → Int32) (h : Int64) (m9 : Nat) (hv : g 0 1 = nI m9) (hm8 : m9 ≤ 6) : bF l D cA z0 SK SV ad shM 9 yX9_undo cX9_undo 1 (some .int) 1 [.ref 0] (layM g h) (some (.int (if g 0 1 = 0 then (-100003) else cpyG g (172 * m9) 0 172 0 1 - 1))) (layM (if g 0 1 = 0 then g else ug (cpyG g (172 * m9) 0 172) 0 1 (cpyG g (172 * m9) 0 172 0 1 - 1)) h) := by
  refine bCT_intro (tb := tb_X9_undo) (own := RX9) hE pn_X9 rfl tk_X9_undo rfl (Nat.le_of_ble_eq_true rfl) ?_
  intro p e s0 m args below meth c C hr
  refine bv_blk C frk_X9 csk_X9 2 2 rfl (L1 := ([(0, .ref 0)] : Lc)) (st1 := ([.int (g 0 1)] : List Value)) (w1 := (layM g h)) (by rfl) ?_
  refine bv_if_ne (j := 5) C rfl rfl (fun c1 => ?_) (fun c1 => ?_)
  · refine bv_blk C frk_X9 csk_X9 6 11 rfl (L1 := ([(0, .ref 0)] : Lc)) (st1 := ([.int (0), .int ((172) * (g 0 1)), .ref 0] : List Value)) (w1 := (layM g h)) (by rfl) ?_
    refine bv_fV0 C rfl (ct_copies hE _ _ (172 * m9) 0 (by omega) (by omega) (by omega)) ml_X9_61 im_X9_copies sel_X9_copies ini_X9 cd_X9_copies ok_X9_copies rfl ⟨Nat.le_of_ble_eq_true rfl, Nat.le_of_ble_eq_true rfl⟩ ⟨Nat.zero_le _, Nat.zero_le _⟩ (by decide) rfl rfl rfl (rest := ([] : List Value)) (by first | (rw [show ((172) * (g 0 1)) = nI (172 * m9) from (nIm rfl hv)]; done) | (rw [show ((172) * (g 0 1)) = nI (172 * m9) from (nIm rfl hv)]; rfl)) (Nat.le_of_ble_eq_true rfl) ?_
    refine bv_blk C frk_X9 csk_X9 6 18 rfl (L1 := ([(0, .ref 0)] : Lc)) (st1 := ([] : List Value)) (w1 := up2 (layM (cpyG g (172 * m9) 0 172) h) 0 1 (.int (((cpyG g (172 * m9) 0 172) 0 1) - (1)))) (by rfl) ?_
    rw [lm_up rfl]
    refine bv_blk C frk_X9 csk_X9 2 20 rfl (L1 := ([(0, .ref 0)] : Lc)) (st1 := ([.int (((cpyG g (172 * m9) 0 172) 0 1) - (1))] : List Value)) (w1 := (layM (ug (cpyG g (172 * m9) 0 172) 0 1 (((cpyG g (172 * m9) 0 172) 0 1) - (1))) h)) (by rfl) ?_
    exact bv_iret C rfl hr rfl ⟨by (simp only [ug_same, c1, and_self, eq_self, or_true, true_or, not_true, not_false_iff, if_true, if_false, ↓reduceIte]), by (simp only [ug_same, c1, and_self, eq_self, or_true, true_or, not_true, not_false_iff, if_true, if_false, ↓reduceIte])⟩
  · refine bv_blk C frk_X9 csk_X9 1 4 rfl (L1 := ([(0, .ref 0)] : Lc)) (st1 := ([.int (-100003)] : List Value)) (w1 := (layM g h)) (by rfl) ?_
    exact bv_iret C rfl hr rfl ⟨by (simp only [ug_same, c1, and_self, eq_self, or_true, true_or, not_true, not_false_iff, if_true, if_false, ↓reduceIte]), by (simp only [ug_same, c1, and_self, eq_self, or_true, true_or, not_true, not_false_iff, if_true, if_false, ↓reduceIte])⟩
set_option maxRecDepth 100000 in
set_option maxHeartbeats 4000000 in
theorem ct_removePath {l : Launch} {D : va_G} {cA : FieldType → ClassId} {z0 : Nat} {SK SV : Nat → Nat} {ad : Nat → Nat} (hE : aD (fun q => z0 ≤ q) ad 9) (g : Nat → Nat → Int32) (h : Int64) (n : Nat) (a : Int32) (hs : statR g n) (hv : svK g) : bF l D cA z0 SK SV ad shM 9 yX9_removePath cX9_removePath 3 (some .int) 2 [.ref 0, .int a] (layM g h) (some (.int (if ((0) ≤ a ∧ a ≤ (g 1 12) - (1)) then (rpG (svG g) (55 + 6 * a.toNatClampNeg) 97) 1 12 - 1 else (-100001)))) (layM (if ((0) ≤ a ∧ a ≤ (g 1 12) - (1)) then ug (rpG (svG g) (55 + 6 * a.toNatClampNeg) 97) 1 12 ((rpG (svG g) (55 + 6 * a.toNatClampNeg) 97) 1 12 - 1) else g) h) := by
  refine bCT_intro (tb := tb_X9_removePath) (own := RX9) hE pn_X9 rfl tk_X9_removePath rfl (Nat.le_of_ble_eq_true rfl) ?_
  intro p e s0 m args below meth c C hr
  have hn8 := hs.2.1
  refine bv_blk C frk_X9 csk_X9 2 2 rfl (L1 := ([(0, .ref 0), (1, .int a)] : Lc)) (st1 := ([.int a, .ref 0] : List Value)) (w1 := (layM g h)) (by rfl) ?_
  by_cases c1 : ((0) ≤ a ∧ a ≤ (g 1 12) - (1))
  · obtain ⟨q1, hq1, rfl⟩ := path_of hs.1 (by omega) c1
    refine bv_fV1 C rfl (ct_isPath_t hE _ _ (nI q1) c1) ml_X9_268 im_X9_isPath sel_X9_isPath ini_X9 cd_X9_isPath ok_X9_isPath rfl ⟨Nat.le_of_ble_eq_true rfl, Nat.le_of_ble_eq_true rfl⟩ ⟨Nat.zero_le _, Nat.zero_le _⟩ (by decide) rfl rfl rfl (rest := ([] : List Value)) rfl (Nat.le_of_ble_eq_true rfl) ?_
    refine bv_if_ne (j := 6) C rfl rfl (fun _ => ?_) (fun h => absurd h (by decide))
    refine bv_blk C frk_X9 csk_X9 1 7 rfl (L1 := ([(0, .ref 0), (1, .int (nI q1))] : Lc)) (st1 := ([.ref 0] : List Value)) (w1 := (layM g h)) (by rfl) ?_
    refine bv_fV0 C rfl (ct_savesA hE g _ hv) ml_X9_134 im_X9_saves sel_X9_saves ini_X9 cd_X9_saves ok_X9_saves rfl ⟨Nat.le_of_ble_eq_true rfl, Nat.le_of_ble_eq_true rfl⟩ ⟨Nat.zero_le _, Nat.zero_le _⟩ (by decide) rfl rfl rfl (rest := ([] : List Value)) rfl (Nat.le_of_ble_eq_true rfl) ?_
    obtain ⟨v1, ev1⟩ : ∃ x : Nat → Nat → Int32, x = (svG g) := ⟨_, rfl⟩
    have kp_v1 : kept g v1 := by rw [ev1]; exact (kp_sv (kp_rf _))
    refine bv_weq (show (layM (svG g) h) = (layM v1 h) from by rw [ev1]) ?_
    refine bv_blk C frk_X9 csk_X9 6 14 rfl (L1 := ([(2, .int ((55) + ((6) * (nI q1)))), (0, .ref 0), (1, .int (nI q1))] : Lc)) (st1 := ([] : List Value)) (w1 := (layM v1 h)) (by rfl) ?_
    have lp_a : ∀ (n_a k_a : Nat), (55 + (6 * q1)) ≤ k_a → k_a + n_a = 97 → bV p l e (bR 2) s0 m args below meth c D cA shM (adA ad 9) 3 tb_X9_removePath (MQ below (bQ D cA ad shM 9 (fun r w1 => r = (some (.int (if ((0) ≤ (nI q1) ∧ (nI q1) ≤ (g 1 12) - (1)) then (rpG (svG g) (55 + 6 * (nI q1).toNatClampNeg) 97) 1 12 - 1 else (-100001)))) ∧ w1 = (layM (if ((0) ≤ (nI q1) ∧ (nI q1) ≤ (g 1 12) - (1)) then ug (rpG (svG g) (55 + 6 * (nI q1).toNatClampNeg) 97) 1 12 ((rpG (svG g) (55 + 6 * (nI q1).toNatClampNeg) 97) 1 12 - 1) else g) h))) args s0 0 0 (adA ad 9)) ad 9 0 0 (layM (rpG v1 (55 + 6 * q1) k_a) h) 14 ([(2, .int (nI k_a)), (0, .ref 0), (1, .int (nI q1))] : Lc) ([] : List Value) := by
      intro n_a
      induction n_a with
      | zero =>
        intro k_a hs_a hk_a
        have hkB_a : k_a = 97 := by omega
        rw [hkB_a]
        refine bv_blk C frk_X9 csk_X9 2 16 rfl (L1 := ([(2, .int (nI 97)), (0, .ref 0), (1, .int (nI q1))] : Lc)) (st1 := ([.int (97), .int (nI 97)] : List Value)) (w1 := (layM (rpG v1 (55 + 6 * q1) 97) h)) (by rfl) ?_
        refine bv_icmp_ge (j := 29) C rfl rfl (fun _ => ?_) (fun h => absurd (nI_le (a := 97) (b := 97) (by omega) (by omega)) h)
        refine bv_blk C frk_X9 csk_X9 4 33 rfl (L1 := ([(2, .int (nI 97)), (0, .ref 0), (1, .int (nI q1))] : Lc)) (st1 := ([.int (12), .ref 1, .int (12), .ref 1] : List Value)) (w1 := (layM (rpG v1 (55 + 6 * q1) 97) h)) (by rfl) ?_
        refine bv_iald C rfl rfl (by decide) (j := 12) (by exact rfl) (by first | decide | omega) (by decide) (y := ((rpG v1 (55 + 6 * q1) 97) 1 12)) (by rfl) ?_
        refine bv_blk C frk_X9 csk_X9 2 36 rfl (L1 := ([(2, .int (nI 97)), (0, .ref 0), (1, .int (nI q1))] : Lc)) (st1 := ([.int (((rpG v1 (55 + 6 * q1) 97) 1 12) - (1)), .int (12), .ref 1] : List Value)) (w1 := (layM (rpG v1 (55 + 6 * q1) 97) h)) (by rfl) ?_
        refine bv_iast C rfl rfl (by decide) (j := 12) (by exact rfl) (by first | decide | omega) (by decide) ?_
        rw [lm_up rfl]
        refine bv_blk C frk_X9 csk_X9 3 40 rfl (L1 := ([(2, .int (nI 97)), (0, .ref 0), (1, .int (nI q1))] : Lc)) (st1 := ([.int (12), .ref 1] : List Value)) (w1 := (layM (ug (rpG v1 (55 + 6 * q1) 97) 1 12 (((rpG v1 (55 + 6 * q1) 97) 1 12) - (1))) h)) (by rfl) ?_
        refine bv_iald C rfl rfl (by decide) (j := 12) (by exact rfl) (by first | decide | omega) (by decide) (y := (((rpG v1 (55 + 6 * q1) 97) 1 12) - (1))) (by rfl) ?_
        exact bv_iret C rfl hr rfl ⟨by (subst ev1; simp only [ug_same, nI_clamp (show q1 < 2 ^ 31 by omega), c1, and_self, eq_self, or_true, true_or, not_true, not_false_iff, if_true, if_false, ↓reduceIte]), by (subst ev1; simp only [ug_same, nI_clamp (show q1 < 2 ^ 31 by omega), c1, and_self, eq_self, or_true, true_or, not_true, not_false_iff, if_true, if_false, ↓reduceIte])⟩
      | succ n_a ih =>
        intro k_a hs_a hk_a
        refine bv_blk C frk_X9 csk_X9 2 16 rfl (L1 := ([(2, .int (nI k_a)), (0, .ref 0), (1, .int (nI q1))] : Lc)) (st1 := ([.int (97), .int (nI k_a)] : List Value)) (w1 := (layM (rpG v1 (55 + 6 * q1) k_a) h)) (by rfl) ?_
        refine bv_icmp_ge (j := 29) C rfl rfl (fun h => absurd h (nI_ge (a := k_a) (b := 97) (by omega) (by omega))) (fun _ => ?_)
        refine bv_blk C frk_X9 csk_X9 8 25 rfl (L1 := ([(2, .int (nI k_a)), (0, .ref 0), (1, .int (nI q1))] : Lc)) (st1 := ([.int ((nI k_a) + (6)), .ref 1, .int (nI k_a), .ref 1] : List Value)) (w1 := (layM (rpG v1 (55 + 6 * q1) k_a) h)) (by rfl) ?_
        refine bv_iald C rfl rfl (by decide) (j := (k_a + 6)) (by exact (nIa rfl rfl)) (by first | decide | omega) (by decide) (y := ((rpG v1 (55 + 6 * q1) k_a) 1 (k_a + 6))) (by rfl) ?_
        refine bv_iast C rfl rfl (by decide) (j := k_a) (by exact rfl) (by first | decide | omega) (by decide) ?_
        rw [lm_up rfl]
        refine bv_blk C frk_X9 csk_X9 1 28 rfl (L1 := ([(2, .int ((nI k_a) + Int32.ofInt 1)), (0, .ref 0), (1, .int (nI q1))] : Lc)) (st1 := ([] : List Value)) (w1 := (layM (ug (rpG v1 (55 + 6 * q1) k_a) 1 k_a ((rpG v1 (55 + 6 * q1) k_a) 1 (k_a + 6))) h)) (by rfl) ?_
        rw [show ((nI k_a) + Int32.ofInt 1) = nI (k_a + 1) from (nIi rfl)]
        refine bv_goto (j := 14) C rfl rfl ?_
        refine bv_weq (show (layM (ug (rpG v1 (55 + 6 * q1) k_a) 1 k_a ((rpG v1 (55 + 6 * q1) k_a) 1 (k_a + 6))) h) = (layM (rpG v1 (55 + 6 * q1) (k_a + 1)) h) from by rw [rp_s v1 _ k_a (by omega)]) ?_
        refine bv_sub [0, 1, 2] (by rfl) ?_
        exact ih (k_a + 1) (by omega) (by omega)
    rw [show ((55) + ((6) * (nI q1))) = nI (55 + (6 * q1)) from (nIa rfl (nIm rfl rfl))]
    refine bv_weq (show (layM v1 h) = (layM (rpG v1 (55 + 6 * q1) (55 + (6 * q1))) h) from by rw [rp_0]) ?_
    refine bv_sub [0, 1, 2] (by rfl) ?_
    exact lp_a (97 - (55 + (6 * q1))) (55 + (6 * q1)) (Nat.le_refl _) (by omega)
  · refine bv_fV1 C rfl (ct_isPath_f hE _ _ a c1) ml_X9_268 im_X9_isPath sel_X9_isPath ini_X9 cd_X9_isPath ok_X9_isPath rfl ⟨Nat.le_of_ble_eq_true rfl, Nat.le_of_ble_eq_true rfl⟩ ⟨Nat.zero_le _, Nat.zero_le _⟩ (by decide) rfl rfl rfl (rest := ([] : List Value)) rfl (Nat.le_of_ble_eq_true rfl) ?_
    refine bv_if_ne (j := 6) C rfl rfl (fun h => absurd h (by decide)) (fun _ => ?_)
    refine bv_blk C frk_X9 csk_X9 1 5 rfl (L1 := ([(0, .ref 0), (1, .int a)] : Lc)) (st1 := ([.int (-100001)] : List Value)) (w1 := (layM g h)) (by rfl) ?_
    exact bv_iret C rfl hr rfl ⟨by (simp only [ug_same, c1, and_self, eq_self, or_true, true_or, not_true, not_false_iff, if_true, if_false, ↓reduceIte]), by (simp only [ug_same, c1, and_self, eq_self, or_true, true_or, not_true, not_false_iff, if_true, if_false, ↓reduceIte])⟩
