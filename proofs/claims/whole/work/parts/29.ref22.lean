theorem sec_at {g : Nat → Nat → Int32} {S : Nat → Nat} (h : secK g S) {s : Nat} (hs : s < 2) : g 1 (15 + 20 * s + 0) = nI (S s) ∧ 2 ≤ S s ∧ S s ≤ 16 := by
  rcases (show s = 0 ∨ s = 1 by omega) with rfl | rfl
  · exact ⟨h.1, h.2.2.1, h.2.2.2.1⟩
  · exact ⟨h.2.1, h.2.2.2.2.1, h.2.2.2.2.2⟩
set_option maxRecDepth 100000 in
set_option maxHeartbeats 4000000 in
theorem ct_heard {l : Launch} {D : va_G} {cA : FieldType → ClassId} {z0 : Nat} {SK SV : Nat → Nat} {ad : Nat → Nat} (hE : aD (fun q => z0 ≤ q) ad 9) (g : Nat → Nat → Int32) (h : Int64) (S : Nat → Nat) (a b : Int32) (hS : secK g S) : bF l D cA z0 SK SV ad shM 9 yX9_heard cX9_heard 3 (some .int) 2 [.ref 0, .int a, .int b] (layM g h) (some (.int (if (((0) ≤ a ∧ a ≤ (1))) then (if ((0) ≤ b ∧ b ≤ (g 1 (15 + 20 * (1 - a.toNatClampNeg) + 0)) - (1)) then g 1 (15 + 20 * a.toNatClampNeg + (4 + b.toNatClampNeg)) else (-100001)) else (-100001)))) (layM g h) := by
  refine bCT_intro (tb := tb_X9_heard) (own := RX9) hE pn_X9 rfl tk_X9_heard rfl (Nat.le_of_ble_eq_true rfl) ?_
  intro p e s0 m args below meth c C hr
  refine bv_blk C frk_X9 csk_X9 1 1 rfl (L1 := ([(0, .ref 0), (1, .int a), (2, .int b)] : Lc)) (st1 := ([.int a] : List Value)) (w1 := (layM g h)) (by rfl) ?_
  by_cases c1 : ((0) ≤ a ∧ a ≤ (1))
  · obtain ⟨s1, hs1, rfl⟩ := stat_of c1
    refine bv_fS1 C rfl (ct_isStation_t hE _ (nI s1) (stat_in hs1)) ml_X9_130 st_X9_isStation ini_X9 cd_X9_isStation ok_X9_isStation rfl ⟨Nat.le_of_ble_eq_true rfl, Nat.le_of_ble_eq_true rfl⟩ ⟨Nat.zero_le _, Nat.zero_le _⟩ (rest := ([] : List Value)) rfl (Nat.le_of_ble_eq_true rfl) ?_
    refine bv_if_eq (j := 24) C rfl rfl (fun h => absurd h (by decide)) (fun _ => ?_)
    refine bv_blk C frk_X9 csk_X9 8 11 rfl (L1 := ([(0, .ref 0), (1, .int (nI s1)), (2, .int b)] : Lc)) (st1 := ([.int (0), .int ((1) - (nI s1)), .ref 0, .long (0), .long (Int32.toInt64 b)] : List Value)) (w1 := (layM g h)) (by rfl) ?_
    refine bv_fV1 C rfl (ct_of hE _ _ (1 - s1) 0 (by omega) (by omega)) ml_X9_69 im_X9_of sel_X9_of ini_X9 cd_X9_of ok_X9_of rfl ⟨Nat.le_of_ble_eq_true rfl, Nat.le_of_ble_eq_true rfl⟩ ⟨Nat.zero_le _, Nat.zero_le _⟩ (by decide) rfl rfl rfl (rest := ([.long (0), .long (Int32.toInt64 b)] : List Value)) (by first | (rw [show ((1) - (nI s1)) = nI (1 - s1) from (nIs rfl rfl (by omega))]; done) | (rw [show ((1) - (nI s1)) = nI (1 - s1) from (nIs rfl rfl (by omega))]; rfl)) (Nat.le_of_ble_eq_true rfl) ?_
    refine bv_blk C frk_X9 csk_X9 3 15 rfl (L1 := ([(0, .ref 0), (1, .int (nI s1)), (2, .int b)] : Lc)) (st1 := ([.long (Int32.toInt64 ((g 1 (15 + 20 * (1 - s1) + 0)) - (1))), .long (0), .long (Int32.toInt64 b)] : List Value)) (w1 := (layM g h)) (by rfl) ?_
    by_cases c3 : ((0) ≤ b ∧ b ≤ ((g 1 (15 + 20 * (1 - s1) + 0)) - (1)))
    · refine bv_fS1 C rfl (ct_in_t hE _ (x := b) (lo := (0)) (hi := ((g 1 (15 + 20 * (1 - s1) + 0)) - (1))) c3) ml_X9_65 st_X9_in ini_X9 cd_X9_in ok_X9_in rfl ⟨Nat.le_of_ble_eq_true rfl, Nat.le_of_ble_eq_true rfl⟩ ⟨Nat.zero_le _, Nat.zero_le _⟩ (rest := ([] : List Value)) rfl (Nat.le_of_ble_eq_true rfl) ?_
      refine bv_if_eq (j := 24) C rfl rfl (fun h => absurd h (by decide)) (fun _ => ?_)
      have hSS := sec_at hS (show 1 - s1 < 2 by omega)
      obtain ⟨j1, hj1, rfl⟩ := path_of hSS.1 (by omega) c3
      refine bv_blk C frk_X9 csk_X9 5 22 rfl (L1 := ([(0, .ref 0), (1, .int (nI s1)), (2, .int (nI j1))] : Lc)) (st1 := ([.int ((4) + (nI j1)), .int (nI s1), .ref 0] : List Value)) (w1 := (layM g h)) (by rfl) ?_
      refine bv_fV1 C rfl (ct_of hE _ _ s1 (4 + j1) (by omega) (by omega)) ml_X9_69 im_X9_of sel_X9_of ini_X9 cd_X9_of ok_X9_of rfl ⟨Nat.le_of_ble_eq_true rfl, Nat.le_of_ble_eq_true rfl⟩ ⟨Nat.zero_le _, Nat.zero_le _⟩ (by decide) rfl rfl rfl (rest := ([] : List Value)) (by first | (rw [show ((4) + (nI j1)) = nI (4 + j1) from (nIa rfl rfl)]; done) | (rw [show ((4) + (nI j1)) = nI (4 + j1) from (nIa rfl rfl)]; rfl)) (Nat.le_of_ble_eq_true rfl) ?_
      refine bv_goto (j := 25) C rfl rfl ?_
      exact bv_iret C rfl hr rfl ⟨by (simp only [ug_same, nI_clamp (show s1 < 2 ^ 31 by omega), nI_clamp (show j1 < 2 ^ 31 by omega), c1, c3, and_self, eq_self, or_true, true_or, not_true, not_false_iff, if_true, if_false, ↓reduceIte]), by (rfl)⟩
    · refine bv_fS1 C rfl (ct_in_f hE _ (x := b) (lo := (0)) (hi := ((g 1 (15 + 20 * (1 - s1) + 0)) - (1))) c3) ml_X9_65 st_X9_in ini_X9 cd_X9_in ok_X9_in rfl ⟨Nat.le_of_ble_eq_true rfl, Nat.le_of_ble_eq_true rfl⟩ ⟨Nat.zero_le _, Nat.zero_le _⟩ (rest := ([] : List Value)) rfl (Nat.le_of_ble_eq_true rfl) ?_
      refine bv_if_eq (j := 24) C rfl rfl (fun _ => ?_) (fun h => absurd h (by decide))
      refine bv_blk C frk_X9 csk_X9 1 25 rfl (L1 := ([(0, .ref 0), (1, .int (nI s1)), (2, .int b)] : Lc)) (st1 := ([.int (-100001)] : List Value)) (w1 := (layM g h)) (by rfl) ?_
      exact bv_iret C rfl hr rfl ⟨by (simp only [ug_same, nI_clamp (show s1 < 2 ^ 31 by omega), c1, c3, and_self, eq_self, or_true, true_or, not_true, not_false_iff, if_true, if_false, ↓reduceIte]), by (rfl)⟩
  · refine bv_fS1 C rfl (ct_isStation_f hE _ a c1) ml_X9_130 st_X9_isStation ini_X9 cd_X9_isStation ok_X9_isStation rfl ⟨Nat.le_of_ble_eq_true rfl, Nat.le_of_ble_eq_true rfl⟩ ⟨Nat.zero_le _, Nat.zero_le _⟩ (rest := ([] : List Value)) rfl (Nat.le_of_ble_eq_true rfl) ?_
    refine bv_if_eq (j := 24) C rfl rfl (fun _ => ?_) (fun h => absurd h (by decide))
    refine bv_blk C frk_X9 csk_X9 1 25 rfl (L1 := ([(0, .ref 0), (1, .int a), (2, .int b)] : Lc)) (st1 := ([.int (-100001)] : List Value)) (w1 := (layM g h)) (by rfl) ?_
    exact bv_iret C rfl hr rfl ⟨by (simp only [ug_same, c1, and_self, eq_self, or_true, true_or, not_true, not_false_iff, if_true, if_false, ↓reduceIte]), by (rfl)⟩
