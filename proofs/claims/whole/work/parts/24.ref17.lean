set_option maxRecDepth 100000 in
set_option maxHeartbeats 4000000 in
theorem ct_backupBeam {l : Launch} {D : va_G} {cA : FieldType → ClassId} {z0 : Nat} {SK SV : Nat → Nat} {ad : Nat → Nat} (hE : aD (fun q => z0 ≤ q) ad 9) (g : Nat → Nat → Int32) (h : Int64) (bk : Nat) (a b : Int32) (hB : g 1 13 = nI bk) (hB3 : bk ≤ 3) : bF l D cA z0 SK SV ad shM 9 yX9_backupBeam cX9_backupBeam 3 (some .int) 2 [.ref 0, .int a, .int b] (layM g h) (some (.int (if ((0) ≤ a ∧ a ≤ (g 1 13) - (1)) then (if ((0) ≤ b ∧ b ≤ (1)) then g 1 (103 + 3 * a.toNatClampNeg + b.toNatClampNeg) else (-100001)) else (-100001)))) (layM g h) := by
  refine bCT_intro (tb := tb_X9_backupBeam) (own := RX9) hE pn_X9 rfl tk_X9_backupBeam rfl (Nat.le_of_ble_eq_true rfl) ?_
  intro p e s0 m args below meth c C hr
  skip
  refine bv_blk C frk_X9 csk_X9 2 2 rfl (L1 := ([(0, .ref 0), (1, .int a), (2, .int b)] : Lc)) (st1 := ([.int a, .ref 0] : List Value)) (w1 := (layM g h)) (by rfl) ?_
  by_cases c1 : ((0) ≤ a ∧ a ≤ (g 1 13) - (1))
  · obtain ⟨b1, hb1, rfl⟩ := path_of hB (by omega) c1
    refine bv_fV1 C rfl (ct_isBackup_t hE _ _ (nI b1) c1) ml_X9_311 im_X9_isBackup sel_X9_isBackup ini_X9 cd_X9_isBackup ok_X9_isBackup rfl ⟨Nat.le_of_ble_eq_true rfl, Nat.le_of_ble_eq_true rfl⟩ ⟨Nat.zero_le _, Nat.zero_le _⟩ (by decide) rfl rfl rfl (rest := ([] : List Value)) rfl (Nat.le_of_ble_eq_true rfl) ?_
    refine bv_if_eq (j := 18) C rfl rfl (fun h => absurd h (by decide)) (fun _ => ?_)
    refine bv_blk C frk_X9 csk_X9 1 5 rfl (L1 := ([(0, .ref 0), (1, .int (nI b1)), (2, .int b)] : Lc)) (st1 := ([.int b] : List Value)) (w1 := (layM g h)) (by rfl) ?_
    by_cases c3 : ((0) ≤ b ∧ b ≤ (1))
    · obtain ⟨s1, hs1, rfl⟩ := stat_of c3
      refine bv_fS1 C rfl (ct_isStation_t hE _ (nI s1) (stat_in hs1)) ml_X9_130 st_X9_isStation ini_X9 cd_X9_isStation ok_X9_isStation rfl ⟨Nat.le_of_ble_eq_true rfl, Nat.le_of_ble_eq_true rfl⟩ ⟨Nat.zero_le _, Nat.zero_le _⟩ (rest := ([] : List Value)) rfl (Nat.le_of_ble_eq_true rfl) ?_
      refine bv_if_eq (j := 18) C rfl rfl (fun h => absurd h (by decide)) (fun _ => ?_)
      refine bv_blk C frk_X9 csk_X9 9 16 rfl (L1 := ([(0, .ref 0), (1, .int (nI b1)), (2, .int (nI s1))] : Lc)) (st1 := ([.int (((103) + ((3) * (nI b1))) + (nI s1)), .ref 1] : List Value)) (w1 := (layM g h)) (by rfl) ?_
      refine bv_iald C rfl rfl (by decide) (j := ((103 + (3 * b1)) + s1)) (by exact (nIa (nIa rfl (nIm rfl rfl)) rfl)) (by first | decide | omega) (by decide) (y := (g 1 ((103 + (3 * b1)) + s1))) (by rfl) ?_
      refine bv_goto (j := 19) C rfl rfl ?_
      exact bv_iret C rfl hr rfl ⟨by (simp only [ug_same, nI_clamp (show b1 < 2 ^ 31 by omega), nI_clamp (show s1 < 2 ^ 31 by omega), c1, c3, and_self, eq_self, or_true, true_or, not_true, not_false_iff, if_true, if_false, ↓reduceIte]), by (rfl)⟩
    · refine bv_fS1 C rfl (ct_isStation_f hE _ b c3) ml_X9_130 st_X9_isStation ini_X9 cd_X9_isStation ok_X9_isStation rfl ⟨Nat.le_of_ble_eq_true rfl, Nat.le_of_ble_eq_true rfl⟩ ⟨Nat.zero_le _, Nat.zero_le _⟩ (rest := ([] : List Value)) rfl (Nat.le_of_ble_eq_true rfl) ?_
      refine bv_if_eq (j := 18) C rfl rfl (fun _ => ?_) (fun h => absurd h (by decide))
      refine bv_blk C frk_X9 csk_X9 1 19 rfl (L1 := ([(0, .ref 0), (1, .int (nI b1)), (2, .int b)] : Lc)) (st1 := ([.int (-100001)] : List Value)) (w1 := (layM g h)) (by rfl) ?_
      exact bv_iret C rfl hr rfl ⟨by (simp only [ug_same, nI_clamp (show b1 < 2 ^ 31 by omega), c1, c3, and_self, eq_self, or_true, true_or, not_true, not_false_iff, if_true, if_false, ↓reduceIte]), by (rfl)⟩
  · refine bv_fV1 C rfl (ct_isBackup_f hE _ _ a c1) ml_X9_311 im_X9_isBackup sel_X9_isBackup ini_X9 cd_X9_isBackup ok_X9_isBackup rfl ⟨Nat.le_of_ble_eq_true rfl, Nat.le_of_ble_eq_true rfl⟩ ⟨Nat.zero_le _, Nat.zero_le _⟩ (by decide) rfl rfl rfl (rest := ([] : List Value)) rfl (Nat.le_of_ble_eq_true rfl) ?_
    refine bv_if_eq (j := 18) C rfl rfl (fun _ => ?_) (fun h => absurd h (by decide))
    refine bv_blk C frk_X9 csk_X9 1 19 rfl (L1 := ([(0, .ref 0), (1, .int a), (2, .int b)] : Lc)) (st1 := ([.int (-100001)] : List Value)) (w1 := (layM g h)) (by rfl) ?_
    exact bv_iret C rfl hr rfl ⟨by (simp only [ug_same, c1, and_self, eq_self, or_true, true_or, not_true, not_false_iff, if_true, if_false, ↓reduceIte]), by (rfl)⟩
set_option maxRecDepth 100000 in
set_option maxHeartbeats 4000000 in
theorem ct_backupQuality {l : Launch} {D : va_G} {cA : FieldType → ClassId} {z0 : Nat} {SK SV : Nat → Nat} {ad : Nat → Nat} (hE : aD (fun q => z0 ≤ q) ad 9) (g : Nat → Nat → Int32) (h : Int64) (bk : Nat) (a : Int32) (hB : g 1 13 = nI bk) (hB3 : bk ≤ 3) : bF l D cA z0 SK SV ad shM 9 yX9_backupQuality cX9_backupQuality 2 (some .int) 2 [.ref 0, .int a] (layM g h) (some (.int (if ((0) ≤ a ∧ a ≤ (g 1 13) - (1)) then g 1 (103 + 3 * a.toNatClampNeg + 2) else (-100001)))) (layM g h) := by
  refine bCT_intro (tb := tb_X9_backupQuality) (own := RX9) hE pn_X9 rfl tk_X9_backupQuality rfl (Nat.le_of_ble_eq_true rfl) ?_
  intro p e s0 m args below meth c C hr
  skip
  refine bv_blk C frk_X9 csk_X9 2 2 rfl (L1 := ([(0, .ref 0), (1, .int a)] : Lc)) (st1 := ([.int a, .ref 0] : List Value)) (w1 := (layM g h)) (by rfl) ?_
  by_cases c1 : ((0) ≤ a ∧ a ≤ (g 1 13) - (1))
  · obtain ⟨b1, hb1, rfl⟩ := path_of hB (by omega) c1
    refine bv_fV1 C rfl (ct_isBackup_t hE _ _ (nI b1) c1) ml_X9_311 im_X9_isBackup sel_X9_isBackup ini_X9 cd_X9_isBackup ok_X9_isBackup rfl ⟨Nat.le_of_ble_eq_true rfl, Nat.le_of_ble_eq_true rfl⟩ ⟨Nat.zero_le _, Nat.zero_le _⟩ (by decide) rfl rfl rfl (rest := ([] : List Value)) rfl (Nat.le_of_ble_eq_true rfl) ?_
    refine bv_if_eq (j := 15) C rfl rfl (fun h => absurd h (by decide)) (fun _ => ?_)
    refine bv_blk C frk_X9 csk_X9 9 13 rfl (L1 := ([(0, .ref 0), (1, .int (nI b1))] : Lc)) (st1 := ([.int (((103) + ((3) * (nI b1))) + (2)), .ref 1] : List Value)) (w1 := (layM g h)) (by rfl) ?_
    refine bv_iald C rfl rfl (by decide) (j := ((103 + (3 * b1)) + 2)) (by exact (nIa (nIa rfl (nIm rfl rfl)) rfl)) (by first | decide | omega) (by decide) (y := (g 1 ((103 + (3 * b1)) + 2))) (by rfl) ?_
    refine bv_goto (j := 16) C rfl rfl ?_
    exact bv_iret C rfl hr rfl ⟨by (simp only [ug_same, nI_clamp (show b1 < 2 ^ 31 by omega), c1, and_self, eq_self, or_true, true_or, not_true, not_false_iff, if_true, if_false, ↓reduceIte]), by (rfl)⟩
  · refine bv_fV1 C rfl (ct_isBackup_f hE _ _ a c1) ml_X9_311 im_X9_isBackup sel_X9_isBackup ini_X9 cd_X9_isBackup ok_X9_isBackup rfl ⟨Nat.le_of_ble_eq_true rfl, Nat.le_of_ble_eq_true rfl⟩ ⟨Nat.zero_le _, Nat.zero_le _⟩ (by decide) rfl rfl rfl (rest := ([] : List Value)) rfl (Nat.le_of_ble_eq_true rfl) ?_
    refine bv_if_eq (j := 15) C rfl rfl (fun _ => ?_) (fun h => absurd h (by decide))
    refine bv_blk C frk_X9 csk_X9 1 16 rfl (L1 := ([(0, .ref 0), (1, .int a)] : Lc)) (st1 := ([.int (-100001)] : List Value)) (w1 := (layM g h)) (by rfl) ?_
    exact bv_iret C rfl hr rfl ⟨by (simp only [ug_same, c1, and_self, eq_self, or_true, true_or, not_true, not_false_iff, if_true, if_false, ↓reduceIte]), by (rfl)⟩
