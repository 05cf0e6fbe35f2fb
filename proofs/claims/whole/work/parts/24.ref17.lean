set_option maxRecDepth 100000 in
set_option maxHeartbeats 4000000 in
theorem ct_backupBeam {l : Launch} {D : va_G} {cA : FieldType → ClassId} {z0 : Nat} {SK SV : Nat → Nat} {ad : Nat → Nat} (hE : aD (fun q => z0 ≤ q) ad 9) (g : Nat → Nat → Int32) (h : Int64) (bk : Nat) (a b : Int32) (hB : g 1 13 = nI bk) (hB3 : bk ≤ 3) : bF l D cA z0 SK SV ad shM 9 yX9_backupBeam cX9_backupBeam 3 (some .int) 2 [.ref 0, .int a, .int b] (layM g h) (some (.int (if ((0) ≤ a ∧ a ≤ (g 1 13) - (1)) then (if ((0) ≤ b ∧ b ≤ (1)) then g 1 (103 + 3 * a.toNatClampNeg + b.toNatClampNeg) else (-100001)) else (-100001)))) (layM g h) := by
  refine bCT_intro (tb := tb_X9_backupBeam) (own := RX9) hE pn_X9 rfl tk_X9_backupBeam rfl (Nat.le_of_ble_eq_true rfl) ?_
  intro p e s0 m args below meth c C hr
  skip
  refine bv_blk C frk_X9 csk_X9 2 2 rfl (L1 := ([(0, .ref 0), (1, .int a), (2, .int b)] : Lc)) (st1 := ([.int a, .ref 0] : List Value)) (w1 := (layM g h)) (by rfl) ?_
  by_cases c1 : ((0) ≤ a ∧ a ≤ (g 1 13) - (1))
  · obtain ⟨b1, hb1, rfl⟩ := path_of hB (by omega) c1
    refine bv_fV1 C rfl (ct_isBackup_t hE _ _ (nI b1) c1) ml_X9_311 im_X9_isBackup sel_X9_isBackup ini_X9 cd_X9_isBackup ok_X9_isBackup rfl ⟨Nat.le_of_ble_eq_true rfl, Nat.le_of_ble_eq_true rfl⟩ ⟨Nat.zero_le _, Nat.zero_le _⟩ (by decide) rfl rfl rfl (rest := ([] : List Value)) rfl (Nat.le_of_ble_eq_true rfl) ?_
    refine bv_if_eq (j := 18) C rfl rfl (fun h => absurd h (by decide)) (fun _ => ?_)
    refine bv_blk C frk_X9 csk_X9 1 5 rfl (L1 := ([(0, .ref 0), (1, .int (nI b1)), (2, .int b)] : Lc)) (st1 := ([.int b] : List Value)) (w1 := (layM g h)) (by rfl) ?_
    by_cases c3 : ((0) ≤ b ∧ b ≤ (1))
    · obtain ⟨s1, hs1, rfl⟩ := stat_of c3
      refine bv_fS1 C rfl (ct_isStation_t hE _ (nI s1) (stat_in hs1)) ml_X9_130 st_X9_isStation ini_X9 cd_X9_isStation ok_X9_isStation rfl ⟨Nat.le_of_ble_eq_true rfl, Nat.le_of_ble_eq_true rfl⟩ ⟨Nat.zero_le _, Nat.zero_le _⟩ (rest := ([] : List Value)) rfl (Nat.le_of_ble_eq_true rfl) ?_
      refine bv_if_eq (j := 18) C rfl rfl (fun h => absurd h (by decide)) (fun _ => ?_)
      refine bv_blk C frk_X9 csk_X9 9 16 rfl (L1 := ([(0, .ref 0), (1, .int (nI b1)), (2, .int (nI s1))] : Lc)) (st1 := ([.int (((103) + ((3) * (nI b1))) + (nI s1)), .ref 1] : List Value)) (w1 := (layM g h)) (by rfl) ?_
      refine bv_iald C rfl rfl (by decide) (j := ((103 + (3 * b1)) + s1)) (by exact (nIa (nIa rfl (nIm rfl rfl)) rfl)) (by first | decide | omega) (by decide) (y := (g 1 ((103 + (3 * b1)) + s1))) (by rfl) ?_
      refine bv_goto (j := 19) C rfl rfl ?_
      exact bv_iret C rfl hr rfl ⟨by (simp only [ug_same, nI_clamp (show b1 < 2 ^ 31 by omega), nI_clamp (show s1 < 2 ^ 31 by omega), c1, c3, and_self, eq_self, or_true, true_or, not_true, not_false_iff, if_true, if_false, ↓reduceIte]), by (rfl)⟩
    · refine bv_fS1 C rfl (ct_isStation_f hE _ b c3) ml_X9_130 st_X9_isStation ini_X9 cd_X9_isStation ok_X9_isStation rfl ⟨Nat.le_of_ble_eq_true rfl, Nat.le_of_ble_eq_true rfl⟩ ⟨Nat.zero_le _, Nat.zero_le _⟩ (rest := ([] : List Value)) rfl (Nat.le_of_ble_eq_true rfl) ?_
      refine bv_if_eq (j := 18) C rfl rfl (fun _ => ?_) (fun h => absurd h (by decide))
      refine bv_blk C frk_X9 csk_X9 1 19 rfl (L1 := ([(0, .ref 0), (1, .int (nI b1)), (2, .int b)] : Lc)) (st1 := ([.int (-100001)] : List Value)) (w1 := (layM g h)) (by rfl) ?_
      exact bv_iret C rfl hr rfl ⟨by (simp only [ug_same, nI_clamp (show b1 < 2 ^ 31 by omega), c1, c3, and_self, eq_self, or_true, true_or, not_true, not_false_iff, if_true, if_false, ↓reduceIte]), by (rfl)⟩
  · refine bv_fV1 C rfl (ct_isBackup_f hE _ _ a c1) ml_X9_311 im_X9_isBackup sel_X9_isBackup ini_X9 cd_X9_isBackup ok_X9_isBackup rfl ⟨Nat.le_of_ble_eq_true rfl, Nat.le_of_ble_eq_true rfl⟩ ⟨Nat.zero_le _, Nat.zero_le _⟩ (by decide) rfl rfl rfl (rest := ([] : List Value)) rfl (Nat.le_of_ble_eq_true rfl) ?_
    refine bv_if_eq (j := 18) C rfl rfl (fun _ => ?_) (fun h => absurd h (by decide))
    refine bv_blk C frk_X9 csk_X9 1 19 rfl (L1 := ([(0, .ref 0), (1, .int a), (2, .int b)] : Lc)) (st1 := ([.int (-100001)] : List Value)) (w1 := (layM g h)) (by rfl) ?_
    exact bv_iret C rfl hr rfl ⟨by (simp only [ug_same, c1, and_self, eq_self, or_true, true_or, not_true, not_false_iff, if_true, if_false, ↓reduceIte]), by (rfl)⟩
set_option maxRecDepth 100000 in
set_option maxHeartbeats 4000000 in
theorem ct_backupQuality {l : Launch} {D : va_G} {cA : FieldType → ClassId} {z0 : Nat} {SK SV : Nat → Nat} {ad : Nat → Nat} (hE : aD (fun q => z0 ≤ q) ad 9) (g : Nat → Nat → Int32) (h : Int64) (bk : Nat) (a : Int32) (hB : g 1 13 = nI bk) (hB3 : bk ≤ 3) : bF l D cA z0 SK SV ad shM 9 yX9_backupQuality cX9_backupQuality 2 (some .int) 2 [.ref 0, .int a] (layM g h) (some (.int (if ((0) ≤ a ∧ a ≤ (g 1 13) - (1)) then g 1 (103 + 3 * a.toNatClampNeg + 2) else (-100001)))) (layM g h) := by
  refine bCT_intro (tb := tb_X9_backupQuality) (own := RX9) hE pn_X9 rfl tk_X9_backupQuality rfl (Nat.le_of_ble_eq_true rfl) ?_
  intro p e s0 m args below meth c C hr
  skip
  refine bv_blk C frk_X9 csk_X9 2 2 rfl (L1 := ([(0, .ref 0), (1, .int a)] : Lc)) (st1 := ([.int a, .ref 0] : List Value)) (w1 := (layM g h)) (by rfl) ?_
  by_cases c1 : ((0) ≤ a ∧ a ≤ (g 1 13) - (1))
  · obtain ⟨b1, hb1, rfl⟩ := path_of hB (by omega) c1
    refine bv_fV1 C rfl (ct_isBackup_t hE _ _ (nI b1) c1) ml_X9_311 im_X9_isBackup sel_X9_isBackup ini_X9 cd_X9_isBackup ok_X9_isBackup rfl ⟨Nat.le_of_ble_eq_true rfl, Nat.le_of_ble_eq_true rfl⟩ ⟨Nat.zero_le _, Nat.zero_le _⟩ (by decide) rfl rfl rfl (rest := ([] : List Value)) rfl (Nat.le_of_ble_eq_true rfl) ?_
    refine bv_if_eq (j := 15) C rfl rfl (fun h => absurd h (by decide)) (fun _ => ?_)
    refine bv_blk C frk_X9 csk_X9 9 13 rfl (L1 := ([(0, .ref 0), (1, .int (nI b1))] : Lc)) (st1 := ([.int (((103) + ((3) * (nI b1))) + (2)), .ref 1] : List Value)) (w1 := (layM g h)) (by rfl) ?_
    refine bv_iald C rfl rfl (by decide) (j := ((103 + (3 * b1)) + 2)) (by exact (nIa (nIa rfl (nIm rfl rfl)) rfl)) (by first | decide | omega) (by decide) (y := (g 1 ((103 + (3 * b1)) + 2))) (by rfl) ?_
    refine bv_goto (j := 16) C rfl rfl ?_
    exact bv_iret C rfl hr rfl ⟨by (simp only [ug_same, nI_clamp (show b1 < 2 ^ 31 by omega), c1, and_self, eq_self, or_true, true_or, not_true, not_false_iff, if_true, if_false, ↓reduceIte]), by (rfl)⟩
  · refine bv_fV1 C rfl (ct_isBackup_f hE _ _ a c1) ml_X9_311 im_X9_isBackup sel_X9_isBackup ini_X9 cd_X9_isBackup ok_X9_isBackup rfl ⟨Nat.le_of_ble_eq_true rfl, Nat.le_of_ble_eq_true rfl⟩ ⟨Nat.zero_le _, Nat.zero_le _⟩ (by decide) rfl rfl rfl (rest := ([] : List Value)) rfl (Nat.le_of_ble_eq_true rfl) ?_
    refine bv_if_eq (j := 15) C rfl rfl (fun _ => ?_) (fun h => absurd h (by decide))
    refine bv_blk C frk_X9 csk_X9 1 16 rfl (L1 := ([(0, .ref 0), (1, .int a)] : Lc)) (st1 := ([.int (-100001)] : List Value)) (w1 := (layM g h)) (by rfl) ?_
    exact bv_iret C rfl hr rfl ⟨by (simp only [ug_same, c1, and_self, eq_self, or_true, true_or, not_true, not_false_iff, if_true, if_false, ↓reduceIte]), by (rfl)⟩
set_option maxRecDepth 100000 in
set_option maxHeartbeats 4000000 in
theorem ct_ofEvent {l : Launch} {D : va_G} {cA : FieldType → ClassId} {z0 : Nat} {SK SV : Nat → Nat} {ad : Nat → Nat} (hE : aD (fun q => z0 ≤ q) ad 9) (g : Nat → Nat → Int32) (h : Int64) (E k : Nat) (a : Int32) (hEv : g 1 14 = nI E) (hE2 : E ≤ 20) (hk : k < 3) : bF l D cA z0 SK SV ad shM 9 yX9_ofEvent cX9_ofEvent 3 (some .int) 1 [.ref 0, .int a, .int (nI k)] (layM g h) (some (.int (if ((0) ≤ a ∧ a ≤ (g 1 14) - (1)) then g 1 (112 + 3 * (E - 1 - a.toNatClampNeg) + k) else (-100001)))) (layM g h) := by
  refine bCT_intro (tb := tb_X9_ofEvent) (own := RX9) hE pn_X9 rfl tk_X9_ofEvent rfl (Nat.le_of_ble_eq_true rfl) ?_
  intro p e s0 m args below meth c C hr
  refine bv_blk C frk_X9 csk_X9 6 6 rfl (L1 := ([(0, .ref 0), (1, .int a), (2, .int (nI k))] : Lc)) (st1 := ([.int (14), .ref 1, .long (0), .long (Int32.toInt64 a)] : List Value)) (w1 := (layM g h)) (by rfl) ?_
  refine bv_iald C rfl rfl (by decide) (j := 14) (by exact rfl) (by first | decide | omega) (by decide) (y := (g 1 14)) (by rfl) ?_
  refine bv_blk C frk_X9 csk_X9 3 10 rfl (L1 := ([(0, .ref 0), (1, .int a), (2, .int (nI k))] : Lc)) (st1 := ([.long (Int32.toInt64 ((g 1 14) - (1))), .long (0), .long (Int32.toInt64 a)] : List Value)) (w1 := (layM g h)) (by rfl) ?_
  by_cases c1 : ((0) ≤ a ∧ a ≤ ((g 1 14) - (1)))
  · refine bv_fS1 C rfl (ct_in_t hE _ (x := a) (lo := (0)) (hi := ((g 1 14) - (1))) c1) ml_X9_65 st_X9_in ini_X9 cd_X9_in ok_X9_in rfl ⟨Nat.le_of_ble_eq_true rfl, Nat.le_of_ble_eq_true rfl⟩ ⟨Nat.zero_le _, Nat.zero_le _⟩ (rest := ([] : List Value)) rfl (Nat.le_of_ble_eq_true rfl) ?_
    refine bv_if_eq (j := 30) C rfl rfl (fun h => absurd h (by decide)) (fun _ => ?_)
    obtain ⟨e1, he1, rfl⟩ := path_of hEv (by omega) c1
    refine bv_blk C frk_X9 csk_X9 7 19 rfl (L1 := ([(0, .ref 0), (1, .int (nI e1)), (2, .int (nI k))] : Lc)) (st1 := ([.int (14), .ref 1, .int (3), .int (112), .ref 1] : List Value)) (w1 := (layM g h)) (by rfl) ?_
    refine bv_iald C rfl rfl (by decide) (j := 14) (by exact rfl) (by first | decide | omega) (by decide) (y := (g 1 14)) (by rfl) ?_
    refine bv_blk C frk_X9 csk_X9 8 28 rfl (L1 := ([(0, .ref 0), (1, .int (nI e1)), (2, .int (nI k))] : Lc)) (st1 := ([.int (((112) + ((3) * (((g 1 14) - (1)) - (nI e1)))) + (nI k)), .ref 1] : List Value)) (w1 := (layM g h)) (by rfl) ?_
    refine bv_iald C rfl rfl (by decide) (j := ((112 + (3 * ((E - 1) - e1))) + k)) (by exact (nIa (nIa rfl (nIm rfl (nIs (nIs hEv rfl (by omega)) rfl (by omega)))) rfl)) (by first | decide | omega) (by decide) (y := (g 1 ((112 + (3 * ((E - 1) - e1))) + k))) (by rfl) ?_
    refine bv_goto (j := 31) C rfl rfl ?_
    exact bv_iret C rfl hr rfl ⟨by (simp only [ug_same, nI_clamp (show e1 < 2 ^ 31 by omega), c1, and_self, eq_self, or_true, true_or, not_true, not_false_iff, if_true, if_false, ↓reduceIte]), by (rfl)⟩
  · refine bv_fS1 C rfl (ct_in_f hE _ (x := a) (lo := (0)) (hi := ((g 1 14) - (1))) c1) ml_X9_65 st_X9_in ini_X9 cd_X9_in ok_X9_in rfl ⟨Nat.le_of_ble_eq_true rfl, Nat.le_of_ble_eq_true rfl⟩ ⟨Nat.zero_le _, Nat.zero_le _⟩ (rest := ([] : List Value)) rfl (Nat.le_of_ble_eq_true rfl) ?_
    refine bv_if_eq (j := 30) C rfl rfl (fun _ => ?_) (fun h => absurd h (by decide))
    refine bv_blk C frk_X9 csk_X9 1 31 rfl (L1 := ([(0, .ref 0), (1, .int a), (2, .int (nI k))] : Lc)) (st1 := ([.int (-100001)] : List Value)) (w1 := (layM g h)) (by rfl) ?_
    exact bv_iret C rfl hr rfl ⟨by (simp only [ug_same, c1, and_self, eq_self, or_true, true_or, not_true, not_false_iff, if_true, if_false, ↓reduceIte]), by (rfl)⟩
set_option maxRecDepth 100000 in
set_option maxHeartbeats 4000000 in
theorem ct_eventKind {l : Launch} {D : va_G} {cA : FieldType → ClassId} {z0 : Nat} {SK SV : Nat → Nat} {ad : Nat → Nat} (hE : aD (fun q => z0 ≤ q) ad 9) (g : Nat → Nat → Int32) (h : Int64) (E : Nat) (a : Int32) (hEv : g 1 14 = nI E) (hE2 : E ≤ 20) : bF l D cA z0 SK SV ad shM 9 yX9_eventKind cX9_eventKind 2 (some .int) 2 [.ref 0, .int a] (layM g h) (some (.int (if ((0) ≤ a ∧ a ≤ (g 1 14) - (1)) then g 1 (112 + 3 * (E - 1 - a.toNatClampNeg) + 0) else (-100001)))) (layM g h) := by
  refine bCT_intro (tb := tb_X9_eventKind) (own := RX9) hE pn_X9 rfl tk_X9_eventKind rfl (Nat.le_of_ble_eq_true rfl) ?_
  intro p e s0 m args below meth c C hr
  refine bv_blk C frk_X9 csk_X9 3 3 rfl (L1 := ([(0, .ref 0), (1, .int a)] : Lc)) (st1 := ([.int (0), .int a, .ref 0] : List Value)) (w1 := (layM g h)) (by rfl) ?_
  refine bv_fV1 C rfl (ct_ofEvent hE _ _ E 0 a hEv hE2 (by omega)) ml_X9_314 im_X9_ofEvent sel_X9_ofEvent ini_X9 cd_X9_ofEvent ok_X9_ofEvent rfl ⟨Nat.le_of_ble_eq_true rfl, Nat.le_of_ble_eq_true rfl⟩ ⟨Nat.zero_le _, Nat.zero_le _⟩ (by decide) rfl rfl rfl (rest := ([] : List Value)) rfl (Nat.le_of_ble_eq_true rfl) ?_
  exact bv_iret C rfl hr rfl ⟨by (rfl), by (rfl)⟩
set_option maxRecDepth 100000 in
set_option maxHeartbeats 4000000 in
theorem ct_eventValue {l : Launch} {D : va_G} {cA : FieldType → ClassId} {z0 : Nat} {SK SV : Nat → Nat} {ad : Nat → Nat} (hE : aD (fun q => z0 ≤ q) ad 9) (g : Nat → Nat → Int32) (h : Int64) (E : Nat) (a : Int32) (hEv : g 1 14 = nI E) (hE2 : E ≤ 20) : bF l D cA z0 SK SV ad shM 9 yX9_eventValue cX9_eventValue 2 (some .int) 2 [.ref 0, .int a] (layM g h) (some (.int (if ((0) ≤ a ∧ a ≤ (g 1 14) - (1)) then g 1 (112 + 3 * (E - 1 - a.toNatClampNeg) + 1) else (-100001)))) (layM g h) := by
  refine bCT_intro (tb := tb_X9_eventValue) (own := RX9) hE pn_X9 rfl tk_X9_eventValue rfl (Nat.le_of_ble_eq_true rfl) ?_
  intro p e s0 m args below meth c C hr
  refine bv_blk C frk_X9 csk_X9 3 3 rfl (L1 := ([(0, .ref 0), (1, .int a)] : Lc)) (st1 := ([.int (1), .int a, .ref 0] : List Value)) (w1 := (layM g h)) (by rfl) ?_
  refine bv_fV1 C rfl (ct_ofEvent hE _ _ E 1 a hEv hE2 (by omega)) ml_X9_314 im_X9_ofEvent sel_X9_ofEvent ini_X9 cd_X9_ofEvent ok_X9_ofEvent rfl ⟨Nat.le_of_ble_eq_true rfl, Nat.le_of_ble_eq_true rfl⟩ ⟨Nat.zero_le _, Nat.zero_le _⟩ (by decide) rfl rfl rfl (rest := ([] : List Value)) rfl (Nat.le_of_ble_eq_true rfl) ?_
  exact bv_iret C rfl hr rfl ⟨by (rfl), by (rfl)⟩
set_option maxRecDepth 100000 in
set_option maxHeartbeats 4000000 in
theorem ct_eventInterval {l : Launch} {D : va_G} {cA : FieldType → ClassId} {z0 : Nat} {SK SV : Nat → Nat} {ad : Nat → Nat} (hE : aD (fun q => z0 ≤ q) ad 9) (g : Nat → Nat → Int32) (h : Int64) (E : Nat) (a : Int32) (hEv : g 1 14 = nI E) (hE2 : E ≤ 20) : bF l D cA z0 SK SV ad shM 9 yX9_eventInterval cX9_eventInterval 2 (some .int) 2 [.ref 0, .int a] (layM g h) (some (.int (if ((0) ≤ a ∧ a ≤ (g 1 14) - (1)) then g 1 (112 + 3 * (E - 1 - a.toNatClampNeg) + 2) else (-100001)))) (layM g h) := by
  refine bCT_intro (tb := tb_X9_eventInterval) (own := RX9) hE pn_X9 rfl tk_X9_eventInterval rfl (Nat.le_of_ble_eq_true rfl) ?_
  intro p e s0 m args below meth c C hr
  refine bv_blk C frk_X9 csk_X9 3 3 rfl (L1 := ([(0, .ref 0), (1, .int a)] : Lc)) (st1 := ([.int (2), .int a, .ref 0] : List Value)) (w1 := (layM g h)) (by rfl) ?_
  refine bv_fV1 C rfl (ct_ofEvent hE _ _ E 2 a hEv hE2 (by omega)) ml_X9_314 im_X9_ofEvent sel_X9_ofEvent ini_X9 cd_X9_ofEvent ok_X9_ofEvent rfl ⟨Nat.le_of_ble_eq_true rfl, Nat.le_of_ble_eq_true rfl⟩ ⟨Nat.zero_le _, Nat.zero_le _⟩ (by decide) rfl rfl rfl (rest := ([] : List Value)) rfl (Nat.le_of_ble_eq_true rfl) ?_
  exact bv_iret C rfl hr rfl ⟨by (rfl), by (rfl)⟩
set_option maxRecDepth 100000 in
set_option maxHeartbeats 4000000 in
theorem ct_areSectors_t {l : Launch} {D : va_G} {cA : FieldType → ClassId} {z0 : Nat} {SK SV : Nat → Nat} {ad : Nat → Nat} (hE : aD (fun q => z0 ≤ q) ad 9) (g : Nat → Nat → Int32) (h : Int64) (x y : Int32) (hp : (((0) ≤ x ∧ x ≤ (g 1 15) - (1)) ∧ ((0) ≤ y ∧ y ≤ (g 1 35) - (1)))) : bF l D cA z0 SK SV ad shM 9 yX9_areSectors cX9_areSectors 3 (some .boolean) 1 [.ref 0, .int x, .int y] (layM g h) (some (.int (1))) (layM g h) := by
  refine bCT_intro (tb := tb_X9_areSectors) (own := RX9) hE pn_X9 rfl tk_X9_areSectors rfl (Nat.le_of_ble_eq_true rfl) ?_
  intro p e s0 m args below meth c C hr
  refine bv_blk C frk_X9 csk_X9 6 6 rfl (L1 := ([(0, .ref 0), (1, .int x), (2, .int y)] : Lc)) (st1 := ([.int (0), .int (0), .ref 0, .long (0), .long (Int32.toInt64 x)] : List Value)) (w1 := (layM g h)) (by rfl) ?_
  refine bv_fV1 C rfl (ct_of hE _ _ 0 0 (by omega) (by omega)) ml_X9_69 im_X9_of sel_X9_of ini_X9 cd_X9_of ok_X9_of rfl ⟨Nat.le_of_ble_eq_true rfl, Nat.le_of_ble_eq_true rfl⟩ ⟨Nat.zero_le _, Nat.zero_le _⟩ (by decide) rfl rfl rfl (rest := ([.long (0), .long (Int32.toInt64 x)] : List Value)) rfl (Nat.le_of_ble_eq_true rfl) ?_
  refine bv_blk C frk_X9 csk_X9 3 10 rfl (L1 := ([(0, .ref 0), (1, .int x), (2, .int y)] : Lc)) (st1 := ([.long (Int32.toInt64 ((g 1 15) - (1))), .long (0), .long (Int32.toInt64 x)] : List Value)) (w1 := (layM g h)) (by rfl) ?_
  refine bv_fS1 C rfl (ct_in_t hE _ (x := x) (lo := (0)) (hi := ((g 1 15) - (1))) hp.1) ml_X9_65 st_X9_in ini_X9 cd_X9_in ok_X9_in rfl ⟨Nat.le_of_ble_eq_true rfl, Nat.le_of_ble_eq_true rfl⟩ ⟨Nat.zero_le _, Nat.zero_le _⟩ (rest := ([] : List Value)) rfl (Nat.le_of_ble_eq_true rfl) ?_
  refine bv_if_eq (j := 26) C rfl rfl (fun h => absurd h (by decide)) (fun _ => ?_)
  refine bv_blk C frk_X9 csk_X9 6 18 rfl (L1 := ([(0, .ref 0), (1, .int x), (2, .int y)] : Lc)) (st1 := ([.int (0), .int (1), .ref 0, .long (0), .long (Int32.toInt64 y)] : List Value)) (w1 := (layM g h)) (by rfl) ?_
  refine bv_fV1 C rfl (ct_of hE _ _ 1 0 (by omega) (by omega)) ml_X9_69 im_X9_of sel_X9_of ini_X9 cd_X9_of ok_X9_of rfl ⟨Nat.le_of_ble_eq_true rfl, Nat.le_of_ble_eq_true rfl⟩ ⟨Nat.zero_le _, Nat.zero_le _⟩ (by decide) rfl rfl rfl (rest := ([.long (0), .long (Int32.toInt64 y)] : List Value)) rfl (Nat.le_of_ble_eq_true rfl) ?_
  refine bv_blk C frk_X9 csk_X9 3 22 rfl (L1 := ([(0, .ref 0), (1, .int x), (2, .int y)] : Lc)) (st1 := ([.long (Int32.toInt64 ((g 1 35) - (1))), .long (0), .long (Int32.toInt64 y)] : List Value)) (w1 := (layM g h)) (by rfl) ?_
  refine bv_fS1 C rfl (ct_in_t hE _ (x := y) (lo := (0)) (hi := ((g 1 35) - (1))) hp.2) ml_X9_65 st_X9_in ini_X9 cd_X9_in ok_X9_in rfl ⟨Nat.le_of_ble_eq_true rfl, Nat.le_of_ble_eq_true rfl⟩ ⟨Nat.zero_le _, Nat.zero_le _⟩ (rest := ([] : List Value)) rfl (Nat.le_of_ble_eq_true rfl) ?_
  refine bv_if_eq (j := 26) C rfl rfl (fun h => absurd h (by decide)) (fun _ => ?_)
  refine bv_blk C frk_X9 csk_X9 1 25 rfl (L1 := ([(0, .ref 0), (1, .int x), (2, .int y)] : Lc)) (st1 := ([.int (1)] : List Value)) (w1 := (layM g h)) (by rfl) ?_
  refine bv_goto (j := 27) C rfl rfl ?_
  exact bv_iret C rfl hr rfl ⟨by (rfl), by (rfl)⟩
set_option maxRecDepth 100000 in
set_option maxHeartbeats 4000000 in
theorem ct_areSectors_f {l : Launch} {D : va_G} {cA : FieldType → ClassId} {z0 : Nat} {SK SV : Nat → Nat} {ad : Nat → Nat} (hE : aD (fun q => z0 ≤ q) ad 9) (g : Nat → Nat → Int32) (h : Int64) (x y : Int32) (hp : ¬ (((0) ≤ x ∧ x ≤ (g 1 15) - (1)) ∧ ((0) ≤ y ∧ y ≤ (g 1 35) - (1)))) : bF l D cA z0 SK SV ad shM 9 yX9_areSectors cX9_areSectors 3 (some .boolean) 1 [.ref 0, .int x, .int y] (layM g h) (some (.int (0))) (layM g h) := by
  refine bCT_intro (tb := tb_X9_areSectors) (own := RX9) hE pn_X9 rfl tk_X9_areSectors rfl (Nat.le_of_ble_eq_true rfl) ?_
  intro p e s0 m args below meth c C hr
  refine bv_blk C frk_X9 csk_X9 6 6 rfl (L1 := ([(0, .ref 0), (1, .int x), (2, .int y)] : Lc)) (st1 := ([.int (0), .int (0), .ref 0, .long (0), .long (Int32.toInt64 x)] : List Value)) (w1 := (layM g h)) (by rfl) ?_
  refine bv_fV1 C rfl (ct_of hE _ _ 0 0 (by omega) (by omega)) ml_X9_69 im_X9_of sel_X9_of ini_X9 cd_X9_of ok_X9_of rfl ⟨Nat.le_of_ble_eq_true rfl, Nat.le_of_ble_eq_true rfl⟩ ⟨Nat.zero_le _, Nat.zero_le _⟩ (by decide) rfl rfl rfl (rest := ([.long (0), .long (Int32.toInt64 x)] : List Value)) rfl (Nat.le_of_ble_eq_true rfl) ?_
  refine bv_blk C frk_X9 csk_X9 3 10 rfl (L1 := ([(0, .ref 0), (1, .int x), (2, .int y)] : Lc)) (st1 := ([.long (Int32.toInt64 ((g 1 15) - (1))), .long (0), .long (Int32.toInt64 x)] : List Value)) (w1 := (layM g h)) (by rfl) ?_
  by_cases c1 : ((0) ≤ x ∧ x ≤ ((g 1 15) - (1)))
  · refine bv_fS1 C rfl (ct_in_t hE _ (x := x) (lo := (0)) (hi := ((g 1 15) - (1))) c1) ml_X9_65 st_X9_in ini_X9 cd_X9_in ok_X9_in rfl ⟨Nat.le_of_ble_eq_true rfl, Nat.le_of_ble_eq_true rfl⟩ ⟨Nat.zero_le _, Nat.zero_le _⟩ (rest := ([] : List Value)) rfl (Nat.le_of_ble_eq_true rfl) ?_
    refine bv_if_eq (j := 26) C rfl rfl (fun h => absurd h (by decide)) (fun _ => ?_)
    refine bv_blk C frk_X9 csk_X9 6 18 rfl (L1 := ([(0, .ref 0), (1, .int x), (2, .int y)] : Lc)) (st1 := ([.int (0), .int (1), .ref 0, .long (0), .long (Int32.toInt64 y)] : List Value)) (w1 := (layM g h)) (by rfl) ?_
    refine bv_fV1 C rfl (ct_of hE _ _ 1 0 (by omega) (by omega)) ml_X9_69 im_X9_of sel_X9_of ini_X9 cd_X9_of ok_X9_of rfl ⟨Nat.le_of_ble_eq_true rfl, Nat.le_of_ble_eq_true rfl⟩ ⟨Nat.zero_le _, Nat.zero_le _⟩ (by decide) rfl rfl rfl (rest := ([.long (0), .long (Int32.toInt64 y)] : List Value)) rfl (Nat.le_of_ble_eq_true rfl) ?_
    refine bv_blk C frk_X9 csk_X9 3 22 rfl (L1 := ([(0, .ref 0), (1, .int x), (2, .int y)] : Lc)) (st1 := ([.long (Int32.toInt64 ((g 1 35) - (1))), .long (0), .long (Int32.toInt64 y)] : List Value)) (w1 := (layM g h)) (by rfl) ?_
    by_cases c3 : ((0) ≤ y ∧ y ≤ ((g 1 35) - (1)))
    · refine bv_fS1 C rfl (ct_in_t hE _ (x := y) (lo := (0)) (hi := ((g 1 35) - (1))) c3) ml_X9_65 st_X9_in ini_X9 cd_X9_in ok_X9_in rfl ⟨Nat.le_of_ble_eq_true rfl, Nat.le_of_ble_eq_true rfl⟩ ⟨Nat.zero_le _, Nat.zero_le _⟩ (rest := ([] : List Value)) rfl (Nat.le_of_ble_eq_true rfl) ?_
      refine bv_if_eq (j := 26) C rfl rfl (fun h => absurd h (by decide)) (fun _ => ?_)
      refine bv_blk C frk_X9 csk_X9 1 25 rfl (L1 := ([(0, .ref 0), (1, .int x), (2, .int y)] : Lc)) (st1 := ([.int (1)] : List Value)) (w1 := (layM g h)) (by rfl) ?_
      refine bv_goto (j := 27) C rfl rfl ?_
      exact bv_iret C rfl hr rfl ⟨by (exact absurd ⟨c1, c3⟩ hp), by (rfl)⟩
    · refine bv_fS1 C rfl (ct_in_f hE _ (x := y) (lo := (0)) (hi := ((g 1 35) - (1))) c3) ml_X9_65 st_X9_in ini_X9 cd_X9_in ok_X9_in rfl ⟨Nat.le_of_ble_eq_true rfl, Nat.le_of_ble_eq_true rfl⟩ ⟨Nat.zero_le _, Nat.zero_le _⟩ (rest := ([] : List Value)) rfl (Nat.le_of_ble_eq_true rfl) ?_
      refine bv_if_eq (j := 26) C rfl rfl (fun _ => ?_) (fun h => absurd h (by decide))
      refine bv_blk C frk_X9 csk_X9 1 27 rfl (L1 := ([(0, .ref 0), (1, .int x), (2, .int y)] : Lc)) (st1 := ([.int (0)] : List Value)) (w1 := (layM g h)) (by rfl) ?_
      exact bv_iret C rfl hr rfl ⟨by (rfl), by (rfl)⟩
  · refine bv_fS1 C rfl (ct_in_f hE _ (x := x) (lo := (0)) (hi := ((g 1 15) - (1))) c1) ml_X9_65 st_X9_in ini_X9 cd_X9_in ok_X9_in rfl ⟨Nat.le_of_ble_eq_true rfl, Nat.le_of_ble_eq_true rfl⟩ ⟨Nat.zero_le _, Nat.zero_le _⟩ (rest := ([] : List Value)) rfl (Nat.le_of_ble_eq_true rfl) ?_
    refine bv_if_eq (j := 26) C rfl rfl (fun _ => ?_) (fun h => absurd h (by decide))
    refine bv_blk C frk_X9 csk_X9 1 27 rfl (L1 := ([(0, .ref 0), (1, .int x), (2, .int y)] : Lc)) (st1 := ([.int (0)] : List Value)) (w1 := (layM g h)) (by rfl) ?_
    exact bv_iret C rfl hr rfl ⟨by (rfl), by (rfl)⟩
theorem ct_doesSweep {l : Launch} {D : va_G} {cA : FieldType → ClassId} {z0 : Nat} {SK SV : Nat → Nat} {ad : Nat → Nat} (hE : aD (fun q => z0 ≤ q) ad 9) (g : Nat → Nat → Int32) (h : Int64) (f n : Nat) (S : Nat → Nat) (hf : f < 2) (hs : statR g n) (hS : secK g S) (hev : evK g) : bF l D cA z0 SK SV ad shM 9 yX9_doesSweep cX9_doesSweep 3 (some .int) 10 [.ref 0, .int (nI f)] (layM g h) (some (.int (phR f n S g))) (layM (dswG f n S g) h) := by
  rcases (show f = 0 ∨ f = 1 by omega) with rfl | rfl
  · exact ct_doesSweep0 hE g h n S hs hS hev
  · exact ct_doesSweep1 hE g h n S hs hS hev
set_option maxRecDepth 100000 in
set_option maxHeartbeats 4000000 in
theorem ct_sweep {l : Launch} {D : va_G} {cA : FieldType → ClassId} {z0 : Nat} {SK SV : Nat → Nat} {ad : Nat → Nat} (hE : aD (fun q => z0 ≤ q) ad 9) (g : Nat → Nat → Int32) (h : Int64) (n : Nat) (S : Nat → Nat) (a : Int32) (hg : goodR g n S) (hv : svK g) : bF l D cA z0 SK SV ad shM 9 yX9_sweep cX9_sweep 2 (some .int) 11 [.ref 0, .int a] (layM g h) (some (.int (if (((0) ≤ a ∧ a ≤ (1))) then phR a.toNatClampNeg n S (svG g) else (-100001)))) (layM (if (((0) ≤ a ∧ a ≤ (1))) then dswG a.toNatClampNeg n S (svG g) else g) h) := by
  refine bCT_intro (tb := tb_X9_sweep) (own := RX9) hE pn_X9 rfl tk_X9_sweep rfl (Nat.le_of_ble_eq_true rfl) ?_
  intro p e s0 m args below meth c C hr
  refine bv_blk C frk_X9 csk_X9 1 1 rfl (L1 := ([(0, .ref 0), (1, .int a)] : Lc)) (st1 := ([.int a] : List Value)) (w1 := (layM g h)) (by rfl) ?_
  by_cases c1 : ((0) ≤ a ∧ a ≤ (1))
  · obtain ⟨s1, hs1, rfl⟩ := stat_of c1
    refine bv_fS1 C rfl (ct_isStation_t hE _ (nI s1) (stat_in hs1)) ml_X9_130 st_X9_isStation ini_X9 cd_X9_isStation ok_X9_isStation rfl ⟨Nat.le_of_ble_eq_true rfl, Nat.le_of_ble_eq_true rfl⟩ ⟨Nat.zero_le _, Nat.zero_le _⟩ (rest := ([] : List Value)) rfl (Nat.le_of_ble_eq_true rfl) ?_
    refine bv_if_ne (j := 5) C rfl rfl (fun _ => ?_) (fun h => absurd h (by decide))
    refine bv_blk C frk_X9 csk_X9 1 6 rfl (L1 := ([(0, .ref 0), (1, .int (nI s1))] : Lc)) (st1 := ([.ref 0] : List Value)) (w1 := (layM g h)) (by rfl) ?_
    refine bv_fV0 C rfl (ct_savesA hE g _ hv) ml_X9_134 im_X9_saves sel_X9_saves ini_X9 cd_X9_saves ok_X9_saves rfl ⟨Nat.le_of_ble_eq_true rfl, Nat.le_of_ble_eq_true rfl⟩ ⟨Nat.zero_le _, Nat.zero_le _⟩ (by decide) rfl rfl rfl (rest := ([] : List Value)) rfl (Nat.le_of_ble_eq_true rfl) ?_
    obtain ⟨v1, ev1⟩ : ∃ x : Nat → Nat → Int32, x = (svG g) := ⟨_, rfl⟩
    have kp_v1 : kept g v1 := by rw [ev1]; exact (kp_sv (kp_rf _))
    refine bv_weq (show (layM (svG g) h) = (layM v1 h) from by rw [ev1]) ?_
    refine bv_blk C frk_X9 csk_X9 2 9 rfl (L1 := ([(0, .ref 0), (1, .int (nI s1))] : Lc)) (st1 := ([.int (nI s1), .ref 0] : List Value)) (w1 := (layM v1 h)) (by rfl) ?_
    refine bv_fV1 C rfl (ct_doesSweep hE v1 _ s1 n S (by omega) (show goodR v1 n S from by rw [ev1]; exact gd_sv hg).1 (show goodR v1 n S from by rw [ev1]; exact gd_sv hg).2.1 (show goodR v1 n S from by rw [ev1]; exact gd_sv hg).2.2.1) ml_X9_137 im_X9_doesSweep sel_X9_doesSweep ini_X9 cd_X9_doesSweep ok_X9_doesSweep rfl ⟨Nat.le_of_ble_eq_true rfl, Nat.le_of_ble_eq_true rfl⟩ ⟨Nat.zero_le _, Nat.zero_le _⟩ (by decide) rfl rfl rfl (rest := ([] : List Value)) rfl (Nat.le_of_ble_eq_true rfl) ?_
    exact bv_iret C rfl hr rfl ⟨by (subst ev1; simp only [ug_same, nI_clamp (show s1 < 2 ^ 31 by omega), c1, and_self, eq_self, or_true, true_or, not_true, not_false_iff, if_true, if_false, ↓reduceIte]), by (subst ev1; simp only [ug_same, nI_clamp (show s1 < 2 ^ 31 by omega), c1, and_self, eq_self, or_true, true_or, not_true, not_false_iff, if_true, if_false, ↓reduceIte])⟩
  · refine bv_fS1 C rfl (ct_isStation_f hE _ a c1) ml_X9_130 st_X9_isStation ini_X9 cd_X9_isStation ok_X9_isStation rfl ⟨Nat.le_of_ble_eq_true rfl, Nat.le_of_ble_eq_true rfl⟩ ⟨Nat.zero_le _, Nat.zero_le _⟩ (rest := ([] : List Value)) rfl (Nat.le_of_ble_eq_true rfl) ?_
    refine bv_if_ne (j := 5) C rfl rfl (fun h => absurd h (by decide)) (fun _ => ?_)
    refine bv_blk C frk_X9 csk_X9 1 4 rfl (L1 := ([(0, .ref 0), (1, .int a)] : Lc)) (st1 := ([.int (-100001)] : List Value)) (w1 := (layM g h)) (by rfl) ?_
    exact bv_iret C rfl hr rfl ⟨by (simp only [ug_same, c1, and_self, eq_self, or_true, true_or, not_true, not_false_iff, if_true, if_false, ↓reduceIte]), by (simp only [ug_same, c1, and_self, eq_self, or_true, true_or, not_true, not_false_iff, if_true, if_false, ↓reduceIte])⟩
