theorem stat_of {x : Int32} (h : 0 ≤ x ∧ x ≤ 1) : ∃ s : Nat, s < 2 ∧ x = nI s := by
  obtain ⟨j, h1, h2⟩ := nI_of2 (M := 1) (n := 1) rfl (by rw [Int32.not_lt]; exact h.1) h.2
  exact ⟨j, by omega, h2⟩
theorem path_of {x y : Int32} {n : Nat} (hy : y = nI n) (hn : n < 2 ^ 30) (h : 0 ≤ x ∧ x ≤ y - 1) : ∃ s : Nat, s < n ∧ x = nI s := by
  obtain ⟨j, h1, h2⟩ := nI_of (x := x) (by rw [Int32.not_lt]; exact h.1)
  refine ⟨j, ?_, h2⟩
  have h3 := h.2
  rw [hy, h2, Int32.le_iff_toInt_le, nI_toInt h1, show (1 : Int32) = nI 1 from rfl, pk_sub_toInt hn (by omega)] at h3
  omega
def svG (g : Nat → Nat → Int32) : Nat → Nat → Int32 := if g 0 1 = 6 then cpyG (shG g 6) 0 1032 172 else cpyG (ug g 0 1 (g 0 1 + 1)) 0 (172 * ((g 0 1).toNatClampNeg + 1)) 172
def svK (g : Nat → Nat → Int32) : Prop := ∃ n : Nat, g 0 1 = nI n ∧ n ≤ 6
theorem sv_at {g : Nat → Nat → Int32} (k : Nat) (h : k < 172) : svG g 1 k = g 1 k := by
  unfold svG
  split
  · unfold cpyG
    rw [if_neg (by omega)]
    unfold shG
    rw [if_neg (by omega)]
  · unfold cpyG
    rw [if_neg (by omega), ug_ne (by omega)]
theorem kp_sv {g g0 : Nat → Nat → Int32} (h : kept g0 g) : kept g0 (svG g) := kp_tr h (fun k hk => sv_at k (by unfold stK at hk; omega))
theorem ct_savesA {l : Launch} {D : va_G} {cA : FieldType → ClassId} {z0 : Nat} {SK SV : Nat → Nat} {ad : Nat → Nat} (hE : aD (fun q => z0 ≤ q) ad 9) (g : Nat → Nat → Int32) (h : Int64) (hv : svK g) : bF l D cA z0 SK SV ad shM 9 yX9_saves cX9_saves 2 none 1 [.ref 0] (layM g h) none (layM (svG g) h) := by
  obtain ⟨n, h1, h2⟩ := hv
  unfold svG
  by_cases h3 : g 0 1 = 6
  · rw [if_pos h3]
    exact ct_saves6 hE g h h3
  · rw [if_neg h3, h1, nI_clamp (by omega), nI_1]
    refine ct_saves hE g h n h1 ?_
    rcases Nat.lt_or_ge n 6 with h4 | h4
    · exact h4
    · exact absurd (by rw [h1, show n = 6 by omega]; rfl) h3
set_option maxRecDepth 100000 in
set_option maxHeartbeats 4000000 in
theorem ct_isStation_t {l : Launch} {D : va_G} {cA : FieldType → ClassId} {z0 : Nat} {SK SV : Nat → Nat} {ad : Nat → Nat} {sh : Sh} {N : Nat} (hE : aD (fun q => z0 ≤ q) ad N) (w : Wd) (x : Int32) (hp : ((0) ≤ x ∧ x ≤ (1))) : bF l D cA z0 SK SV ad sh N yX9_isStation cX9_isStation 1 (some .boolean) 1 [.int x] w (some (.int (1))) w := by
  refine bCT_intro (tb := tb_X9_isStation) (own := RX9) hE pn_X9 rfl tk_X9_isStation rfl (Nat.le_of_ble_eq_true rfl) ?_
  intro p e s0 m args below meth c C hr
  refine bv_blk C frk_X9 csk_X9 4 4 rfl (L1 := ([(0, .int x)] : Lc)) (st1 := ([.long (1), .long (0), .long (Int32.toInt64 x)] : List Value)) (w1 := w) (by rfl) ?_
  refine bv_fS1 C rfl (ct_in_t hE _ (x := x) (lo := (0)) (hi := (1)) hp) ml_X9_65 st_X9_in ini_X9 cd_X9_in ok_X9_in rfl ⟨Nat.le_of_ble_eq_true rfl, Nat.le_of_ble_eq_true rfl⟩ ⟨Nat.zero_le _, Nat.zero_le _⟩ (rest := ([] : List Value)) rfl (Nat.le_of_ble_eq_true rfl) ?_
  exact bv_iret C rfl hr rfl ⟨by (rfl), by (rfl)⟩
set_option maxRecDepth 100000 in
set_option maxHeartbeats 4000000 in
theorem ct_isPath_t {l : Launch} {D : va_G} {cA : FieldType → ClassId} {z0 : Nat} {SK SV : Nat → Nat} {ad : Nat → Nat} (hE : aD (fun q => z0 ≤ q) ad 9) (g : Nat → Nat → Int32) (h : Int64) (x : Int32) (hp : ((0) ≤ x ∧ x ≤ (g 1 12) - (1))) : bF l D cA z0 SK SV ad shM 9 yX9_isPath cX9_isPath 2 (some .boolean) 1 [.ref 0, .int x] (layM g h) (some (.int (1))) (layM g h) := by
  refine bCT_intro (tb := tb_X9_isPath) (own := RX9) hE pn_X9 rfl tk_X9_isPath rfl (Nat.le_of_ble_eq_true rfl) ?_
  intro p e s0 m args below meth c C hr
  refine bv_blk C frk_X9 csk_X9 6 6 rfl (L1 := ([(0, .ref 0), (1, .int x)] : Lc)) (st1 := ([.int (12), .ref 1, .long (0), .long (Int32.toInt64 x)] : List Value)) (w1 := (layM g h)) (by rfl) ?_
  refine bv_iald C rfl rfl (by decide) (j := 12) (by exact rfl) (by first | decide | omega) (by decide) (y := (g 1 12)) (by rfl) ?_
  refine bv_blk C frk_X9 csk_X9 3 10 rfl (L1 := ([(0, .ref 0), (1, .int x)] : Lc)) (st1 := ([.long (Int32.toInt64 ((g 1 12) - (1))), .long (0), .long (Int32.toInt64 x)] : List Value)) (w1 := (layM g h)) (by rfl) ?_
  refine bv_fS1 C rfl (ct_in_t hE _ (x := x) (lo := (0)) (hi := ((g 1 12) - (1))) hp) ml_X9_65 st_X9_in ini_X9 cd_X9_in ok_X9_in rfl ⟨Nat.le_of_ble_eq_true rfl, Nat.le_of_ble_eq_true rfl⟩ ⟨Nat.zero_le _, Nat.zero_le _⟩ (rest := ([] : List Value)) rfl (Nat.le_of_ble_eq_true rfl) ?_
  exact bv_iret C rfl hr rfl ⟨by (rfl), by (rfl)⟩
set_option maxRecDepth 100000 in
set_option maxHeartbeats 4000000 in
theorem ct_isBackup_t {l : Launch} {D : va_G} {cA : FieldType → ClassId} {z0 : Nat} {SK SV : Nat → Nat} {ad : Nat → Nat} (hE : aD (fun q => z0 ≤ q) ad 9) (g : Nat → Nat → Int32) (h : Int64) (x : Int32) (hp : ((0) ≤ x ∧ x ≤ (g 1 13) - (1))) : bF l D cA z0 SK SV ad shM 9 yX9_isBackup cX9_isBackup 2 (some .boolean) 1 [.ref 0, .int x] (layM g h) (some (.int (1))) (layM g h) := by
  refine bCT_intro (tb := tb_X9_isBackup) (own := RX9) hE pn_X9 rfl tk_X9_isBackup rfl (Nat.le_of_ble_eq_true rfl) ?_
  intro p e s0 m args below meth c C hr
  refine bv_blk C frk_X9 csk_X9 6 6 rfl (L1 := ([(0, .ref 0), (1, .int x)] : Lc)) (st1 := ([.int (13), .ref 1, .long (0), .long (Int32.toInt64 x)] : List Value)) (w1 := (layM g h)) (by rfl) ?_
  refine bv_iald C rfl rfl (by decide) (j := 13) (by exact rfl) (by first | decide | omega) (by decide) (y := (g 1 13)) (by rfl) ?_
  refine bv_blk C frk_X9 csk_X9 3 10 rfl (L1 := ([(0, .ref 0), (1, .int x)] : Lc)) (st1 := ([.long (Int32.toInt64 ((g 1 13) - (1))), .long (0), .long (Int32.toInt64 x)] : List Value)) (w1 := (layM g h)) (by rfl) ?_
  refine bv_fS1 C rfl (ct_in_t hE _ (x := x) (lo := (0)) (hi := ((g 1 13) - (1))) hp) ml_X9_65 st_X9_in ini_X9 cd_X9_in ok_X9_in rfl ⟨Nat.le_of_ble_eq_true rfl, Nat.le_of_ble_eq_true rfl⟩ ⟨Nat.zero_le _, Nat.zero_le _⟩ (rest := ([] : List Value)) rfl (Nat.le_of_ble_eq_true rfl) ?_
  exact bv_iret C rfl hr rfl ⟨by (rfl), by (rfl)⟩
set_option maxRecDepth 100000 in
set_option maxHeartbeats 4000000 in
theorem ct_hasBeam_t {l : Launch} {D : va_G} {cA : FieldType → ClassId} {z0 : Nat} {SK SV : Nat → Nat} {ad : Nat → Nat} (hE : aD (fun q => z0 ≤ q) ad 9) (g : Nat → Nat → Int32) (h : Int64) (s : Nat) (x : Int32) (hs2 : s < 2) (hp : ((0) ≤ x ∧ x ≤ ((6) * (g 1 (15 + 20 * s + 0))) - (1))) : bF l D cA z0 SK SV ad shM 9 yX9_hasBeam cX9_hasBeam 3 (some .boolean) 1 [.ref 0, .int (nI s), .int x] (layM g h) (some (.int (1))) (layM g h) := by
  refine bCT_intro (tb := tb_X9_hasBeam) (own := RX9) hE pn_X9 rfl tk_X9_hasBeam rfl (Nat.le_of_ble_eq_true rfl) ?_
  intro p e s0 m args below meth c C hr
  refine bv_blk C frk_X9 csk_X9 7 7 rfl (L1 := ([(0, .ref 0), (1, .int (nI s)), (2, .int x)] : Lc)) (st1 := ([.int (0), .int (nI s), .ref 0, .int (6), .long (0), .long (Int32.toInt64 x)] : List Value)) (w1 := (layM g h)) (by rfl) ?_
  refine bv_fV1 C rfl (ct_of hE _ _ s 0 (by omega) (by omega)) ml_X9_69 im_X9_of sel_X9_of ini_X9 cd_X9_of ok_X9_of rfl ⟨Nat.le_of_ble_eq_true rfl, Nat.le_of_ble_eq_true rfl⟩ ⟨Nat.zero_le _, Nat.zero_le _⟩ (by decide) rfl rfl rfl (rest := ([.int (6), .long (0), .long (Int32.toInt64 x)] : List Value)) rfl (Nat.le_of_ble_eq_true rfl) ?_
  refine bv_blk C frk_X9 csk_X9 4 12 rfl (L1 := ([(0, .ref 0), (1, .int (nI s)), (2, .int x)] : Lc)) (st1 := ([.long (Int32.toInt64 (((6) * (g 1 (15 + 20 * s + 0))) - (1))), .long (0), .long (Int32.toInt64 x)] : List Value)) (w1 := (layM g h)) (by rfl) ?_
  refine bv_fS1 C rfl (ct_in_t hE _ (x := x) (lo := (0)) (hi := (((6) * (g 1 (15 + 20 * s + 0))) - (1))) hp) ml_X9_65 st_X9_in ini_X9 cd_X9_in ok_X9_in rfl ⟨Nat.le_of_ble_eq_true rfl, Nat.le_of_ble_eq_true rfl⟩ ⟨Nat.zero_le _, Nat.zero_le _⟩ (rest := ([] : List Value)) rfl (Nat.le_of_ble_eq_true rfl) ?_
  exact bv_iret C rfl hr rfl ⟨by (rfl), by (rfl)⟩
set_option maxRecDepth 100000 in
set_option maxHeartbeats 4000000 in
theorem ct_isStation_f {l : Launch} {D : va_G} {cA : FieldType → ClassId} {z0 : Nat} {SK SV : Nat → Nat} {ad : Nat → Nat} {sh : Sh} {N : Nat} (hE : aD (fun q => z0 ≤ q) ad N) (w : Wd) (x : Int32) (hp : ¬ ((0) ≤ x ∧ x ≤ (1))) : bF l D cA z0 SK SV ad sh N yX9_isStation cX9_isStation 1 (some .boolean) 1 [.int x] w (some (.int (0))) w := by
  refine bCT_intro (tb := tb_X9_isStation) (own := RX9) hE pn_X9 rfl tk_X9_isStation rfl (Nat.le_of_ble_eq_true rfl) ?_
  intro p e s0 m args below meth c C hr
  refine bv_blk C frk_X9 csk_X9 4 4 rfl (L1 := ([(0, .int x)] : Lc)) (st1 := ([.long (1), .long (0), .long (Int32.toInt64 x)] : List Value)) (w1 := w) (by rfl) ?_
  refine bv_fS1 C rfl (ct_in_f hE _ (x := x) (lo := (0)) (hi := (1)) hp) ml_X9_65 st_X9_in ini_X9 cd_X9_in ok_X9_in rfl ⟨Nat.le_of_ble_eq_true rfl, Nat.le_of_ble_eq_true rfl⟩ ⟨Nat.zero_le _, Nat.zero_le _⟩ (rest := ([] : List Value)) rfl (Nat.le_of_ble_eq_true rfl) ?_
  exact bv_iret C rfl hr rfl ⟨by (rfl), by (rfl)⟩
set_option maxRecDepth 100000 in
set_option maxHeartbeats 4000000 in
theorem ct_isPath_f {l : Launch} {D : va_G} {cA : FieldType → ClassId} {z0 : Nat} {SK SV : Nat → Nat} {ad : Nat → Nat} (hE : aD (fun q => z0 ≤ q) ad 9) (g : Nat → Nat → Int32) (h : Int64) (x : Int32) (hp : ¬ ((0) ≤ x ∧ x ≤ (g 1 12) - (1))) : bF l D cA z0 SK SV ad shM 9 yX9_isPath cX9_isPath 2 (some .boolean) 1 [.ref 0, .int x] (layM g h) (some (.int (0))) (layM g h) := by
  refine bCT_intro (tb := tb_X9_isPath) (own := RX9) hE pn_X9 rfl tk_X9_isPath rfl (Nat.le_of_ble_eq_true rfl) ?_
  intro p e s0 m args below meth c C hr
  refine bv_blk C frk_X9 csk_X9 6 6 rfl (L1 := ([(0, .ref 0), (1, .int x)] : Lc)) (st1 := ([.int (12), .ref 1, .long (0), .long (Int32.toInt64 x)] : List Value)) (w1 := (layM g h)) (by rfl) ?_
  refine bv_iald C rfl rfl (by decide) (j := 12) (by exact rfl) (by first | decide | omega) (by decide) (y := (g 1 12)) (by rfl) ?_
  refine bv_blk C frk_X9 csk_X9 3 10 rfl (L1 := ([(0, .ref 0), (1, .int x)] : Lc)) (st1 := ([.long (Int32.toInt64 ((g 1 12) - (1))), .long (0), .long (Int32.toInt64 x)] : List Value)) (w1 := (layM g h)) (by rfl) ?_
  refine bv_fS1 C rfl (ct_in_f hE _ (x := x) (lo := (0)) (hi := ((g 1 12) - (1))) hp) ml_X9_65 st_X9_in ini_X9 cd_X9_in ok_X9_in rfl ⟨Nat.le_of_ble_eq_true rfl, Nat.le_of_ble_eq_true rfl⟩ ⟨Nat.zero_le _, Nat.zero_le _⟩ (rest := ([] : List Value)) rfl (Nat.le_of_ble_eq_true rfl) ?_
  exact bv_iret C rfl hr rfl ⟨by (rfl), by (rfl)⟩
set_option maxRecDepth 100000 in
set_option maxHeartbeats 4000000 in
theorem ct_isBackup_f {l : Launch} {D : va_G} {cA : FieldType → ClassId} {z0 : Nat} {SK SV : Nat → Nat} {ad : Nat → Nat} (hE : aD (fun q => z0 ≤ q) ad 9) (g : Nat → Nat → Int32) (h : Int64) (x : Int32) (hp : ¬ ((0) ≤ x ∧ x ≤ (g 1 13) - (1))) : bF l D cA z0 SK SV ad shM 9 yX9_isBackup cX9_isBackup 2 (some .boolean) 1 [.ref 0, .int x] (layM g h) (some (.int (0))) (layM g h) := by
  refine bCT_intro (tb := tb_X9_isBackup) (own := RX9) hE pn_X9 rfl tk_X9_isBackup rfl (Nat.le_of_ble_eq_true rfl) ?_
  intro p e s0 m args below meth c C hr
  refine bv_blk C frk_X9 csk_X9 6 6 rfl (L1 := ([(0, .ref 0), (1, .int x)] : Lc)) (st1 := ([.int (13), .ref 1, .long (0), .long (Int32.toInt64 x)] : List Value)) (w1 := (layM g h)) (by rfl) ?_
  refine bv_iald C rfl rfl (by decide) (j := 13) (by exact rfl) (by first | decide | omega) (by decide) (y := (g 1 13)) (by rfl) ?_
  refine bv_blk C frk_X9 csk_X9 3 10 rfl (L1 := ([(0, .ref 0), (1, .int x)] : Lc)) (st1 := ([.long (Int32.toInt64 ((g 1 13) - (1))), .long (0), .long (Int32.toInt64 x)] : List Value)) (w1 := (layM g h)) (by rfl) ?_
  refine bv_fS1 C rfl (ct_in_f hE _ (x := x) (lo := (0)) (hi := ((g 1 13) - (1))) hp) ml_X9_65 st_X9_in ini_X9 cd_X9_in ok_X9_in rfl ⟨Nat.le_of_ble_eq_true rfl, Nat.le_of_ble_eq_true rfl⟩ ⟨Nat.zero_le _, Nat.zero_le _⟩ (rest := ([] : List Value)) rfl (Nat.le_of_ble_eq_true rfl) ?_
  exact bv_iret C rfl hr rfl ⟨by (rfl), by (rfl)⟩
set_option maxRecDepth 100000 in
set_option maxHeartbeats 4000000 in
theorem ct_hasBeam_f {l : Launch} {D : va_G} {cA : FieldType → ClassId} {z0 : Nat} {SK SV : Nat → Nat} {ad : Nat → Nat} (hE : aD (fun q => z0 ≤ q) ad 9) (g : Nat → Nat → Int32) (h : Int64) (s : Nat) (x : Int32) (hs2 : s < 2) (hp : ¬ ((0) ≤ x ∧ x ≤ ((6) * (g 1 (15 + 20 * s + 0))) - (1))) : bF l D cA z0 SK SV ad shM 9 yX9_hasBeam cX9_hasBeam 3 (some .boolean) 1 [.ref 0, .int (nI s), .int x] (layM g h) (some (.int (0))) (layM g h) := by
  refine bCT_intro (tb := tb_X9_hasBeam) (own := RX9) hE pn_X9 rfl tk_X9_hasBeam rfl (Nat.le_of_ble_eq_true rfl) ?_
  intro p e s0 m args below meth c C hr
  refine bv_blk C frk_X9 csk_X9 7 7 rfl (L1 := ([(0, .ref 0), (1, .int (nI s)), (2, .int x)] : Lc)) (st1 := ([.int (0), .int (nI s), .ref 0, .int (6), .long (0), .long (Int32.toInt64 x)] : List Value)) (w1 := (layM g h)) (by rfl) ?_
  refine bv_fV1 C rfl (ct_of hE _ _ s 0 (by omega) (by omega)) ml_X9_69 im_X9_of sel_X9_of ini_X9 cd_X9_of ok_X9_of rfl ⟨Nat.le_of_ble_eq_true rfl, Nat.le_of_ble_eq_true rfl⟩ ⟨Nat.zero_le _, Nat.zero_le _⟩ (by decide) rfl rfl rfl (rest := ([.int (6), .long (0), .long (Int32.toInt64 x)] : List Value)) rfl (Nat.le_of_ble_eq_true rfl) ?_
  refine bv_blk C frk_X9 csk_X9 4 12 rfl (L1 := ([(0, .ref 0), (1, .int (nI s)), (2, .int x)] : Lc)) (st1 := ([.long (Int32.toInt64 (((6) * (g 1 (15 + 20 * s + 0))) - (1))), .long (0), .long (Int32.toInt64 x)] : List Value)) (w1 := (layM g h)) (by rfl) ?_
  refine bv_fS1 C rfl (ct_in_f hE _ (x := x) (lo := (0)) (hi := (((6) * (g 1 (15 + 20 * s + 0))) - (1))) hp) ml_X9_65 st_X9_in ini_X9 cd_X9_in ok_X9_in rfl ⟨Nat.le_of_ble_eq_true rfl, Nat.le_of_ble_eq_true rfl⟩ ⟨Nat.zero_le _, Nat.zero_le _⟩ (rest := ([] : List Value)) rfl (Nat.le_of_ble_eq_true rfl) ?_
  exact bv_iret C rfl hr rfl ⟨by (rfl), by (rfl)⟩
theorem stat_in {s : Nat} (h : s < 2) : ((0 : Int32) ≤ nI s ∧ nI s ≤ 1) := ⟨nI_leI (a := 0) (by omega) (by omega) |>.mpr (by omega), nI_leI (b := 1) (by omega) (by omega) |>.mpr (by omega)⟩
set_option maxRecDepth 100000 in
set_option maxHeartbeats 4000000 in
theorem ct_isUp {l : Launch} {D : va_G} {cA : FieldType → ClassId} {z0 : Nat} {SK SV : Nat → Nat} {ad : Nat → Nat} (hE : aD (fun q => z0 ≤ q) ad 9) (g : Nat → Nat → Int32) (h : Int64)  : bF l D cA z0 SK SV ad shM 9 yX9_isUp cX9_isUp 1 (some .int) 0 [.ref 0] (layM g h) (some (.int (g 1 0))) (layM g h) := by
  refine bCT_intro (tb := tb_X9_isUp) (own := RX9) hE pn_X9 rfl tk_X9_isUp rfl (Nat.le_of_ble_eq_true rfl) ?_
  intro p e s0 m args below meth c C hr
  refine bv_blk C frk_X9 csk_X9 3 3 rfl (L1 := ([(0, .ref 0)] : Lc)) (st1 := ([.int (0), .ref 1] : List Value)) (w1 := (layM g h)) (by rfl) ?_
  refine bv_iald C rfl rfl (by decide) (j := 0) (by exact rfl) (by first | decide | omega) (by decide) (y := (g 1 0)) (by rfl) ?_
  exact bv_iret C rfl hr rfl ⟨by (rfl), by (rfl)⟩
set_option maxRecDepth 100000 in
set_option maxHeartbeats 4000000 in
theorem ct_failures {l : Launch} {D : va_G} {cA : FieldType → ClassId} {z0 : Nat} {SK SV : Nat → Nat} {ad : Nat → Nat} (hE : aD (fun q => z0 ≤ q) ad 9) (g : Nat → Nat → Int32) (h : Int64)  : bF l D cA z0 SK SV ad shM 9 yX9_failures cX9_failures 1 (some .int) 0 [.ref 0] (layM g h) (some (.int (g 1 1))) (layM g h) := by
  refine bCT_intro (tb := tb_X9_failures) (own := RX9) hE pn_X9 rfl tk_X9_failures rfl (Nat.le_of_ble_eq_true rfl) ?_
  intro p e s0 m args below meth c C hr
  refine bv_blk C frk_X9 csk_X9 3 3 rfl (L1 := ([(0, .ref 0)] : Lc)) (st1 := ([.int (1), .ref 1] : List Value)) (w1 := (layM g h)) (by rfl) ?_
  refine bv_iald C rfl rfl (by decide) (j := 1) (by exact rfl) (by first | decide | omega) (by decide) (y := (g 1 1)) (by rfl) ?_
  exact bv_iret C rfl hr rfl ⟨by (rfl), by (rfl)⟩
set_option maxRecDepth 100000 in
set_option maxHeartbeats 4000000 in
theorem ct_interval {l : Launch} {D : va_G} {cA : FieldType → ClassId} {z0 : Nat} {SK SV : Nat → Nat} {ad : Nat → Nat} (hE : aD (fun q => z0 ≤ q) ad 9) (g : Nat → Nat → Int32) (h : Int64)  : bF l D cA z0 SK SV ad shM 9 yX9_interval cX9_interval 1 (some .int) 0 [.ref 0] (layM g h) (some (.int (g 1 2))) (layM g h) := by
  refine bCT_intro (tb := tb_X9_interval) (own := RX9) hE pn_X9 rfl tk_X9_interval rfl (Nat.le_of_ble_eq_true rfl) ?_
  intro p e s0 m args below meth c C hr
  refine bv_blk C frk_X9 csk_X9 3 3 rfl (L1 := ([(0, .ref 0)] : Lc)) (st1 := ([.int (2), .ref 1] : List Value)) (w1 := (layM g h)) (by rfl) ?_
  refine bv_iald C rfl rfl (by decide) (j := 2) (by exact rfl) (by first | decide | omega) (by decide) (y := (g 1 2)) (by rfl) ?_
  exact bv_iret C rfl hr rfl ⟨by (rfl), by (rfl)⟩
set_option maxRecDepth 100000 in
set_option maxHeartbeats 4000000 in
theorem ct_frames {l : Launch} {D : va_G} {cA : FieldType → ClassId} {z0 : Nat} {SK SV : Nat → Nat} {ad : Nat → Nat} (hE : aD (fun q => z0 ≤ q) ad 9) (g : Nat → Nat → Int32) (h : Int64)  : bF l D cA z0 SK SV ad shM 9 yX9_frames cX9_frames 1 (some .int) 0 [.ref 0] (layM g h) (some (.int (g 1 3))) (layM g h) := by
  refine bCT_intro (tb := tb_X9_frames) (own := RX9) hE pn_X9 rfl tk_X9_frames rfl (Nat.le_of_ble_eq_true rfl) ?_
  intro p e s0 m args below meth c C hr
  refine bv_blk C frk_X9 csk_X9 3 3 rfl (L1 := ([(0, .ref 0)] : Lc)) (st1 := ([.int (3), .ref 1] : List Value)) (w1 := (layM g h)) (by rfl) ?_
  refine bv_iald C rfl rfl (by decide) (j := 3) (by exact rfl) (by first | decide | omega) (by decide) (y := (g 1 3)) (by rfl) ?_
  exact bv_iret C rfl hr rfl ⟨by (rfl), by (rfl)⟩
set_option maxRecDepth 100000 in
set_option maxHeartbeats 4000000 in
theorem ct_time {l : Launch} {D : va_G} {cA : FieldType → ClassId} {z0 : Nat} {SK SV : Nat → Nat} {ad : Nat → Nat} (hE : aD (fun q => z0 ≤ q) ad 9) (g : Nat → Nat → Int32) (h : Int64)  : bF l D cA z0 SK SV ad shM 9 yX9_time cX9_time 1 (some .int) 0 [.ref 0] (layM g h) (some (.int (g 1 4))) (layM g h) := by
  refine bCT_intro (tb := tb_X9_time) (own := RX9) hE pn_X9 rfl tk_X9_time rfl (Nat.le_of_ble_eq_true rfl) ?_
  intro p e s0 m args below meth c C hr
  refine bv_blk C frk_X9 csk_X9 3 3 rfl (L1 := ([(0, .ref 0)] : Lc)) (st1 := ([.int (4), .ref 1] : List Value)) (w1 := (layM g h)) (by rfl) ?_
  refine bv_iald C rfl rfl (by decide) (j := 4) (by exact rfl) (by first | decide | omega) (by decide) (y := (g 1 4)) (by rfl) ?_
  exact bv_iret C rfl hr rfl ⟨by (rfl), by (rfl)⟩
set_option maxRecDepth 100000 in
set_option maxHeartbeats 4000000 in
theorem ct_pathCount {l : Launch} {D : va_G} {cA : FieldType → ClassId} {z0 : Nat} {SK SV : Nat → Nat} {ad : Nat → Nat} (hE : aD (fun q => z0 ≤ q) ad 9) (g : Nat → Nat → Int32) (h : Int64)  : bF l D cA z0 SK SV ad shM 9 yX9_pathCount cX9_pathCount 1 (some .int) 0 [.ref 0] (layM g h) (some (.int (g 1 12))) (layM g h) := by
  refine bCT_intro (tb := tb_X9_pathCount) (own := RX9) hE pn_X9 rfl tk_X9_pathCount rfl (Nat.le_of_ble_eq_true rfl) ?_
  intro p e s0 m args below meth c C hr
  refine bv_blk C frk_X9 csk_X9 3 3 rfl (L1 := ([(0, .ref 0)] : Lc)) (st1 := ([.int (12), .ref 1] : List Value)) (w1 := (layM g h)) (by rfl) ?_
  refine bv_iald C rfl rfl (by decide) (j := 12) (by exact rfl) (by first | decide | omega) (by decide) (y := (g 1 12)) (by rfl) ?_
  exact bv_iret C rfl hr rfl ⟨by (rfl), by (rfl)⟩
set_option maxRecDepth 100000 in
set_option maxHeartbeats 4000000 in
theorem ct_backupCount {l : Launch} {D : va_G} {cA : FieldType → ClassId} {z0 : Nat} {SK SV : Nat → Nat} {ad : Nat → Nat} (hE : aD (fun q => z0 ≤ q) ad 9) (g : Nat → Nat → Int32) (h : Int64)  : bF l D cA z0 SK SV ad shM 9 yX9_backupCount cX9_backupCount 1 (some .int) 0 [.ref 0] (layM g h) (some (.int (g 1 13))) (layM g h) := by
  refine bCT_intro (tb := tb_X9_backupCount) (own := RX9) hE pn_X9 rfl tk_X9_backupCount rfl (Nat.le_of_ble_eq_true rfl) ?_
  intro p e s0 m args below meth c C hr
  refine bv_blk C frk_X9 csk_X9 3 3 rfl (L1 := ([(0, .ref 0)] : Lc)) (st1 := ([.int (13), .ref 1] : List Value)) (w1 := (layM g h)) (by rfl) ?_
  refine bv_iald C rfl rfl (by decide) (j := 13) (by exact rfl) (by first | decide | omega) (by decide) (y := (g 1 13)) (by rfl) ?_
  exact bv_iret C rfl hr rfl ⟨by (rfl), by (rfl)⟩
set_option maxRecDepth 100000 in
set_option maxHeartbeats 4000000 in
theorem ct_eventCount {l : Launch} {D : va_G} {cA : FieldType → ClassId} {z0 : Nat} {SK SV : Nat → Nat} {ad : Nat → Nat} (hE : aD (fun q => z0 ≤ q) ad 9) (g : Nat → Nat → Int32) (h : Int64)  : bF l D cA z0 SK SV ad shM 9 yX9_eventCount cX9_eventCount 1 (some .int) 0 [.ref 0] (layM g h) (some (.int (g 1 14))) (layM g h) := by
  refine bCT_intro (tb := tb_X9_eventCount) (own := RX9) hE pn_X9 rfl tk_X9_eventCount rfl (Nat.le_of_ble_eq_true rfl) ?_
  intro p e s0 m args below meth c C hr
  refine bv_blk C frk_X9 csk_X9 3 3 rfl (L1 := ([(0, .ref 0)] : Lc)) (st1 := ([.int (14), .ref 1] : List Value)) (w1 := (layM g h)) (by rfl) ?_
  refine bv_iald C rfl rfl (by decide) (j := 14) (by exact rfl) (by first | decide | omega) (by decide) (y := (g 1 14)) (by rfl) ?_
  exact bv_iret C rfl hr rfl ⟨by (rfl), by (rfl)⟩
set_option maxRecDepth 100000 in
set_option maxHeartbeats 4000000 in
theorem ct_clearText {l : Launch} {D : va_G} {cA : FieldType → ClassId} {z0 : Nat} {SK SV : Nat → Nat} {ad : Nat → Nat} (hE : aD (fun q => z0 ≤ q) ad 9) (g : Nat → Nat → Int32) (h : Int64)  : bF l D cA z0 SK SV ad shM 9 yX9_clearText cX9_clearText 2 (some .int) 0 [.ref 0] (layM g h) (some (.int (g 0 4))) (layM (ug g 0 4 (0)) h) := by
  refine bCT_intro (tb := tb_X9_clearText) (own := RX9) hE pn_X9 rfl tk_X9_clearText rfl (Nat.le_of_ble_eq_true rfl) ?_
  intro p e s0 m args below meth c C hr
  refine bv_blk C frk_X9 csk_X9 6 6 rfl (L1 := ([(1, .int (g 0 4)), (0, .ref 0)] : Lc)) (st1 := ([] : List Value)) (w1 := up2 (layM g h) 0 4 (.int (0))) (by rfl) ?_
  rw [lm_up rfl]
  refine bv_blk C frk_X9 csk_X9 1 7 rfl (L1 := ([(1, .int (g 0 4)), (0, .ref 0)] : Lc)) (st1 := ([.int (g 0 4)] : List Value)) (w1 := (layM (ug g 0 4 (0)) h)) (by rfl) ?_
  exact bv_iret C rfl hr rfl ⟨by (rfl), by (rfl)⟩
set_option maxRecDepth 100000 in
set_option maxHeartbeats 4000000 in
theorem ct_beam {l : Launch} {D : va_G} {cA : FieldType → ClassId} {z0 : Nat} {SK SV : Nat → Nat} {ad : Nat → Nat} (hE : aD (fun q => z0 ≤ q) ad 9) (g : Nat → Nat → Int32) (h : Int64) (a : Int32) : bF l D cA z0 SK SV ad shM 9 yX9_beam cX9_beam 2 (some .int) 2 [.ref 0, .int a] (layM g h) (some (.int (if (((0) ≤ a ∧ a ≤ (1))) then g 1 (15 + 20 * a.toNatClampNeg + 3) else (-100001)))) (layM g h) := by
  refine bCT_intro (tb := tb_X9_beam) (own := RX9) hE pn_X9 rfl tk_X9_beam rfl (Nat.le_of_ble_eq_true rfl) ?_
  intro p e s0 m args below meth c C hr
  refine bv_blk C frk_X9 csk_X9 1 1 rfl (L1 := ([(0, .ref 0), (1, .int a)] : Lc)) (st1 := ([.int a] : List Value)) (w1 := (layM g h)) (by rfl) ?_
  by_cases c1 : ((0) ≤ a ∧ a ≤ (1))
  · obtain ⟨s1, hs1, rfl⟩ := stat_of c1
    refine bv_fS1 C rfl (ct_isStation_t hE _ (nI s1) (stat_in hs1)) ml_X9_130 st_X9_isStation ini_X9 cd_X9_isStation ok_X9_isStation rfl ⟨Nat.le_of_ble_eq_true rfl, Nat.le_of_ble_eq_true rfl⟩ ⟨Nat.zero_le _, Nat.zero_le _⟩ (rest := ([] : List Value)) rfl (Nat.le_of_ble_eq_true rfl) ?_
    refine bv_if_eq (j := 8) C rfl rfl (fun h => absurd h (by decide)) (fun _ => ?_)
    refine bv_blk C frk_X9 csk_X9 3 6 rfl (L1 := ([(0, .ref 0), (1, .int (nI s1))] : Lc)) (st1 := ([.int (3), .int (nI s1), .ref 0] : List Value)) (w1 := (layM g h)) (by rfl) ?_
    refine bv_fV1 C rfl (ct_of hE _ _ s1 3 (by omega) (by omega)) ml_X9_69 im_X9_of sel_X9_of ini_X9 cd_X9_of ok_X9_of rfl ⟨Nat.le_of_ble_eq_true rfl, Nat.le_of_ble_eq_true rfl⟩ ⟨Nat.zero_le _, Nat.zero_le _⟩ (by decide) rfl rfl rfl (rest := ([] : List Value)) rfl (Nat.le_of_ble_eq_true rfl) ?_
    refine bv_goto (j := 9) C rfl rfl ?_
    exact bv_iret C rfl hr rfl ⟨by (simp only [c1, and_self, if_true, if_false, ↓reduceIte]; first | done | (rw [nI_clamp (by omega)])), by (rfl)⟩
  · refine bv_fS1 C rfl (ct_isStation_f hE _ a c1) ml_X9_130 st_X9_isStation ini_X9 cd_X9_isStation ok_X9_isStation rfl ⟨Nat.le_of_ble_eq_true rfl, Nat.le_of_ble_eq_true rfl⟩ ⟨Nat.zero_le _, Nat.zero_le _⟩ (rest := ([] : List Value)) rfl (Nat.le_of_ble_eq_true rfl) ?_
    refine bv_if_eq (j := 8) C rfl rfl (fun _ => ?_) (fun h => absurd h (by decide))
    refine bv_blk C frk_X9 csk_X9 1 9 rfl (L1 := ([(0, .ref 0), (1, .int a)] : Lc)) (st1 := ([.int (-100001)] : List Value)) (w1 := (layM g h)) (by rfl) ?_
    exact bv_iret C rfl hr rfl ⟨by (simp only [c1, and_self, if_true, if_false, ↓reduceIte]; first | done | (rw [nI_clamp (by omega)])), by (rfl)⟩
