set_option maxRecDepth 100000 in
set_option maxHeartbeats 8000000 in
theorem ct_note2 {l : Launch} {D : va_G} {cA : FieldType → ClassId} {z0 : Nat} {SK SV : Nat → Nat} {ad : Nat → Nat} (hE : aD (fun q => z0 ≤ q) ad 9) (g : Nat → Nat → Int32) (h : Int64) (v : Int32) : bF l D cA z0 SK SV ad shM 9 yX9_note cX9_note 2 none 0 [.ref 0, .int v] (layM g h) none (layM g (mxL h v)) := by
  refine bCT_intro (tb := tb_X9_note) (own := RX9) hE pn_X9 rfl tk_X9_note rfl (Nat.le_of_ble_eq_true rfl) ?_
  intro p e s0 m args below meth c C hr
  refine bv_blk C frk_X9 csk_X9 9 9 rfl (L1 := ([(0, .ref 0), (1, .int v)] : Lc)) (st1 := ([] : List Value)) (w1 := up2 (layM g h) 0 18 (.long (((31) * h) + (Int32.toInt64 v)))) (by rfl) ?_
  rw [lm_upL]
  exact bv_vret C rfl hr ⟨by (rfl), by (rfl)⟩
set_option maxRecDepth 100000 in
set_option maxHeartbeats 8000000 in
theorem ct_noteStation0 {l : Launch} {D : va_G} {cA : FieldType → ClassId} {z0 : Nat} {SK SV : Nat → Nat} {ad : Nat → Nat} (hE : aD (fun q => z0 ≤ q) ad 9) (g : Nat → Nat → Int32) (h : Int64) (S : Nat) (hS : g 1 35 = nI S) (hS2 : S ≤ 16) : bF l D cA z0 SK SV ad shM 9 yX9_noteStation cX9_noteStation 3 none 1 [.ref 0, .int (0)] (layM g h) none (layM g (foldX (fun k => g 1 (15 + k)) (4 + S) h)) := by
  refine bCT_intro (tb := tb_X9_noteStation) (own := RX9) hE pn_X9 rfl tk_X9_noteStation rfl (Nat.le_of_ble_eq_true rfl) ?_
  intro p e s0 m args below meth c C hr
  refine bv_blk C frk_X9 csk_X9 2 2 rfl (L1 := ([(2, .int (0)), (0, .ref 0), (1, .int (0))] : Lc)) (st1 := ([] : List Value)) (w1 := (layM g h)) (by rfl) ?_
  have lp_a : ∀ (n_a k_a : Nat), 0 ≤ k_a → k_a + n_a = (4 + S) → bV p l e (bR 1) s0 m args below meth c D cA shM (adA ad 9) 3 tb_X9_noteStation (MQ below (bQ D cA ad shM 9 (fun r w1 => r = none ∧ w1 = (layM g (foldX (fun k => g 1 (15 + k)) (4 + S) h)))) args s0 0 0 (adA ad 9)) ad 9 0 0 (layM g (foldX (fun k => g 1 (15 + k)) k_a h)) 2 ([(2, .int (nI k_a)), (0, .ref 0), (1, .int (0))] : Lc) ([] : List Value) := by
    intro n_a
    induction n_a with
    | zero =>
      intro k_a hs_a hk_a
      have hkB_a : k_a = (4 + S) := by omega
      rw [hkB_a]
      refine bv_blk C frk_X9 csk_X9 7 9 rfl (L1 := ([(2, .int (nI (4 + S))), (0, .ref 0), (1, .int (0))] : Lc)) (st1 := ([.int (0), .int ((1) - (0)), .ref 0, .int (4), .int (nI (4 + S))] : List Value)) (w1 := (layM g (foldX (fun k => g 1 (15 + k)) (4 + S) h))) (by rfl) ?_
      refine bv_fV1 C rfl (ct_of hE _ _ 1 0 (by omega) (by omega)) ml_X9_69 im_X9_of sel_X9_of ini_X9 cd_X9_of ok_X9_of rfl ⟨Nat.le_of_ble_eq_true rfl, Nat.le_of_ble_eq_true rfl⟩ ⟨Nat.zero_le _, Nat.zero_le _⟩ (by decide) rfl rfl rfl (rest := ([.int (4), .int (nI (4 + S))] : List Value)) rfl (Nat.le_of_ble_eq_true rfl) ?_
      refine bv_blk C frk_X9 csk_X9 1 11 rfl (L1 := ([(2, .int (nI (4 + S))), (0, .ref 0), (1, .int (0))] : Lc)) (st1 := ([.int ((4) + (g 1 35)), .int (nI (4 + S))] : List Value)) (w1 := (layM g (foldX (fun k => g 1 (15 + k)) (4 + S) h))) (by rfl) ?_
      refine bv_icmp_ge (j := 20) C rfl rfl (fun _ => ?_) (fun h => absurd (by rw [show ((4) + (g 1 35)) = nI (4 + S) from (nIa rfl hS)]; exact (nI_le (a := (4 + S)) (b := (4 + S)) (by omega) (by omega))) h)
      exact bv_vret C rfl hr ⟨by (rfl), by (rfl)⟩
    | succ n_a ih =>
      intro k_a hs_a hk_a
      refine bv_blk C frk_X9 csk_X9 7 9 rfl (L1 := ([(2, .int (nI k_a)), (0, .ref 0), (1, .int (0))] : Lc)) (st1 := ([.int (0), .int ((1) - (0)), .ref 0, .int (4), .int (nI k_a)] : List Value)) (w1 := (layM g (foldX (fun k => g 1 (15 + k)) k_a h))) (by rfl) ?_
      refine bv_fV1 C rfl (ct_of hE _ _ 1 0 (by omega) (by omega)) ml_X9_69 im_X9_of sel_X9_of ini_X9 cd_X9_of ok_X9_of rfl ⟨Nat.le_of_ble_eq_true rfl, Nat.le_of_ble_eq_true rfl⟩ ⟨Nat.zero_le _, Nat.zero_le _⟩ (by decide) rfl rfl rfl (rest := ([.int (4), .int (nI k_a)] : List Value)) rfl (Nat.le_of_ble_eq_true rfl) ?_
      refine bv_blk C frk_X9 csk_X9 1 11 rfl (L1 := ([(2, .int (nI k_a)), (0, .ref 0), (1, .int (0))] : Lc)) (st1 := ([.int ((4) + (g 1 35)), .int (nI k_a)] : List Value)) (w1 := (layM g (foldX (fun k => g 1 (15 + k)) k_a h))) (by rfl) ?_
      refine bv_icmp_ge (j := 20) C rfl rfl (fun h => absurd h (by rw [show ((4) + (g 1 35)) = nI (4 + S) from (nIa rfl hS)]; exact (nI_ge (a := k_a) (b := (4 + S)) (by omega) (by omega)))) (fun _ => ?_)
      refine bv_blk C frk_X9 csk_X9 4 16 rfl (L1 := ([(2, .int (nI k_a)), (0, .ref 0), (1, .int (0))] : Lc)) (st1 := ([.int (nI k_a), .int (0), .ref 0, .ref 0] : List Value)) (w1 := (layM g (foldX (fun k => g 1 (15 + k)) k_a h))) (by rfl) ?_
      refine bv_fV1 C rfl (ct_of hE _ _ 0 k_a (by omega) (by omega)) ml_X9_69 im_X9_of sel_X9_of ini_X9 cd_X9_of ok_X9_of rfl ⟨Nat.le_of_ble_eq_true rfl, Nat.le_of_ble_eq_true rfl⟩ ⟨Nat.zero_le _, Nat.zero_le _⟩ (by decide) rfl rfl rfl (rest := ([.ref 0] : List Value)) rfl (Nat.le_of_ble_eq_true rfl) ?_
      refine bv_fV0 C rfl (ct_note2 hE g (foldX (fun k => g 1 (15 + k)) k_a h) (g 1 (15 + 20 * 0 + k_a))) ml_X9_323 im_X9_note sel_X9_note ini_X9 cd_X9_note ok_X9_note rfl ⟨Nat.le_of_ble_eq_true rfl, Nat.le_of_ble_eq_true rfl⟩ ⟨Nat.zero_le _, Nat.zero_le _⟩ (by decide) rfl rfl rfl (rest := ([] : List Value)) rfl (Nat.le_of_ble_eq_true rfl) ?_
      refine bv_blk C frk_X9 csk_X9 1 19 rfl (L1 := ([(2, .int ((nI k_a) + Int32.ofInt 1)), (0, .ref 0), (1, .int (0))] : Lc)) (st1 := ([] : List Value)) (w1 := (layM g (mxL (foldX (fun k => g 1 (15 + k)) k_a h) (g 1 (15 + 20 * 0 + k_a))))) (by rfl) ?_
      rw [show ((nI k_a) + Int32.ofInt 1) = nI (k_a + 1) from (nIi rfl)]
      refine bv_goto (j := 2) C rfl rfl ?_
      refine bv_weq (show (layM g (mxL (foldX (fun k => g 1 (15 + k)) k_a h) (g 1 (15 + 20 * 0 + k_a)))) = (layM g (foldX (fun k => g 1 (15 + k)) (k_a + 1) h)) from by rfl) ?_
      refine bv_sub [0, 1, 2] (by rfl) ?_
      exact ih (k_a + 1) (by omega) (by omega)
  refine bv_weq (show (layM g h) = (layM g (foldX (fun k => g 1 (15 + k)) 0 h)) from by rfl) ?_
  refine bv_sub [0, 1, 2] (by rfl) ?_
  exact lp_a ((4 + S) - 0) 0 (Nat.le_refl _) (by omega)
set_option maxRecDepth 100000 in
set_option maxHeartbeats 8000000 in
theorem ct_noteStation1 {l : Launch} {D : va_G} {cA : FieldType → ClassId} {z0 : Nat} {SK SV : Nat → Nat} {ad : Nat → Nat} (hE : aD (fun q => z0 ≤ q) ad 9) (g : Nat → Nat → Int32) (h : Int64) (S : Nat) (hS : g 1 15 = nI S) (hS2 : S ≤ 16) : bF l D cA z0 SK SV ad shM 9 yX9_noteStation cX9_noteStation 3 none 1 [.ref 0, .int (1)] (layM g h) none (layM g (foldX (fun k => g 1 (35 + k)) (4 + S) h)) := by
  refine bCT_intro (tb := tb_X9_noteStation) (own := RX9) hE pn_X9 rfl tk_X9_noteStation rfl (Nat.le_of_ble_eq_true rfl) ?_
  intro p e s0 m args below meth c C hr
  refine bv_blk C frk_X9 csk_X9 2 2 rfl (L1 := ([(2, .int (0)), (0, .ref 0), (1, .int (1))] : Lc)) (st1 := ([] : List Value)) (w1 := (layM g h)) (by rfl) ?_
  have lp_a : ∀ (n_a k_a : Nat), 0 ≤ k_a → k_a + n_a = (4 + S) → bV p l e (bR 1) s0 m args below meth c D cA shM (adA ad 9) 3 tb_X9_noteStation (MQ below (bQ D cA ad shM 9 (fun r w1 => r = none ∧ w1 = (layM g (foldX (fun k => g 1 (35 + k)) (4 + S) h)))) args s0 0 0 (adA ad 9)) ad 9 0 0 (layM g (foldX (fun k => g 1 (35 + k)) k_a h)) 2 ([(2, .int (nI k_a)), (0, .ref 0), (1, .int (1))] : Lc) ([] : List Value) := by
    intro n_a
    induction n_a with
    | zero =>
      intro k_a hs_a hk_a
      have hkB_a : k_a = (4 + S) := by omega
      rw [hkB_a]
      refine bv_blk C frk_X9 csk_X9 7 9 rfl (L1 := ([(2, .int (nI (4 + S))), (0, .ref 0), (1, .int (1))] : Lc)) (st1 := ([.int (0), .int ((1) - (1)), .ref 0, .int (4), .int (nI (4 + S))] : List Value)) (w1 := (layM g (foldX (fun k => g 1 (35 + k)) (4 + S) h))) (by rfl) ?_
      refine bv_fV1 C rfl (ct_of hE _ _ 0 0 (by omega) (by omega)) ml_X9_69 im_X9_of sel_X9_of ini_X9 cd_X9_of ok_X9_of rfl ⟨Nat.le_of_ble_eq_true rfl, Nat.le_of_ble_eq_true rfl⟩ ⟨Nat.zero_le _, Nat.zero_le _⟩ (by decide) rfl rfl rfl (rest := ([.int (4), .int (nI (4 + S))] : List Value)) rfl (Nat.le_of_ble_eq_true rfl) ?_
      refine bv_blk C frk_X9 csk_X9 1 11 rfl (L1 := ([(2, .int (nI (4 + S))), (0, .ref 0), (1, .int (1))] : Lc)) (st1 := ([.int ((4) + (g 1 15)), .int (nI (4 + S))] : List Value)) (w1 := (layM g (foldX (fun k => g 1 (35 + k)) (4 + S) h))) (by rfl) ?_
      refine bv_icmp_ge (j := 20) C rfl rfl (fun _ => ?_) (fun h => absurd (by rw [show ((4) + (g 1 15)) = nI (4 + S) from (nIa rfl hS)]; exact (nI_le (a := (4 + S)) (b := (4 + S)) (by omega) (by omega))) h)
      exact bv_vret C rfl hr ⟨by (rfl), by (rfl)⟩
    | succ n_a ih =>
      intro k_a hs_a hk_a
      refine bv_blk C frk_X9 csk_X9 7 9 rfl (L1 := ([(2, .int (nI k_a)), (0, .ref 0), (1, .int (1))] : Lc)) (st1 := ([.int (0), .int ((1) - (1)), .ref 0, .int (4), .int (nI k_a)] : List Value)) (w1 := (layM g (foldX (fun k => g 1 (35 + k)) k_a h))) (by rfl) ?_
      refine bv_fV1 C rfl (ct_of hE _ _ 0 0 (by omega) (by omega)) ml_X9_69 im_X9_of sel_X9_of ini_X9 cd_X9_of ok_X9_of rfl ⟨Nat.le_of_ble_eq_true rfl, Nat.le_of_ble_eq_true rfl⟩ ⟨Nat.zero_le _, Nat.zero_le _⟩ (by decide) rfl rfl rfl (rest := ([.int (4), .int (nI k_a)] : List Value)) rfl (Nat.le_of_ble_eq_true rfl) ?_
      refine bv_blk C frk_X9 csk_X9 1 11 rfl (L1 := ([(2, .int (nI k_a)), (0, .ref 0), (1, .int (1))] : Lc)) (st1 := ([.int ((4) + (g 1 15)), .int (nI k_a)] : List Value)) (w1 := (layM g (foldX (fun k => g 1 (35 + k)) k_a h))) (by rfl) ?_
      refine bv_icmp_ge (j := 20) C rfl rfl (fun h => absurd h (by rw [show ((4) + (g 1 15)) = nI (4 + S) from (nIa rfl hS)]; exact (nI_ge (a := k_a) (b := (4 + S)) (by omega) (by omega)))) (fun _ => ?_)
      refine bv_blk C frk_X9 csk_X9 4 16 rfl (L1 := ([(2, .int (nI k_a)), (0, .ref 0), (1, .int (1))] : Lc)) (st1 := ([.int (nI k_a), .int (1), .ref 0, .ref 0] : List Value)) (w1 := (layM g (foldX (fun k => g 1 (35 + k)) k_a h))) (by rfl) ?_
      refine bv_fV1 C rfl (ct_of hE _ _ 1 k_a (by omega) (by omega)) ml_X9_69 im_X9_of sel_X9_of ini_X9 cd_X9_of ok_X9_of rfl ⟨Nat.le_of_ble_eq_true rfl, Nat.le_of_ble_eq_true rfl⟩ ⟨Nat.zero_le _, Nat.zero_le _⟩ (by decide) rfl rfl rfl (rest := ([.ref 0] : List Value)) rfl (Nat.le_of_ble_eq_true rfl) ?_
      refine bv_fV0 C rfl (ct_note2 hE g (foldX (fun k => g 1 (35 + k)) k_a h) (g 1 (15 + 20 * 1 + k_a))) ml_X9_323 im_X9_note sel_X9_note ini_X9 cd_X9_note ok_X9_note rfl ⟨Nat.le_of_ble_eq_true rfl, Nat.le_of_ble_eq_true rfl⟩ ⟨Nat.zero_le _, Nat.zero_le _⟩ (by decide) rfl rfl rfl (rest := ([] : List Value)) rfl (Nat.le_of_ble_eq_true rfl) ?_
      refine bv_blk C frk_X9 csk_X9 1 19 rfl (L1 := ([(2, .int ((nI k_a) + Int32.ofInt 1)), (0, .ref 0), (1, .int (1))] : Lc)) (st1 := ([] : List Value)) (w1 := (layM g (mxL (foldX (fun k => g 1 (35 + k)) k_a h) (g 1 (15 + 20 * 1 + k_a))))) (by rfl) ?_
      rw [show ((nI k_a) + Int32.ofInt 1) = nI (k_a + 1) from (nIi rfl)]
      refine bv_goto (j := 2) C rfl rfl ?_
      refine bv_weq (show (layM g (mxL (foldX (fun k => g 1 (35 + k)) k_a h) (g 1 (15 + 20 * 1 + k_a)))) = (layM g (foldX (fun k => g 1 (35 + k)) (k_a + 1) h)) from by rfl) ?_
      refine bv_sub [0, 1, 2] (by rfl) ?_
      exact ih (k_a + 1) (by omega) (by omega)
  refine bv_weq (show (layM g h) = (layM g (foldX (fun k => g 1 (35 + k)) 0 h)) from by rfl) ?_
  refine bv_sub [0, 1, 2] (by rfl) ?_
  exact lp_a ((4 + S) - 0) 0 (Nat.le_refl _) (by omega)
theorem kp_tst2 {s n : Nat} {g g0 : Nat → Nat → Int32} {b : Int32} (h : kept g0 g) : kept g0 (tstG s n g b) := by
  have h1 : kept g0 (tsA s n g b) := kp_snt h
  unfold tstG
  split
  · exact kp_ug (by omega) (kp_ug (by omega) h1)
  · exact h1
def rtI (f n : Nat) (many k near : Int32) : Nat → Nat → (Nat → Nat → Int32) → Nat → Nat → Int32
  | 0, _, g => g
  | q + 1, i, g => rtI f n many k near q (i + 1) (tstG f n g (many + 5 * arI (k + near) many + nI i))
def rtO (f n : Nat) (many k : Int32) : Nat → Nat → (Nat → Nat → Int32) → Nat → Nat → Int32
  | 0, _, g => g
  | r + 1, j, g => rtO f n many k r (j + 1) (rtI f n many k (nI j - 1) 5 0 g)
theorem rtI_0 {f n i : Nat} {many k near : Int32} {g : Nat → Nat → Int32} : rtI f n many k near 0 i g = g := rfl
theorem rtI_s {f n q i : Nat} {many k near : Int32} {g : Nat → Nat → Int32} : rtI f n many k near (q + 1) i g = rtI f n many k near q (i + 1) (tstG f n g (many + 5 * arI (k + near) many + nI i)) := rfl
theorem rtO_0 {f n j : Nat} {many k : Int32} {g : Nat → Nat → Int32} : rtO f n many k 0 j g = g := rfl
theorem rtO_nx {f n r j : Nat} {many k : Int32} {g : Nat → Nat → Int32} : rtO f n many k (r + 1) j g = rtO f n many k r (j + 1) (rtI f n many k (nI j - 1) 5 0 g) := rfl
def rtZ (f n : Nat) (g : Nat → Nat → Int32) : Nat → Nat → Int32 := tstG f n (ug g 0 6 (-100000)) (g 1 (18 + 20 * f))
def rtR (f n : Nat) (g : Nat → Nat → Int32) : Nat → Nat → Int32 := if g 1 (15 + 20 * f) = 2 then rtO f n (g 1 (15 + 20 * f)) (secI (g 1 (15 + 20 * f)) (g 1 (18 + 20 * f))) 2 0 (rtZ f n g) else rtO f n (g 1 (15 + 20 * f)) (secI (g 1 (15 + 20 * f)) (g 1 (18 + 20 * f))) 3 0 (rtZ f n g)
def rtF (f n : Nat) (g : Nat → Nat → Int32) : Nat → Nat → Int32 := if g 0 6 = -100000 then g else if hrdG g (1 - f) (b0W (1 - f) (g 1 (38 - 20 * f)) (g 1 (18 + 20 * f))) (b1W (1 - f) (g 1 (38 - 20 * f)) (g 1 (18 + 20 * f))) n = false then sntG g (1 - f) (b0W (1 - f) (g 1 (38 - 20 * f)) (g 1 (18 + 20 * f))) (b1W (1 - f) (g 1 (38 - 20 * f)) (g 1 (18 + 20 * f))) 9 n else ug (sntG g (1 - f) (b0W (1 - f) (g 1 (38 - 20 * f)) (g 1 (18 + 20 * f))) (b1W (1 - f) (g 1 (38 - 20 * f)) (g 1 (18 + 20 * f))) 9 n) 1 (18 + 20 * f) (sntG g (1 - f) (b0W (1 - f) (g 1 (38 - 20 * f)) (g 1 (18 + 20 * f))) (b1W (1 - f) (g 1 (38 - 20 * f)) (g 1 (18 + 20 * f))) 9 n 0 6)
set_option maxRecDepth 100000 in
set_option maxHeartbeats 8000000 in
theorem ct_refine0 {l : Launch} {D : va_G} {cA : FieldType → ClassId} {z0 : Nat} {SK SV : Nat → Nat} {ad : Nat → Nat} (hE : aD (fun q => z0 ≤ q) ad 9) (g : Nat → Nat → Int32) (h : Int64) (n : Nat) (hs : statR g n) (hv : svK g) : bF l D cA z0 SK SV ad shM 9 yX9_refine cX9_refine 6 (some .int) 9 [.ref 0, .int (0)] (layM g h) (some (.int (if g 1 0 = 0 then (-100003) else (rtF 0 n (rtR 0 n (svG g))) 1 18))) (layM (if g 1 0 = 0 then g else (rtF 0 n (rtR 0 n (svG g)))) h) := by
  refine bCT_intro (tb := tb_X9_refine) (own := RX9) hE pn_X9 rfl tk_X9_refine rfl (Nat.le_of_ble_eq_true rfl) ?_
  intro p e s0 m args below meth c C hr
  have hsg := hs
  refine bv_blk C frk_X9 csk_X9 1 1 rfl (L1 := ([(0, .ref 0), (1, .int (0))] : Lc)) (st1 := ([.int (0)] : List Value)) (w1 := (layM g h)) (by rfl) ?_
  refine bv_fS1 C rfl (ct_isStation_t hE _ (0) (by decide)) ml_X9_130 st_X9_isStation ini_X9 cd_X9_isStation ok_X9_isStation rfl ⟨Nat.le_of_ble_eq_true rfl, Nat.le_of_ble_eq_true rfl⟩ ⟨Nat.zero_le _, Nat.zero_le _⟩ (rest := ([] : List Value)) rfl (Nat.le_of_ble_eq_true rfl) ?_
  refine bv_if_ne (j := 5) C rfl rfl (fun _ => ?_) (fun h => absurd h (by decide))
  refine bv_blk C frk_X9 csk_X9 3 8 rfl (L1 := ([(0, .ref 0), (1, .int (0))] : Lc)) (st1 := ([.int (0), .ref 1] : List Value)) (w1 := (layM g h)) (by rfl) ?_
  refine bv_iald C rfl rfl (by decide) (j := 0) (by exact rfl) (by first | decide | omega) (by decide) (y := (g 1 0)) (by rfl) ?_
  refine bv_if_ne (j := 12) C rfl rfl (fun c2 => ?_) (fun c2 => ?_)
  · refine bv_blk C frk_X9 csk_X9 1 13 rfl (L1 := ([(0, .ref 0), (1, .int (0))] : Lc)) (st1 := ([.ref 0] : List Value)) (w1 := (layM g h)) (by rfl) ?_
    refine bv_fV0 C rfl (ct_savesA hE g _ hv) ml_X9_134 im_X9_saves sel_X9_saves ini_X9 cd_X9_saves ok_X9_saves rfl ⟨Nat.le_of_ble_eq_true rfl, Nat.le_of_ble_eq_true rfl⟩ ⟨Nat.zero_le _, Nat.zero_le _⟩ (by decide) rfl rfl rfl (rest := ([] : List Value)) rfl (Nat.le_of_ble_eq_true rfl) ?_
    obtain ⟨v1, ev1⟩ : ∃ x : Nat → Nat → Int32, x = (svG g) := ⟨_, rfl⟩
    have kp_v1 : kept g v1 := by rw [ev1]; exact (kp_sv (kp_rf _))
    refine bv_weq (show (layM (svG g) h) = (layM v1 h) from by rw [ev1]) ?_
    refine bv_blk C frk_X9 csk_X9 3 17 rfl (L1 := ([(0, .ref 0), (1, .int (0))] : Lc)) (st1 := ([.int (0), .int (0), .ref 0] : List Value)) (w1 := (layM v1 h)) (by rfl) ?_
    refine bv_fV1 C rfl (ct_of hE _ _ 0 0 (by omega) (by omega)) ml_X9_69 im_X9_of sel_X9_of ini_X9 cd_X9_of ok_X9_of rfl ⟨Nat.le_of_ble_eq_true rfl, Nat.le_of_ble_eq_true rfl⟩ ⟨Nat.zero_le _, Nat.zero_le _⟩ (by decide) rfl rfl rfl (rest := ([] : List Value)) rfl (Nat.le_of_ble_eq_true rfl) ?_
    refine bv_blk C frk_X9 csk_X9 6 24 rfl (L1 := ([(2, .int (v1 1 15)), (0, .ref 0), (1, .int (0))] : Lc)) (st1 := ([.int (3), .int (0), .ref 0, .int (0), .ref 0] : List Value)) (w1 := (layM v1 h)) (by rfl) ?_
    refine bv_fV1 C rfl (ct_of hE _ _ 0 3 (by omega) (by omega)) ml_X9_69 im_X9_of sel_X9_of ini_X9 cd_X9_of ok_X9_of rfl ⟨Nat.le_of_ble_eq_true rfl, Nat.le_of_ble_eq_true rfl⟩ ⟨Nat.zero_le _, Nat.zero_le _⟩ (by decide) rfl rfl rfl (rest := ([.int (0), .ref 0] : List Value)) rfl (Nat.le_of_ble_eq_true rfl) ?_
    refine bv_fV1 C rfl (ct_sectorOf hE _ _ 0 (v1 1 18) (by omega)) ml_X9_73 im_X9_sectorOf sel_X9_sectorOf ini_X9 cd_X9_sectorOf ok_X9_sectorOf rfl ⟨Nat.le_of_ble_eq_true rfl, Nat.le_of_ble_eq_true rfl⟩ ⟨Nat.zero_le _, Nat.zero_le _⟩ (by decide) rfl rfl rfl (rest := ([] : List Value)) rfl (Nat.le_of_ble_eq_true rfl) ?_
    refine bv_blk C frk_X9 csk_X9 4 30 rfl (L1 := ([(3, .int (secI (v1 1 15) (v1 1 18))), (2, .int (v1 1 15)), (0, .ref 0), (1, .int (0))] : Lc)) (st1 := ([] : List Value)) (w1 := up2 (layM v1 h) 0 6 (.int (-100000))) (by rfl) ?_
    rw [lm_up rfl]
    refine bv_blk C frk_X9 csk_X9 5 35 rfl (L1 := ([(3, .int (secI (v1 1 15) (v1 1 18))), (2, .int (v1 1 15)), (0, .ref 0), (1, .int (0))] : Lc)) (st1 := ([.int (3), .int (0), .ref 0, .int (0), .ref 0] : List Value)) (w1 := (layM (ug v1 0 6 (-100000)) h)) (by rfl) ?_
    refine bv_fV1 C rfl (ct_of hE _ _ 0 3 (by omega) (by omega)) ml_X9_69 im_X9_of sel_X9_of ini_X9 cd_X9_of ok_X9_of rfl ⟨Nat.le_of_ble_eq_true rfl, Nat.le_of_ble_eq_true rfl⟩ ⟨Nat.zero_le _, Nat.zero_le _⟩ (by decide) rfl rfl rfl (rest := ([.int (0), .ref 0] : List Value)) rfl (Nat.le_of_ble_eq_true rfl) ?_
    refine bv_fV0 C rfl (ct_tests0 hE (ug v1 0 6 (-100000)) _ n (v1 1 18) (st_same (kp_ug (i := 0) (k := 6) (x := (-100000)) (by omega) kp_v1) hs)) ml_X9_147 im_X9_tests sel_X9_tests ini_X9 cd_X9_tests ok_X9_tests rfl ⟨Nat.le_of_ble_eq_true rfl, Nat.le_of_ble_eq_true rfl⟩ ⟨Nat.zero_le _, Nat.zero_le _⟩ (by decide) rfl rfl rfl (rest := ([] : List Value)) rfl (Nat.le_of_ble_eq_true rfl) ?_
    refine bv_blk C frk_X9 csk_X9 2 39 rfl (L1 := ([(4, .int (-1)), (3, .int (secI (v1 1 15) (v1 1 18))), (2, .int (v1 1 15)), (0, .ref 0), (1, .int (0))] : Lc)) (st1 := ([] : List Value)) (w1 := (layM (tstG 0 n (ug v1 0 6 (-100000)) (v1 1 18)) h)) (by rfl) ?_
    by_cases c3 : v1 1 15 = 2
    · have lpO : ∀ (r j : Nat) (gg : Nat → Nat → Int32), j + r = 2 → statR gg n → rtO 0 n (v1 1 15) (secI (v1 1 15) (v1 1 18)) r j gg = rtR 0 n v1 → bV p l e (bR 9) s0 m args below meth c D cA shM (adA ad 9) 6 tb_X9_refine (MQ below (bQ D cA ad shM 9 (fun r w1 => r = (some (.int (if g 1 0 = 0 then (-100003) else (rtF 0 n (rtR 0 n (svG g))) 1 18))) ∧ w1 = (layM (if g 1 0 = 0 then g else (rtF 0 n (rtR 0 n (svG g)))) h))) args s0 0 0 (adA ad 9)) ad 9 0 0 (layM gg h) 39 ([(4, .int (nI j - 1)), (2, .int (v1 1 15)), (3, .int (secI (v1 1 15) (v1 1 18))), (0, .ref 0), (1, .int (0))] : Lc) ([] : List Value) := by
        intro r
        induction r with
        | zero =>
          intro j gg hj hs heq
          obtain rfl : j = 2 := by omega
          rw [rtO_0] at heq
          refine bv_blk C frk_X9 csk_X9 3 42 rfl (L1 := ([(4, .int (nI 2 - 1)), (2, .int (v1 1 15)), (3, .int (secI (v1 1 15) (v1 1 18))), (0, .ref 0), (1, .int (0))] : Lc)) (st1 := ([.int (2), .int (v1 1 15), .int (nI 2 - 1)] : List Value)) (w1 := (layM gg h)) (by rfl) ?_
          refine bv_icmp_ne (j := 45) C rfl rfl (fun h => absurd (c3) h) (fun _ => ?_)
          refine bv_blk C frk_X9 csk_X9 1 44 rfl (L1 := ([(4, .int (nI 2 - 1)), (2, .int (v1 1 15)), (3, .int (secI (v1 1 15) (v1 1 18))), (0, .ref 0), (1, .int (0))] : Lc)) (st1 := ([.int (0), .int (nI 2 - 1)] : List Value)) (w1 := (layM gg h)) (by rfl) ?_
          refine bv_goto (j := 46) C rfl rfl ?_
          refine bv_icmp_gt (j := 70) C rfl rfl (fun _ => ?_) (fun h => absurd h (by decide))
          refine bv_blk C frk_X9 csk_X9 3 73 rfl (L1 := ([(4, .int (nI 2 - 1)), (2, .int (v1 1 15)), (3, .int (secI (v1 1 15) (v1 1 18))), (0, .ref 0), (1, .int (0))] : Lc)) (st1 := ([.int (-100000), .int (gg 0 6)] : List Value)) (w1 := (layM gg h)) (by rfl) ?_
          refine bv_icmp_eq (j := 97) C rfl rfl (fun c6 => ?_) (fun c6 => ?_)
          · refine bv_blk C frk_X9 csk_X9 3 100 rfl (L1 := ([(4, .int (nI 2 - 1)), (2, .int (v1 1 15)), (3, .int (secI (v1 1 15) (v1 1 18))), (0, .ref 0), (1, .int (0))] : Lc)) (st1 := ([.int (3), .int (0), .ref 0] : List Value)) (w1 := (layM gg h)) (by rfl) ?_
            refine bv_fV1 C rfl (ct_of hE _ _ 0 3 (by omega) (by omega)) ml_X9_69 im_X9_of sel_X9_of ini_X9 cd_X9_of ok_X9_of rfl ⟨Nat.le_of_ble_eq_true rfl, Nat.le_of_ble_eq_true rfl⟩ ⟨Nat.zero_le _, Nat.zero_le _⟩ (by decide) rfl rfl rfl (rest := ([] : List Value)) rfl (Nat.le_of_ble_eq_true rfl) ?_
            exact bv_iret C rfl hr rfl ⟨by (exact congrArg (fun x => some (Value.int x)) ((if_neg c2).trans ((congrArg (fun X => rtF 0 n X 1 18) (show rtR 0 n (svG g) = gg from by rw [← ev1]; exact heq.symm)).trans (congrFun (congrFun (show rtF 0 n gg = _ from ((if_pos c6).trans rfl)) 1) 18))).symm), by (exact congrArg (fun x => layM x h) ((if_neg c2).trans ((congrArg (fun X => rtF 0 n X) (show rtR 0 n (svG g) = gg from by rw [← ev1]; exact heq.symm)).trans (show rtF 0 n gg = _ from ((if_pos c6).trans rfl)))).symm)⟩
          · refine bv_blk C frk_X9 csk_X9 9 83 rfl (L1 := ([(4, .int (nI 2 - 1)), (2, .int (v1 1 15)), (3, .int (secI (v1 1 15) (v1 1 18))), (0, .ref 0), (1, .int (0))] : Lc)) (st1 := ([.int (3), .int ((1) - (0)), .ref 0, .int ((1) - (0)), .ref 0] : List Value)) (w1 := (layM gg h)) (by rfl) ?_
            refine bv_fV1 C rfl (ct_of hE _ _ 1 3 (by omega) (by omega)) ml_X9_69 im_X9_of sel_X9_of ini_X9 cd_X9_of ok_X9_of rfl ⟨Nat.le_of_ble_eq_true rfl, Nat.le_of_ble_eq_true rfl⟩ ⟨Nat.zero_le _, Nat.zero_le _⟩ (by decide) rfl rfl rfl (rest := ([.int ((1) - (0)), .ref 0] : List Value)) rfl (Nat.le_of_ble_eq_true rfl) ?_
            refine bv_blk C frk_X9 csk_X9 3 87 rfl (L1 := ([(4, .int (nI 2 - 1)), (2, .int (v1 1 15)), (3, .int (secI (v1 1 15) (v1 1 18))), (0, .ref 0), (1, .int (0))] : Lc)) (st1 := ([.int (3), .int (0), .ref 0, .int (gg 1 38), .int ((1) - (0)), .ref 0] : List Value)) (w1 := (layM gg h)) (by rfl) ?_
            refine bv_fV1 C rfl (ct_of hE _ _ 0 3 (by omega) (by omega)) ml_X9_69 im_X9_of sel_X9_of ini_X9 cd_X9_of ok_X9_of rfl ⟨Nat.le_of_ble_eq_true rfl, Nat.le_of_ble_eq_true rfl⟩ ⟨Nat.zero_le _, Nat.zero_le _⟩ (by decide) rfl rfl rfl (rest := ([.int (gg 1 38), .int ((1) - (0)), .ref 0] : List Value)) rfl (Nat.le_of_ble_eq_true rfl) ?_
            refine bv_blk C frk_X9 csk_X9 1 89 rfl (L1 := ([(4, .int (nI 2 - 1)), (2, .int (v1 1 15)), (3, .int (secI (v1 1 15) (v1 1 18))), (0, .ref 0), (1, .int (0))] : Lc)) (st1 := ([.int (9), .int (gg 1 18), .int (gg 1 38), .int ((1) - (0)), .ref 0] : List Value)) (w1 := (layM gg h)) (by rfl) ?_
            refine bv_fV1 C rfl (ct_sW1 hE gg _ n (gg 1 38) (gg 1 18) (9) hs) ml_X9_113 im_X9_sendsWith sel_X9_sendsWith ini_X9 cd_X9_sendsWith ok_X9_sendsWith rfl ⟨Nat.le_of_ble_eq_true rfl, Nat.le_of_ble_eq_true rfl⟩ ⟨Nat.zero_le _, Nat.zero_le _⟩ (by decide) rfl rfl rfl (rest := ([] : List Value)) rfl (Nat.le_of_ble_eq_true rfl) ?_
            refine bv_if_eq (j := 97) C rfl rfl (fun c7 => ?_) (fun c7 => ?_)
            · refine bv_blk C frk_X9 csk_X9 3 100 rfl (L1 := ([(4, .int (nI 2 - 1)), (2, .int (v1 1 15)), (3, .int (secI (v1 1 15) (v1 1 18))), (0, .ref 0), (1, .int (0))] : Lc)) (st1 := ([.int (3), .int (0), .ref 0] : List Value)) (w1 := (layM (sntG gg 1 (gg 1 18) (gg 1 38) (9) n) h)) (by rfl) ?_
              refine bv_fV1 C rfl (ct_of hE _ _ 0 3 (by omega) (by omega)) ml_X9_69 im_X9_of sel_X9_of ini_X9 cd_X9_of ok_X9_of rfl ⟨Nat.le_of_ble_eq_true rfl, Nat.le_of_ble_eq_true rfl⟩ ⟨Nat.zero_le _, Nat.zero_le _⟩ (by decide) rfl rfl rfl (rest := ([] : List Value)) rfl (Nat.le_of_ble_eq_true rfl) ?_
              exact bv_iret C rfl hr rfl ⟨by (exact congrArg (fun x => some (Value.int x)) ((if_neg c2).trans ((congrArg (fun X => rtF 0 n X 1 18) (show rtR 0 n (svG g) = gg from by rw [← ev1]; exact heq.symm)).trans (congrFun (congrFun (show rtF 0 n gg = _ from ((if_neg c6).trans ((if_pos (b2i_0 c7)).trans rfl))) 1) 18))).symm), by (exact congrArg (fun x => layM x h) ((if_neg c2).trans ((congrArg (fun X => rtF 0 n X) (show rtR 0 n (svG g) = gg from by rw [← ev1]; exact heq.symm)).trans (show rtF 0 n gg = _ from ((if_neg c6).trans ((if_pos (b2i_0 c7)).trans rfl))))).symm)⟩
            · refine bv_blk C frk_X9 csk_X9 5 96 rfl (L1 := ([(4, .int (nI 2 - 1)), (2, .int (v1 1 15)), (3, .int (secI (v1 1 15) (v1 1 18))), (0, .ref 0), (1, .int (0))] : Lc)) (st1 := ([.int ((sntG gg 1 (gg 1 18) (gg 1 38) (9) n) 0 6), .int (3), .int (0), .ref 0] : List Value)) (w1 := (layM (sntG gg 1 (gg 1 18) (gg 1 38) (9) n) h)) (by rfl) ?_
              refine bv_fV0 C rfl (ct_sets hE _ _ 0 3 ((sntG gg 1 (gg 1 18) (gg 1 38) (9) n) 0 6) (by omega) (by omega)) ml_X9_48 im_X9_sets sel_X9_sets ini_X9 cd_X9_sets ok_X9_sets rfl ⟨Nat.le_of_ble_eq_true rfl, Nat.le_of_ble_eq_true rfl⟩ ⟨Nat.zero_le _, Nat.zero_le _⟩ (by decide) rfl rfl rfl (rest := ([] : List Value)) rfl (Nat.le_of_ble_eq_true rfl) ?_
              refine bv_blk C frk_X9 csk_X9 3 100 rfl (L1 := ([(4, .int (nI 2 - 1)), (2, .int (v1 1 15)), (3, .int (secI (v1 1 15) (v1 1 18))), (0, .ref 0), (1, .int (0))] : Lc)) (st1 := ([.int (3), .int (0), .ref 0] : List Value)) (w1 := (layM (ug (sntG gg 1 (gg 1 18) (gg 1 38) (9) n) 1 18 ((sntG gg 1 (gg 1 18) (gg 1 38) (9) n) 0 6)) h)) (by rfl) ?_
              refine bv_fV1 C rfl (ct_of hE _ _ 0 3 (by omega) (by omega)) ml_X9_69 im_X9_of sel_X9_of ini_X9 cd_X9_of ok_X9_of rfl ⟨Nat.le_of_ble_eq_true rfl, Nat.le_of_ble_eq_true rfl⟩ ⟨Nat.zero_le _, Nat.zero_le _⟩ (by decide) rfl rfl rfl (rest := ([] : List Value)) rfl (Nat.le_of_ble_eq_true rfl) ?_
              exact bv_iret C rfl hr rfl ⟨by (exact congrArg (fun x => some (Value.int x)) ((if_neg c2).trans ((congrArg (fun X => rtF 0 n X 1 18) (show rtR 0 n (svG g) = gg from by rw [← ev1]; exact heq.symm)).trans (congrFun (congrFun (show rtF 0 n gg = _ from ((if_neg c6).trans ((if_neg (fun z => absurd (z.symm.trans (b2i_1 c7)) Bool.noConfusion)).trans rfl))) 1) 18))).symm), by (exact congrArg (fun x => layM x h) ((if_neg c2).trans ((congrArg (fun X => rtF 0 n X) (show rtR 0 n (svG g) = gg from by rw [← ev1]; exact heq.symm)).trans (show rtF 0 n gg = _ from ((if_neg c6).trans ((if_neg (fun z => absurd (z.symm.trans (b2i_1 c7)) Bool.noConfusion)).trans rfl))))).symm)⟩
        | succ r ihO =>
          intro j gg hj hs heq
          rw [rtO_nx] at heq
          refine bv_blk C frk_X9 csk_X9 3 42 rfl (L1 := ([(4, .int (nI j - 1)), (2, .int (v1 1 15)), (3, .int (secI (v1 1 15) (v1 1 18))), (0, .ref 0), (1, .int (0))] : Lc)) (st1 := ([.int (2), .int (v1 1 15), .int (nI j - 1)] : List Value)) (w1 := (layM gg h)) (by rfl) ?_
          refine bv_icmp_ne (j := 45) C rfl rfl (fun h => absurd (c3) h) (fun _ => ?_)
          refine bv_blk C frk_X9 csk_X9 1 44 rfl (L1 := ([(4, .int (nI j - 1)), (2, .int (v1 1 15)), (3, .int (secI (v1 1 15) (v1 1 18))), (0, .ref 0), (1, .int (0))] : Lc)) (st1 := ([.int (0), .int (nI j - 1)] : List Value)) (w1 := (layM gg h)) (by rfl) ?_
          refine bv_goto (j := 46) C rfl rfl ?_
          refine bv_icmp_gt (j := 70) C rfl rfl (fun h => absurd h (stp0 j (by omega))) (fun _ => ?_)
          refine bv_blk C frk_X9 csk_X9 2 49 rfl (L1 := ([(5, .int (0)), (4, .int (nI j - 1)), (2, .int (v1 1 15)), (3, .int (secI (v1 1 15) (v1 1 18))), (0, .ref 0), (1, .int (0))] : Lc)) (st1 := ([] : List Value)) (w1 := (layM gg h)) (by rfl) ?_
          have lpI : ∀ (q k : Nat) (gg : Nat → Nat → Int32), k + q = 5 → statR gg n → rtO 0 n (v1 1 15) (secI (v1 1 15) (v1 1 18)) r (j + 1) (rtI 0 n (v1 1 15) (secI (v1 1 15) (v1 1 18)) (nI j - 1) q k gg) = rtR 0 n v1 → bV p l e (bR 9) s0 m args below meth c D cA shM (adA ad 9) 6 tb_X9_refine (MQ below (bQ D cA ad shM 9 (fun r w1 => r = (some (.int (if g 1 0 = 0 then (-100003) else (rtF 0 n (rtR 0 n (svG g))) 1 18))) ∧ w1 = (layM (if g 1 0 = 0 then g else (rtF 0 n (rtR 0 n (svG g)))) h))) args s0 0 0 (adA ad 9)) ad 9 0 0 (layM gg h) 49 ([(5, .int (nI k)), (4, .int (nI j - 1)), (2, .int (v1 1 15)), (3, .int (secI (v1 1 15) (v1 1 18))), (0, .ref 0), (1, .int (0))] : Lc) ([] : List Value) := by
            intro q
            induction q with
            | zero =>
              intro k gg hk hs heq
              rw [rtI_0] at heq
              refine bv_blk C frk_X9 csk_X9 2 51 rfl (L1 := ([(5, .int (nI k)), (4, .int (nI j - 1)), (2, .int (v1 1 15)), (3, .int (secI (v1 1 15) (v1 1 18))), (0, .ref 0), (1, .int (0))] : Lc)) (st1 := ([.int (5), .int (nI k)] : List Value)) (w1 := (layM gg h)) (by rfl) ?_
              refine bv_icmp_ge (j := 68) C rfl rfl (fun _ => ?_) (fun h => absurd (nI_le (a := 5) (b := k) (by omega) (by omega)) h)
              refine bv_blk C frk_X9 csk_X9 1 69 rfl (L1 := ([(4, .int ((nI j - 1) + Int32.ofInt 1)), (5, .int (nI k)), (2, .int (v1 1 15)), (3, .int (secI (v1 1 15) (v1 1 18))), (0, .ref 0), (1, .int (0))] : Lc)) (st1 := ([] : List Value)) (w1 := (layM gg h)) (by rfl) ?_
              refine bv_goto (j := 39) C rfl rfl ?_
              rw [incs j 1]
              refine bv_sub [0, 2, 3, 4, 5] (by rfl) ?_
              exact ihO (j + 1) gg (by omega) hs heq
            | succ q ihI =>
              intro k gg hk hs heq
              rw [rtI_s] at heq
              refine bv_blk C frk_X9 csk_X9 2 51 rfl (L1 := ([(5, .int (nI k)), (4, .int (nI j - 1)), (2, .int (v1 1 15)), (3, .int (secI (v1 1 15) (v1 1 18))), (0, .ref 0), (1, .int (0))] : Lc)) (st1 := ([.int (5), .int (nI k)] : List Value)) (w1 := (layM gg h)) (by rfl) ?_
              refine bv_icmp_ge (j := 68) C rfl rfl (fun h => absurd h (nI_ge (a := k) (b := 5) (by omega) (by omega))) (fun _ => ?_)
              refine bv_blk C frk_X9 csk_X9 8 60 rfl (L1 := ([(5, .int (nI k)), (4, .int (nI j - 1)), (2, .int (v1 1 15)), (3, .int (secI (v1 1 15) (v1 1 18))), (0, .ref 0), (1, .int (0))] : Lc)) (st1 := ([.int (v1 1 15), .int ((secI (v1 1 15) (v1 1 18)) + (nI j - 1)), .int (5), .int (v1 1 15), .int (0), .ref 0] : List Value)) (w1 := (layM gg h)) (by rfl) ?_
              refine bv_fS1 C rfl (ct_around hE _ ((secI (v1 1 15) (v1 1 18)) + (nI j - 1)) (v1 1 15) (st_m0 (st_same kp_v1 hsg))) ml_X9_76 st_X9_around ini_X9 cd_X9_around ok_X9_around rfl ⟨Nat.le_of_ble_eq_true rfl, Nat.le_of_ble_eq_true rfl⟩ ⟨Nat.zero_le _, Nat.zero_le _⟩ (rest := ([.int (5), .int (v1 1 15), .int (0), .ref 0] : List Value)) rfl (Nat.le_of_ble_eq_true rfl) ?_
              refine bv_blk C frk_X9 csk_X9 4 65 rfl (L1 := ([(5, .int (nI k)), (4, .int (nI j - 1)), (2, .int (v1 1 15)), (3, .int (secI (v1 1 15) (v1 1 18))), (0, .ref 0), (1, .int (0))] : Lc)) (st1 := ([.int (((v1 1 15) + ((5) * (arI ((secI (v1 1 15) (v1 1 18)) + (nI j - 1)) (v1 1 15)))) + (nI k)), .int (0), .ref 0] : List Value)) (w1 := (layM gg h)) (by rfl) ?_
              refine bv_fV0 C rfl (ct_tests0 hE gg _ n (((v1 1 15) + ((5) * (arI ((secI (v1 1 15) (v1 1 18)) + (nI j - 1)) (v1 1 15)))) + (nI k)) hs) ml_X9_147 im_X9_tests sel_X9_tests ini_X9 cd_X9_tests ok_X9_tests rfl ⟨Nat.le_of_ble_eq_true rfl, Nat.le_of_ble_eq_true rfl⟩ ⟨Nat.zero_le _, Nat.zero_le _⟩ (by decide) rfl rfl rfl (rest := ([] : List Value)) rfl (Nat.le_of_ble_eq_true rfl) ?_
              refine bv_blk C frk_X9 csk_X9 1 67 rfl (L1 := ([(5, .int ((nI k) + Int32.ofInt 1)), (4, .int (nI j - 1)), (2, .int (v1 1 15)), (3, .int (secI (v1 1 15) (v1 1 18))), (0, .ref 0), (1, .int (0))] : Lc)) (st1 := ([] : List Value)) (w1 := (layM (tstG 0 n gg (((v1 1 15) + ((5) * (arI ((secI (v1 1 15) (v1 1 18)) + (nI j - 1)) (v1 1 15)))) + (nI k))) h)) (by rfl) ?_
              rw [show ((nI k) + Int32.ofInt 1) = nI (k + 1) from (nIi rfl)]
              refine bv_goto (j := 49) C rfl rfl ?_
              refine bv_sub [0, 1, 2, 3, 4, 5] (by rfl) ?_
              exact ihI (k + 1) (tstG 0 n gg (((v1 1 15) + ((5) * (arI ((secI (v1 1 15) (v1 1 18)) + (nI j - 1)) (v1 1 15)))) + (nI k))) (by omega) (st_same (kp_tst2 (s := 0) (n := n) (b := (((v1 1 15) + ((5) * (arI ((secI (v1 1 15) (v1 1 18)) + (nI j - 1)) (v1 1 15)))) + (nI k))) (kp_rf _)) hs) heq
          refine bv_sub [0, 1, 2, 3, 4, 5] (by rfl) ?_
          exact lpI 5 0 gg (by omega) hs heq
      rw [show ((-1) : Int32) = nI 0 - 1 from by decide]
      refine bv_sub [0, 2, 1, 3, 4] (by rfl) ?_
      refine lpO 2 0 (tstG 0 n (ug v1 0 6 (-100000)) (v1 1 18)) (by omega) (st_same (kp_tst2 (s := 0) (n := n) (b := (v1 1 18)) (kp_ug (i := 0) (k := 6) (x := (-100000)) (by omega) kp_v1)) hs) ?_
      unfold rtR; exact (if_pos c3).symm
    · have lpO : ∀ (r j : Nat) (gg : Nat → Nat → Int32), j + r = 3 → statR gg n → rtO 0 n (v1 1 15) (secI (v1 1 15) (v1 1 18)) r j gg = rtR 0 n v1 → bV p l e (bR 9) s0 m args below meth c D cA shM (adA ad 9) 6 tb_X9_refine (MQ below (bQ D cA ad shM 9 (fun r w1 => r = (some (.int (if g 1 0 = 0 then (-100003) else (rtF 0 n (rtR 0 n (svG g))) 1 18))) ∧ w1 = (layM (if g 1 0 = 0 then g else (rtF 0 n (rtR 0 n (svG g)))) h))) args s0 0 0 (adA ad 9)) ad 9 0 0 (layM gg h) 39 ([(4, .int (nI j - 1)), (2, .int (v1 1 15)), (3, .int (secI (v1 1 15) (v1 1 18))), (0, .ref 0), (1, .int (0))] : Lc) ([] : List Value) := by
        intro r
        induction r with
        | zero =>
          intro j gg hj hs heq
          obtain rfl : j = 3 := by omega
          rw [rtO_0] at heq
          refine bv_blk C frk_X9 csk_X9 3 42 rfl (L1 := ([(4, .int (nI 3 - 1)), (2, .int (v1 1 15)), (3, .int (secI (v1 1 15) (v1 1 18))), (0, .ref 0), (1, .int (0))] : Lc)) (st1 := ([.int (2), .int (v1 1 15), .int (nI 3 - 1)] : List Value)) (w1 := (layM gg h)) (by rfl) ?_
          refine bv_icmp_ne (j := 45) C rfl rfl (fun _ => ?_) (fun h => absurd h (c3))
          refine bv_blk C frk_X9 csk_X9 1 46 rfl (L1 := ([(4, .int (nI 3 - 1)), (2, .int (v1 1 15)), (3, .int (secI (v1 1 15) (v1 1 18))), (0, .ref 0), (1, .int (0))] : Lc)) (st1 := ([.int (1), .int (nI 3 - 1)] : List Value)) (w1 := (layM gg h)) (by rfl) ?_
          refine bv_icmp_gt (j := 70) C rfl rfl (fun _ => ?_) (fun h => absurd h (by decide))
          refine bv_blk C frk_X9 csk_X9 3 73 rfl (L1 := ([(4, .int (nI 3 - 1)), (2, .int (v1 1 15)), (3, .int (secI (v1 1 15) (v1 1 18))), (0, .ref 0), (1, .int (0))] : Lc)) (st1 := ([.int (-100000), .int (gg 0 6)] : List Value)) (w1 := (layM gg h)) (by rfl) ?_
          refine bv_icmp_eq (j := 97) C rfl rfl (fun c14 => ?_) (fun c14 => ?_)
          · refine bv_blk C frk_X9 csk_X9 3 100 rfl (L1 := ([(4, .int (nI 3 - 1)), (2, .int (v1 1 15)), (3, .int (secI (v1 1 15) (v1 1 18))), (0, .ref 0), (1, .int (0))] : Lc)) (st1 := ([.int (3), .int (0), .ref 0] : List Value)) (w1 := (layM gg h)) (by rfl) ?_
            refine bv_fV1 C rfl (ct_of hE _ _ 0 3 (by omega) (by omega)) ml_X9_69 im_X9_of sel_X9_of ini_X9 cd_X9_of ok_X9_of rfl ⟨Nat.le_of_ble_eq_true rfl, Nat.le_of_ble_eq_true rfl⟩ ⟨Nat.zero_le _, Nat.zero_le _⟩ (by decide) rfl rfl rfl (rest := ([] : List Value)) rfl (Nat.le_of_ble_eq_true rfl) ?_
            exact bv_iret C rfl hr rfl ⟨by (exact congrArg (fun x => some (Value.int x)) ((if_neg c2).trans ((congrArg (fun X => rtF 0 n X 1 18) (show rtR 0 n (svG g) = gg from by rw [← ev1]; exact heq.symm)).trans (congrFun (congrFun (show rtF 0 n gg = _ from ((if_pos c14).trans rfl)) 1) 18))).symm), by (exact congrArg (fun x => layM x h) ((if_neg c2).trans ((congrArg (fun X => rtF 0 n X) (show rtR 0 n (svG g) = gg from by rw [← ev1]; exact heq.symm)).trans (show rtF 0 n gg = _ from ((if_pos c14).trans rfl)))).symm)⟩
          · refine bv_blk C frk_X9 csk_X9 9 83 rfl (L1 := ([(4, .int (nI 3 - 1)), (2, .int (v1 1 15)), (3, .int (secI (v1 1 15) (v1 1 18))), (0, .ref 0), (1, .int (0))] : Lc)) (st1 := ([.int (3), .int ((1) - (0)), .ref 0, .int ((1) - (0)), .ref 0] : List Value)) (w1 := (layM gg h)) (by rfl) ?_
            refine bv_fV1 C rfl (ct_of hE _ _ 1 3 (by omega) (by omega)) ml_X9_69 im_X9_of sel_X9_of ini_X9 cd_X9_of ok_X9_of rfl ⟨Nat.le_of_ble_eq_true rfl, Nat.le_of_ble_eq_true rfl⟩ ⟨Nat.zero_le _, Nat.zero_le _⟩ (by decide) rfl rfl rfl (rest := ([.int ((1) - (0)), .ref 0] : List Value)) rfl (Nat.le_of_ble_eq_true rfl) ?_
            refine bv_blk C frk_X9 csk_X9 3 87 rfl (L1 := ([(4, .int (nI 3 - 1)), (2, .int (v1 1 15)), (3, .int (secI (v1 1 15) (v1 1 18))), (0, .ref 0), (1, .int (0))] : Lc)) (st1 := ([.int (3), .int (0), .ref 0, .int (gg 1 38), .int ((1) - (0)), .ref 0] : List Value)) (w1 := (layM gg h)) (by rfl) ?_
            refine bv_fV1 C rfl (ct_of hE _ _ 0 3 (by omega) (by omega)) ml_X9_69 im_X9_of sel_X9_of ini_X9 cd_X9_of ok_X9_of rfl ⟨Nat.le_of_ble_eq_true rfl, Nat.le_of_ble_eq_true rfl⟩ ⟨Nat.zero_le _, Nat.zero_le _⟩ (by decide) rfl rfl rfl (rest := ([.int (gg 1 38), .int ((1) - (0)), .ref 0] : List Value)) rfl (Nat.le_of_ble_eq_true rfl) ?_
            refine bv_blk C frk_X9 csk_X9 1 89 rfl (L1 := ([(4, .int (nI 3 - 1)), (2, .int (v1 1 15)), (3, .int (secI (v1 1 15) (v1 1 18))), (0, .ref 0), (1, .int (0))] : Lc)) (st1 := ([.int (9), .int (gg 1 18), .int (gg 1 38), .int ((1) - (0)), .ref 0] : List Value)) (w1 := (layM gg h)) (by rfl) ?_
            refine bv_fV1 C rfl (ct_sW1 hE gg _ n (gg 1 38) (gg 1 18) (9) hs) ml_X9_113 im_X9_sendsWith sel_X9_sendsWith ini_X9 cd_X9_sendsWith ok_X9_sendsWith rfl ⟨Nat.le_of_ble_eq_true rfl, Nat.le_of_ble_eq_true rfl⟩ ⟨Nat.zero_le _, Nat.zero_le _⟩ (by decide) rfl rfl rfl (rest := ([] : List Value)) rfl (Nat.le_of_ble_eq_true rfl) ?_
            refine bv_if_eq (j := 97) C rfl rfl (fun c15 => ?_) (fun c15 => ?_)
            · refine bv_blk C frk_X9 csk_X9 3 100 rfl (L1 := ([(4, .int (nI 3 - 1)), (2, .int (v1 1 15)), (3, .int (secI (v1 1 15) (v1 1 18))), (0, .ref 0), (1, .int (0))] : Lc)) (st1 := ([.int (3), .int (0), .ref 0] : List Value)) (w1 := (layM (sntG gg 1 (gg 1 18) (gg 1 38) (9) n) h)) (by rfl) ?_
              refine bv_fV1 C rfl (ct_of hE _ _ 0 3 (by omega) (by omega)) ml_X9_69 im_X9_of sel_X9_of ini_X9 cd_X9_of ok_X9_of rfl ⟨Nat.le_of_ble_eq_true rfl, Nat.le_of_ble_eq_true rfl⟩ ⟨Nat.zero_le _, Nat.zero_le _⟩ (by decide) rfl rfl rfl (rest := ([] : List Value)) rfl (Nat.le_of_ble_eq_true rfl) ?_
              exact bv_iret C rfl hr rfl ⟨by (exact congrArg (fun x => some (Value.int x)) ((if_neg c2).trans ((congrArg (fun X => rtF 0 n X 1 18) (show rtR 0 n (svG g) = gg from by rw [← ev1]; exact heq.symm)).trans (congrFun (congrFun (show rtF 0 n gg = _ from ((if_neg c14).trans ((if_pos (b2i_0 c15)).trans rfl))) 1) 18))).symm), by (exact congrArg (fun x => layM x h) ((if_neg c2).trans ((congrArg (fun X => rtF 0 n X) (show rtR 0 n (svG g) = gg from by rw [← ev1]; exact heq.symm)).trans (show rtF 0 n gg = _ from ((if_neg c14).trans ((if_pos (b2i_0 c15)).trans rfl))))).symm)⟩
            · refine bv_blk C frk_X9 csk_X9 5 96 rfl (L1 := ([(4, .int (nI 3 - 1)), (2, .int (v1 1 15)), (3, .int (secI (v1 1 15) (v1 1 18))), (0, .ref 0), (1, .int (0))] : Lc)) (st1 := ([.int ((sntG gg 1 (gg 1 18) (gg 1 38) (9) n) 0 6), .int (3), .int (0), .ref 0] : List Value)) (w1 := (layM (sntG gg 1 (gg 1 18) (gg 1 38) (9) n) h)) (by rfl) ?_
              refine bv_fV0 C rfl (ct_sets hE _ _ 0 3 ((sntG gg 1 (gg 1 18) (gg 1 38) (9) n) 0 6) (by omega) (by omega)) ml_X9_48 im_X9_sets sel_X9_sets ini_X9 cd_X9_sets ok_X9_sets rfl ⟨Nat.le_of_ble_eq_true rfl, Nat.le_of_ble_eq_true rfl⟩ ⟨Nat.zero_le _, Nat.zero_le _⟩ (by decide) rfl rfl rfl (rest := ([] : List Value)) rfl (Nat.le_of_ble_eq_true rfl) ?_
              refine bv_blk C frk_X9 csk_X9 3 100 rfl (L1 := ([(4, .int (nI 3 - 1)), (2, .int (v1 1 15)), (3, .int (secI (v1 1 15) (v1 1 18))), (0, .ref 0), (1, .int (0))] : Lc)) (st1 := ([.int (3), .int (0), .ref 0] : List Value)) (w1 := (layM (ug (sntG gg 1 (gg 1 18) (gg 1 38) (9) n) 1 18 ((sntG gg 1 (gg 1 18) (gg 1 38) (9) n) 0 6)) h)) (by rfl) ?_
              refine bv_fV1 C rfl (ct_of hE _ _ 0 3 (by omega) (by omega)) ml_X9_69 im_X9_of sel_X9_of ini_X9 cd_X9_of ok_X9_of rfl ⟨Nat.le_of_ble_eq_true rfl, Nat.le_of_ble_eq_true rfl⟩ ⟨Nat.zero_le _, Nat.zero_le _⟩ (by decide) rfl rfl rfl (rest := ([] : List Value)) rfl (Nat.le_of_ble_eq_true rfl) ?_
              exact bv_iret C rfl hr rfl ⟨by (exact congrArg (fun x => some (Value.int x)) ((if_neg c2).trans ((congrArg (fun X => rtF 0 n X 1 18) (show rtR 0 n (svG g) = gg from by rw [← ev1]; exact heq.symm)).trans (congrFun (congrFun (show rtF 0 n gg = _ from ((if_neg c14).trans ((if_neg (fun z => absurd (z.symm.trans (b2i_1 c15)) Bool.noConfusion)).trans rfl))) 1) 18))).symm), by (exact congrArg (fun x => layM x h) ((if_neg c2).trans ((congrArg (fun X => rtF 0 n X) (show rtR 0 n (svG g) = gg from by rw [← ev1]; exact heq.symm)).trans (show rtF 0 n gg = _ from ((if_neg c14).trans ((if_neg (fun z => absurd (z.symm.trans (b2i_1 c15)) Bool.noConfusion)).trans rfl))))).symm)⟩
        | succ r ihO =>
          intro j gg hj hs heq
          rw [rtO_nx] at heq
          refine bv_blk C frk_X9 csk_X9 3 42 rfl (L1 := ([(4, .int (nI j - 1)), (2, .int (v1 1 15)), (3, .int (secI (v1 1 15) (v1 1 18))), (0, .ref 0), (1, .int (0))] : Lc)) (st1 := ([.int (2), .int (v1 1 15), .int (nI j - 1)] : List Value)) (w1 := (layM gg h)) (by rfl) ?_
          refine bv_icmp_ne (j := 45) C rfl rfl (fun _ => ?_) (fun h => absurd h (c3))
          refine bv_blk C frk_X9 csk_X9 1 46 rfl (L1 := ([(4, .int (nI j - 1)), (2, .int (v1 1 15)), (3, .int (secI (v1 1 15) (v1 1 18))), (0, .ref 0), (1, .int (0))] : Lc)) (st1 := ([.int (1), .int (nI j - 1)] : List Value)) (w1 := (layM gg h)) (by rfl) ?_
          refine bv_icmp_gt (j := 70) C rfl rfl (fun h => absurd h (stp1 j (by omega))) (fun _ => ?_)
          refine bv_blk C frk_X9 csk_X9 2 49 rfl (L1 := ([(5, .int (0)), (4, .int (nI j - 1)), (2, .int (v1 1 15)), (3, .int (secI (v1 1 15) (v1 1 18))), (0, .ref 0), (1, .int (0))] : Lc)) (st1 := ([] : List Value)) (w1 := (layM gg h)) (by rfl) ?_
          have lpI : ∀ (q k : Nat) (gg : Nat → Nat → Int32), k + q = 5 → statR gg n → rtO 0 n (v1 1 15) (secI (v1 1 15) (v1 1 18)) r (j + 1) (rtI 0 n (v1 1 15) (secI (v1 1 15) (v1 1 18)) (nI j - 1) q k gg) = rtR 0 n v1 → bV p l e (bR 9) s0 m args below meth c D cA shM (adA ad 9) 6 tb_X9_refine (MQ below (bQ D cA ad shM 9 (fun r w1 => r = (some (.int (if g 1 0 = 0 then (-100003) else (rtF 0 n (rtR 0 n (svG g))) 1 18))) ∧ w1 = (layM (if g 1 0 = 0 then g else (rtF 0 n (rtR 0 n (svG g)))) h))) args s0 0 0 (adA ad 9)) ad 9 0 0 (layM gg h) 49 ([(5, .int (nI k)), (4, .int (nI j - 1)), (2, .int (v1 1 15)), (3, .int (secI (v1 1 15) (v1 1 18))), (0, .ref 0), (1, .int (0))] : Lc) ([] : List Value) := by
            intro q
            induction q with
            | zero =>
              intro k gg hk hs heq
              rw [rtI_0] at heq
              refine bv_blk C frk_X9 csk_X9 2 51 rfl (L1 := ([(5, .int (nI k)), (4, .int (nI j - 1)), (2, .int (v1 1 15)), (3, .int (secI (v1 1 15) (v1 1 18))), (0, .ref 0), (1, .int (0))] : Lc)) (st1 := ([.int (5), .int (nI k)] : List Value)) (w1 := (layM gg h)) (by rfl) ?_
              refine bv_icmp_ge (j := 68) C rfl rfl (fun _ => ?_) (fun h => absurd (nI_le (a := 5) (b := k) (by omega) (by omega)) h)
              refine bv_blk C frk_X9 csk_X9 1 69 rfl (L1 := ([(4, .int ((nI j - 1) + Int32.ofInt 1)), (5, .int (nI k)), (2, .int (v1 1 15)), (3, .int (secI (v1 1 15) (v1 1 18))), (0, .ref 0), (1, .int (0))] : Lc)) (st1 := ([] : List Value)) (w1 := (layM gg h)) (by rfl) ?_
              refine bv_goto (j := 39) C rfl rfl ?_
              rw [incs j 1]
              refine bv_sub [0, 2, 3, 4, 5] (by rfl) ?_
              exact ihO (j + 1) gg (by omega) hs heq
            | succ q ihI =>
              intro k gg hk hs heq
              rw [rtI_s] at heq
              refine bv_blk C frk_X9 csk_X9 2 51 rfl (L1 := ([(5, .int (nI k)), (4, .int (nI j - 1)), (2, .int (v1 1 15)), (3, .int (secI (v1 1 15) (v1 1 18))), (0, .ref 0), (1, .int (0))] : Lc)) (st1 := ([.int (5), .int (nI k)] : List Value)) (w1 := (layM gg h)) (by rfl) ?_
              refine bv_icmp_ge (j := 68) C rfl rfl (fun h => absurd h (nI_ge (a := k) (b := 5) (by omega) (by omega))) (fun _ => ?_)
              refine bv_blk C frk_X9 csk_X9 8 60 rfl (L1 := ([(5, .int (nI k)), (4, .int (nI j - 1)), (2, .int (v1 1 15)), (3, .int (secI (v1 1 15) (v1 1 18))), (0, .ref 0), (1, .int (0))] : Lc)) (st1 := ([.int (v1 1 15), .int ((secI (v1 1 15) (v1 1 18)) + (nI j - 1)), .int (5), .int (v1 1 15), .int (0), .ref 0] : List Value)) (w1 := (layM gg h)) (by rfl) ?_
              refine bv_fS1 C rfl (ct_around hE _ ((secI (v1 1 15) (v1 1 18)) + (nI j - 1)) (v1 1 15) (st_m0 (st_same kp_v1 hsg))) ml_X9_76 st_X9_around ini_X9 cd_X9_around ok_X9_around rfl ⟨Nat.le_of_ble_eq_true rfl, Nat.le_of_ble_eq_true rfl⟩ ⟨Nat.zero_le _, Nat.zero_le _⟩ (rest := ([.int (5), .int (v1 1 15), .int (0), .ref 0] : List Value)) rfl (Nat.le_of_ble_eq_true rfl) ?_
              refine bv_blk C frk_X9 csk_X9 4 65 rfl (L1 := ([(5, .int (nI k)), (4, .int (nI j - 1)), (2, .int (v1 1 15)), (3, .int (secI (v1 1 15) (v1 1 18))), (0, .ref 0), (1, .int (0))] : Lc)) (st1 := ([.int (((v1 1 15) + ((5) * (arI ((secI (v1 1 15) (v1 1 18)) + (nI j - 1)) (v1 1 15)))) + (nI k)), .int (0), .ref 0] : List Value)) (w1 := (layM gg h)) (by rfl) ?_
              refine bv_fV0 C rfl (ct_tests0 hE gg _ n (((v1 1 15) + ((5) * (arI ((secI (v1 1 15) (v1 1 18)) + (nI j - 1)) (v1 1 15)))) + (nI k)) hs) ml_X9_147 im_X9_tests sel_X9_tests ini_X9 cd_X9_tests ok_X9_tests rfl ⟨Nat.le_of_ble_eq_true rfl, Nat.le_of_ble_eq_true rfl⟩ ⟨Nat.zero_le _, Nat.zero_le _⟩ (by decide) rfl rfl rfl (rest := ([] : List Value)) rfl (Nat.le_of_ble_eq_true rfl) ?_
              refine bv_blk C frk_X9 csk_X9 1 67 rfl (L1 := ([(5, .int ((nI k) + Int32.ofInt 1)), (4, .int (nI j - 1)), (2, .int (v1 1 15)), (3, .int (secI (v1 1 15) (v1 1 18))), (0, .ref 0), (1, .int (0))] : Lc)) (st1 := ([] : List Value)) (w1 := (layM (tstG 0 n gg (((v1 1 15) + ((5) * (arI ((secI (v1 1 15) (v1 1 18)) + (nI j - 1)) (v1 1 15)))) + (nI k))) h)) (by rfl) ?_
              rw [show ((nI k) + Int32.ofInt 1) = nI (k + 1) from (nIi rfl)]
              refine bv_goto (j := 49) C rfl rfl ?_
              refine bv_sub [0, 1, 2, 3, 4, 5] (by rfl) ?_
              exact ihI (k + 1) (tstG 0 n gg (((v1 1 15) + ((5) * (arI ((secI (v1 1 15) (v1 1 18)) + (nI j - 1)) (v1 1 15)))) + (nI k))) (by omega) (st_same (kp_tst2 (s := 0) (n := n) (b := (((v1 1 15) + ((5) * (arI ((secI (v1 1 15) (v1 1 18)) + (nI j - 1)) (v1 1 15)))) + (nI k))) (kp_rf _)) hs) heq
          refine bv_sub [0, 1, 2, 3, 4, 5] (by rfl) ?_
          exact lpI 5 0 gg (by omega) hs heq
      rw [show ((-1) : Int32) = nI 0 - 1 from by decide]
      refine bv_sub [0, 2, 1, 3, 4] (by rfl) ?_
      refine lpO 3 0 (tstG 0 n (ug v1 0 6 (-100000)) (v1 1 18)) (by omega) (st_same (kp_tst2 (s := 0) (n := n) (b := (v1 1 18)) (kp_ug (i := 0) (k := 6) (x := (-100000)) (by omega) kp_v1)) hs) ?_
      unfold rtR; exact (if_neg c3).symm
  · refine bv_blk C frk_X9 csk_X9 1 11 rfl (L1 := ([(0, .ref 0), (1, .int (0))] : Lc)) (st1 := ([.int (-100003)] : List Value)) (w1 := (layM g h)) (by rfl) ?_
    exact bv_iret C rfl hr rfl ⟨by (rw [if_pos c2]), by (rw [if_pos c2])⟩
set_option maxRecDepth 100000 in
set_option maxHeartbeats 8000000 in
theorem ct_refine1 {l : Launch} {D : va_G} {cA : FieldType → ClassId} {z0 : Nat} {SK SV : Nat → Nat} {ad : Nat → Nat} (hE : aD (fun q => z0 ≤ q) ad 9) (g : Nat → Nat → Int32) (h : Int64) (n : Nat) (hs : statR g n) (hv : svK g) : bF l D cA z0 SK SV ad shM 9 yX9_refine cX9_refine 6 (some .int) 9 [.ref 0, .int (1)] (layM g h) (some (.int (if g 1 0 = 0 then (-100003) else (rtF 1 n (rtR 1 n (svG g))) 1 38))) (layM (if g 1 0 = 0 then g else (rtF 1 n (rtR 1 n (svG g)))) h) := by
  refine bCT_intro (tb := tb_X9_refine) (own := RX9) hE pn_X9 rfl tk_X9_refine rfl (Nat.le_of_ble_eq_true rfl) ?_
  intro p e s0 m args below meth c C hr
  have hsg := hs
  refine bv_blk C frk_X9 csk_X9 1 1 rfl (L1 := ([(0, .ref 0), (1, .int (1))] : Lc)) (st1 := ([.int (1)] : List Value)) (w1 := (layM g h)) (by rfl) ?_
  refine bv_fS1 C rfl (ct_isStation_t hE _ (1) (by decide)) ml_X9_130 st_X9_isStation ini_X9 cd_X9_isStation ok_X9_isStation rfl ⟨Nat.le_of_ble_eq_true rfl, Nat.le_of_ble_eq_true rfl⟩ ⟨Nat.zero_le _, Nat.zero_le _⟩ (rest := ([] : List Value)) rfl (Nat.le_of_ble_eq_true rfl) ?_
  refine bv_if_ne (j := 5) C rfl rfl (fun _ => ?_) (fun h => absurd h (by decide))
  refine bv_blk C frk_X9 csk_X9 3 8 rfl (L1 := ([(0, .ref 0), (1, .int (1))] : Lc)) (st1 := ([.int (0), .ref 1] : List Value)) (w1 := (layM g h)) (by rfl) ?_
  refine bv_iald C rfl rfl (by decide) (j := 0) (by exact rfl) (by first | decide | omega) (by decide) (y := (g 1 0)) (by rfl) ?_
  refine bv_if_ne (j := 12) C rfl rfl (fun c2 => ?_) (fun c2 => ?_)
  · refine bv_blk C frk_X9 csk_X9 1 13 rfl (L1 := ([(0, .ref 0), (1, .int (1))] : Lc)) (st1 := ([.ref 0] : List Value)) (w1 := (layM g h)) (by rfl) ?_
    refine bv_fV0 C rfl (ct_savesA hE g _ hv) ml_X9_134 im_X9_saves sel_X9_saves ini_X9 cd_X9_saves ok_X9_saves rfl ⟨Nat.le_of_ble_eq_true rfl, Nat.le_of_ble_eq_true rfl⟩ ⟨Nat.zero_le _, Nat.zero_le _⟩ (by decide) rfl rfl rfl (rest := ([] : List Value)) rfl (Nat.le_of_ble_eq_true rfl) ?_
    obtain ⟨v1, ev1⟩ : ∃ x : Nat → Nat → Int32, x = (svG g) := ⟨_, rfl⟩
    have kp_v1 : kept g v1 := by rw [ev1]; exact (kp_sv (kp_rf _))
    refine bv_weq (show (layM (svG g) h) = (layM v1 h) from by rw [ev1]) ?_
    refine bv_blk C frk_X9 csk_X9 3 17 rfl (L1 := ([(0, .ref 0), (1, .int (1))] : Lc)) (st1 := ([.int (0), .int (1), .ref 0] : List Value)) (w1 := (layM v1 h)) (by rfl) ?_
    refine bv_fV1 C rfl (ct_of hE _ _ 1 0 (by omega) (by omega)) ml_X9_69 im_X9_of sel_X9_of ini_X9 cd_X9_of ok_X9_of rfl ⟨Nat.le_of_ble_eq_true rfl, Nat.le_of_ble_eq_true rfl⟩ ⟨Nat.zero_le _, Nat.zero_le _⟩ (by decide) rfl rfl rfl (rest := ([] : List Value)) rfl (Nat.le_of_ble_eq_true rfl) ?_
    refine bv_blk C frk_X9 csk_X9 6 24 rfl (L1 := ([(2, .int (v1 1 35)), (0, .ref 0), (1, .int (1))] : Lc)) (st1 := ([.int (3), .int (1), .ref 0, .int (1), .ref 0] : List Value)) (w1 := (layM v1 h)) (by rfl) ?_
    refine bv_fV1 C rfl (ct_of hE _ _ 1 3 (by omega) (by omega)) ml_X9_69 im_X9_of sel_X9_of ini_X9 cd_X9_of ok_X9_of rfl ⟨Nat.le_of_ble_eq_true rfl, Nat.le_of_ble_eq_true rfl⟩ ⟨Nat.zero_le _, Nat.zero_le _⟩ (by decide) rfl rfl rfl (rest := ([.int (1), .ref 0] : List Value)) rfl (Nat.le_of_ble_eq_true rfl) ?_
    refine bv_fV1 C rfl (ct_sectorOf hE _ _ 1 (v1 1 38) (by omega)) ml_X9_73 im_X9_sectorOf sel_X9_sectorOf ini_X9 cd_X9_sectorOf ok_X9_sectorOf rfl ⟨Nat.le_of_ble_eq_true rfl, Nat.le_of_ble_eq_true rfl⟩ ⟨Nat.zero_le _, Nat.zero_le _⟩ (by decide) rfl rfl rfl (rest := ([] : List Value)) rfl (Nat.le_of_ble_eq_true rfl) ?_
    refine bv_blk C frk_X9 csk_X9 4 30 rfl (L1 := ([(3, .int (secI (v1 1 35) (v1 1 38))), (2, .int (v1 1 35)), (0, .ref 0), (1, .int (1))] : Lc)) (st1 := ([] : List Value)) (w1 := up2 (layM v1 h) 0 6 (.int (-100000))) (by rfl) ?_
    rw [lm_up rfl]
    refine bv_blk C frk_X9 csk_X9 5 35 rfl (L1 := ([(3, .int (secI (v1 1 35) (v1 1 38))), (2, .int (v1 1 35)), (0, .ref 0), (1, .int (1))] : Lc)) (st1 := ([.int (3), .int (1), .ref 0, .int (1), .ref 0] : List Value)) (w1 := (layM (ug v1 0 6 (-100000)) h)) (by rfl) ?_
    refine bv_fV1 C rfl (ct_of hE _ _ 1 3 (by omega) (by omega)) ml_X9_69 im_X9_of sel_X9_of ini_X9 cd_X9_of ok_X9_of rfl ⟨Nat.le_of_ble_eq_true rfl, Nat.le_of_ble_eq_true rfl⟩ ⟨Nat.zero_le _, Nat.zero_le _⟩ (by decide) rfl rfl rfl (rest := ([.int (1), .ref 0] : List Value)) rfl (Nat.le_of_ble_eq_true rfl) ?_
    refine bv_fV0 C rfl (ct_tests1 hE (ug v1 0 6 (-100000)) _ n (v1 1 38) (st_same (kp_ug (i := 0) (k := 6) (x := (-100000)) (by omega) kp_v1) hs)) ml_X9_147 im_X9_tests sel_X9_tests ini_X9 cd_X9_tests ok_X9_tests rfl ⟨Nat.le_of_ble_eq_true rfl, Nat.le_of_ble_eq_true rfl⟩ ⟨Nat.zero_le _, Nat.zero_le _⟩ (by decide) rfl rfl rfl (rest := ([] : List Value)) rfl (Nat.le_of_ble_eq_true rfl) ?_
    refine bv_blk C frk_X9 csk_X9 2 39 rfl (L1 := ([(4, .int (-1)), (3, .int (secI (v1 1 35) (v1 1 38))), (2, .int (v1 1 35)), (0, .ref 0), (1, .int (1))] : Lc)) (st1 := ([] : List Value)) (w1 := (layM (tstG 1 n (ug v1 0 6 (-100000)) (v1 1 38)) h)) (by rfl) ?_
    by_cases c3 : v1 1 35 = 2
    · have lpO : ∀ (r j : Nat) (gg : Nat → Nat → Int32), j + r = 2 → statR gg n → rtO 1 n (v1 1 35) (secI (v1 1 35) (v1 1 38)) r j gg = rtR 1 n v1 → bV p l e (bR 9) s0 m args below meth c D cA shM (adA ad 9) 6 tb_X9_refine (MQ below (bQ D cA ad shM 9 (fun r w1 => r = (some (.int (if g 1 0 = 0 then (-100003) else (rtF 1 n (rtR 1 n (svG g))) 1 38))) ∧ w1 = (layM (if g 1 0 = 0 then g else (rtF 1 n (rtR 1 n (svG g)))) h))) args s0 0 0 (adA ad 9)) ad 9 0 0 (layM gg h) 39 ([(4, .int (nI j - 1)), (2, .int (v1 1 35)), (3, .int (secI (v1 1 35) (v1 1 38))), (0, .ref 0), (1, .int (1))] : Lc) ([] : List Value) := by
        intro r
        induction r with
        | zero =>
          intro j gg hj hs heq
          obtain rfl : j = 2 := by omega
          rw [rtO_0] at heq
          refine bv_blk C frk_X9 csk_X9 3 42 rfl (L1 := ([(4, .int (nI 2 - 1)), (2, .int (v1 1 35)), (3, .int (secI (v1 1 35) (v1 1 38))), (0, .ref 0), (1, .int (1))] : Lc)) (st1 := ([.int (2), .int (v1 1 35), .int (nI 2 - 1)] : List Value)) (w1 := (layM gg h)) (by rfl) ?_
          refine bv_icmp_ne (j := 45) C rfl rfl (fun h => absurd (c3) h) (fun _ => ?_)
          refine bv_blk C frk_X9 csk_X9 1 44 rfl (L1 := ([(4, .int (nI 2 - 1)), (2, .int (v1 1 35)), (3, .int (secI (v1 1 35) (v1 1 38))), (0, .ref 0), (1, .int (1))] : Lc)) (st1 := ([.int (0), .int (nI 2 - 1)] : List Value)) (w1 := (layM gg h)) (by rfl) ?_
          refine bv_goto (j := 46) C rfl rfl ?_
          refine bv_icmp_gt (j := 70) C rfl rfl (fun _ => ?_) (fun h => absurd h (by decide))
          refine bv_blk C frk_X9 csk_X9 3 73 rfl (L1 := ([(4, .int (nI 2 - 1)), (2, .int (v1 1 35)), (3, .int (secI (v1 1 35) (v1 1 38))), (0, .ref 0), (1, .int (1))] : Lc)) (st1 := ([.int (-100000), .int (gg 0 6)] : List Value)) (w1 := (layM gg h)) (by rfl) ?_
          refine bv_icmp_eq (j := 97) C rfl rfl (fun c6 => ?_) (fun c6 => ?_)
          · refine bv_blk C frk_X9 csk_X9 3 100 rfl (L1 := ([(4, .int (nI 2 - 1)), (2, .int (v1 1 35)), (3, .int (secI (v1 1 35) (v1 1 38))), (0, .ref 0), (1, .int (1))] : Lc)) (st1 := ([.int (3), .int (1), .ref 0] : List Value)) (w1 := (layM gg h)) (by rfl) ?_
            refine bv_fV1 C rfl (ct_of hE _ _ 1 3 (by omega) (by omega)) ml_X9_69 im_X9_of sel_X9_of ini_X9 cd_X9_of ok_X9_of rfl ⟨Nat.le_of_ble_eq_true rfl, Nat.le_of_ble_eq_true rfl⟩ ⟨Nat.zero_le _, Nat.zero_le _⟩ (by decide) rfl rfl rfl (rest := ([] : List Value)) rfl (Nat.le_of_ble_eq_true rfl) ?_
            exact bv_iret C rfl hr rfl ⟨by (exact congrArg (fun x => some (Value.int x)) ((if_neg c2).trans ((congrArg (fun X => rtF 1 n X 1 38) (show rtR 1 n (svG g) = gg from by rw [← ev1]; exact heq.symm)).trans (congrFun (congrFun (show rtF 1 n gg = _ from ((if_pos c6).trans rfl)) 1) 38))).symm), by (exact congrArg (fun x => layM x h) ((if_neg c2).trans ((congrArg (fun X => rtF 1 n X) (show rtR 1 n (svG g) = gg from by rw [← ev1]; exact heq.symm)).trans (show rtF 1 n gg = _ from ((if_pos c6).trans rfl)))).symm)⟩
          · refine bv_blk C frk_X9 csk_X9 9 83 rfl (L1 := ([(4, .int (nI 2 - 1)), (2, .int (v1 1 35)), (3, .int (secI (v1 1 35) (v1 1 38))), (0, .ref 0), (1, .int (1))] : Lc)) (st1 := ([.int (3), .int ((1) - (1)), .ref 0, .int ((1) - (1)), .ref 0] : List Value)) (w1 := (layM gg h)) (by rfl) ?_
            refine bv_fV1 C rfl (ct_of hE _ _ 0 3 (by omega) (by omega)) ml_X9_69 im_X9_of sel_X9_of ini_X9 cd_X9_of ok_X9_of rfl ⟨Nat.le_of_ble_eq_true rfl, Nat.le_of_ble_eq_true rfl⟩ ⟨Nat.zero_le _, Nat.zero_le _⟩ (by decide) rfl rfl rfl (rest := ([.int ((1) - (1)), .ref 0] : List Value)) rfl (Nat.le_of_ble_eq_true rfl) ?_
            refine bv_blk C frk_X9 csk_X9 3 87 rfl (L1 := ([(4, .int (nI 2 - 1)), (2, .int (v1 1 35)), (3, .int (secI (v1 1 35) (v1 1 38))), (0, .ref 0), (1, .int (1))] : Lc)) (st1 := ([.int (3), .int (1), .ref 0, .int (gg 1 18), .int ((1) - (1)), .ref 0] : List Value)) (w1 := (layM gg h)) (by rfl) ?_
            refine bv_fV1 C rfl (ct_of hE _ _ 1 3 (by omega) (by omega)) ml_X9_69 im_X9_of sel_X9_of ini_X9 cd_X9_of ok_X9_of rfl ⟨Nat.le_of_ble_eq_true rfl, Nat.le_of_ble_eq_true rfl⟩ ⟨Nat.zero_le _, Nat.zero_le _⟩ (by decide) rfl rfl rfl (rest := ([.int (gg 1 18), .int ((1) - (1)), .ref 0] : List Value)) rfl (Nat.le_of_ble_eq_true rfl) ?_
            refine bv_blk C frk_X9 csk_X9 1 89 rfl (L1 := ([(4, .int (nI 2 - 1)), (2, .int (v1 1 35)), (3, .int (secI (v1 1 35) (v1 1 38))), (0, .ref 0), (1, .int (1))] : Lc)) (st1 := ([.int (9), .int (gg 1 38), .int (gg 1 18), .int ((1) - (1)), .ref 0] : List Value)) (w1 := (layM gg h)) (by rfl) ?_
            refine bv_fV1 C rfl (ct_sW0 hE gg _ n (gg 1 18) (gg 1 38) (9) hs) ml_X9_113 im_X9_sendsWith sel_X9_sendsWith ini_X9 cd_X9_sendsWith ok_X9_sendsWith rfl ⟨Nat.le_of_ble_eq_true rfl, Nat.le_of_ble_eq_true rfl⟩ ⟨Nat.zero_le _, Nat.zero_le _⟩ (by decide) rfl rfl rfl (rest := ([] : List Value)) rfl (Nat.le_of_ble_eq_true rfl) ?_
            refine bv_if_eq (j := 97) C rfl rfl (fun c7 => ?_) (fun c7 => ?_)
            · refine bv_blk C frk_X9 csk_X9 3 100 rfl (L1 := ([(4, .int (nI 2 - 1)), (2, .int (v1 1 35)), (3, .int (secI (v1 1 35) (v1 1 38))), (0, .ref 0), (1, .int (1))] : Lc)) (st1 := ([.int (3), .int (1), .ref 0] : List Value)) (w1 := (layM (sntG gg 0 (gg 1 18) (gg 1 38) (9) n) h)) (by rfl) ?_
              refine bv_fV1 C rfl (ct_of hE _ _ 1 3 (by omega) (by omega)) ml_X9_69 im_X9_of sel_X9_of ini_X9 cd_X9_of ok_X9_of rfl ⟨Nat.le_of_ble_eq_true rfl, Nat.le_of_ble_eq_true rfl⟩ ⟨Nat.zero_le _, Nat.zero_le _⟩ (by decide) rfl rfl rfl (rest := ([] : List Value)) rfl (Nat.le_of_ble_eq_true rfl) ?_
              exact bv_iret C rfl hr rfl ⟨by (exact congrArg (fun x => some (Value.int x)) ((if_neg c2).trans ((congrArg (fun X => rtF 1 n X 1 38) (show rtR 1 n (svG g) = gg from by rw [← ev1]; exact heq.symm)).trans (congrFun (congrFun (show rtF 1 n gg = _ from ((if_neg c6).trans ((if_pos (b2i_0 c7)).trans rfl))) 1) 38))).symm), by (exact congrArg (fun x => layM x h) ((if_neg c2).trans ((congrArg (fun X => rtF 1 n X) (show rtR 1 n (svG g) = gg from by rw [← ev1]; exact heq.symm)).trans (show rtF 1 n gg = _ from ((if_neg c6).trans ((if_pos (b2i_0 c7)).trans rfl))))).symm)⟩
            · refine bv_blk C frk_X9 csk_X9 5 96 rfl (L1 := ([(4, .int (nI 2 - 1)), (2, .int (v1 1 35)), (3, .int (secI (v1 1 35) (v1 1 38))), (0, .ref 0), (1, .int (1))] : Lc)) (st1 := ([.int ((sntG gg 0 (gg 1 18) (gg 1 38) (9) n) 0 6), .int (3), .int (1), .ref 0] : List Value)) (w1 := (layM (sntG gg 0 (gg 1 18) (gg 1 38) (9) n) h)) (by rfl) ?_
              refine bv_fV0 C rfl (ct_sets hE _ _ 1 3 ((sntG gg 0 (gg 1 18) (gg 1 38) (9) n) 0 6) (by omega) (by omega)) ml_X9_48 im_X9_sets sel_X9_sets ini_X9 cd_X9_sets ok_X9_sets rfl ⟨Nat.le_of_ble_eq_true rfl, Nat.le_of_ble_eq_true rfl⟩ ⟨Nat.zero_le _, Nat.zero_le _⟩ (by decide) rfl rfl rfl (rest := ([] : List Value)) rfl (Nat.le_of_ble_eq_true rfl) ?_
              refine bv_blk C frk_X9 csk_X9 3 100 rfl (L1 := ([(4, .int (nI 2 - 1)), (2, .int (v1 1 35)), (3, .int (secI (v1 1 35) (v1 1 38))), (0, .ref 0), (1, .int (1))] : Lc)) (st1 := ([.int (3), .int (1), .ref 0] : List Value)) (w1 := (layM (ug (sntG gg 0 (gg 1 18) (gg 1 38) (9) n) 1 38 ((sntG gg 0 (gg 1 18) (gg 1 38) (9) n) 0 6)) h)) (by rfl) ?_
              refine bv_fV1 C rfl (ct_of hE _ _ 1 3 (by omega) (by omega)) ml_X9_69 im_X9_of sel_X9_of ini_X9 cd_X9_of ok_X9_of rfl ⟨Nat.le_of_ble_eq_true rfl, Nat.le_of_ble_eq_true rfl⟩ ⟨Nat.zero_le _, Nat.zero_le _⟩ (by decide) rfl rfl rfl (rest := ([] : List Value)) rfl (Nat.le_of_ble_eq_true rfl) ?_
              exact bv_iret C rfl hr rfl ⟨by (exact congrArg (fun x => some (Value.int x)) ((if_neg c2).trans ((congrArg (fun X => rtF 1 n X 1 38) (show rtR 1 n (svG g) = gg from by rw [← ev1]; exact heq.symm)).trans (congrFun (congrFun (show rtF 1 n gg = _ from ((if_neg c6).trans ((if_neg (fun z => absurd (z.symm.trans (b2i_1 c7)) Bool.noConfusion)).trans rfl))) 1) 38))).symm), by (exact congrArg (fun x => layM x h) ((if_neg c2).trans ((congrArg (fun X => rtF 1 n X) (show rtR 1 n (svG g) = gg from by rw [← ev1]; exact heq.symm)).trans (show rtF 1 n gg = _ from ((if_neg c6).trans ((if_neg (fun z => absurd (z.symm.trans (b2i_1 c7)) Bool.noConfusion)).trans rfl))))).symm)⟩
        | succ r ihO =>
          intro j gg hj hs heq
          rw [rtO_nx] at heq
          refine bv_blk C frk_X9 csk_X9 3 42 rfl (L1 := ([(4, .int (nI j - 1)), (2, .int (v1 1 35)), (3, .int (secI (v1 1 35) (v1 1 38))), (0, .ref 0), (1, .int (1))] : Lc)) (st1 := ([.int (2), .int (v1 1 35), .int (nI j - 1)] : List Value)) (w1 := (layM gg h)) (by rfl) ?_
          refine bv_icmp_ne (j := 45) C rfl rfl (fun h => absurd (c3) h) (fun _ => ?_)
          refine bv_blk C frk_X9 csk_X9 1 44 rfl (L1 := ([(4, .int (nI j - 1)), (2, .int (v1 1 35)), (3, .int (secI (v1 1 35) (v1 1 38))), (0, .ref 0), (1, .int (1))] : Lc)) (st1 := ([.int (0), .int (nI j - 1)] : List Value)) (w1 := (layM gg h)) (by rfl) ?_
          refine bv_goto (j := 46) C rfl rfl ?_
          refine bv_icmp_gt (j := 70) C rfl rfl (fun h => absurd h (stp0 j (by omega))) (fun _ => ?_)
          refine bv_blk C frk_X9 csk_X9 2 49 rfl (L1 := ([(5, .int (0)), (4, .int (nI j - 1)), (2, .int (v1 1 35)), (3, .int (secI (v1 1 35) (v1 1 38))), (0, .ref 0), (1, .int (1))] : Lc)) (st1 := ([] : List Value)) (w1 := (layM gg h)) (by rfl) ?_
          have lpI : ∀ (q k : Nat) (gg : Nat → Nat → Int32), k + q = 5 → statR gg n → rtO 1 n (v1 1 35) (secI (v1 1 35) (v1 1 38)) r (j + 1) (rtI 1 n (v1 1 35) (secI (v1 1 35) (v1 1 38)) (nI j - 1) q k gg) = rtR 1 n v1 → bV p l e (bR 9) s0 m args below meth c D cA shM (adA ad 9) 6 tb_X9_refine (MQ below (bQ D cA ad shM 9 (fun r w1 => r = (some (.int (if g 1 0 = 0 then (-100003) else (rtF 1 n (rtR 1 n (svG g))) 1 38))) ∧ w1 = (layM (if g 1 0 = 0 then g else (rtF 1 n (rtR 1 n (svG g)))) h))) args s0 0 0 (adA ad 9)) ad 9 0 0 (layM gg h) 49 ([(5, .int (nI k)), (4, .int (nI j - 1)), (2, .int (v1 1 35)), (3, .int (secI (v1 1 35) (v1 1 38))), (0, .ref 0), (1, .int (1))] : Lc) ([] : List Value) := by
            intro q
            induction q with
            | zero =>
              intro k gg hk hs heq
              rw [rtI_0] at heq
              refine bv_blk C frk_X9 csk_X9 2 51 rfl (L1 := ([(5, .int (nI k)), (4, .int (nI j - 1)), (2, .int (v1 1 35)), (3, .int (secI (v1 1 35) (v1 1 38))), (0, .ref 0), (1, .int (1))] : Lc)) (st1 := ([.int (5), .int (nI k)] : List Value)) (w1 := (layM gg h)) (by rfl) ?_
              refine bv_icmp_ge (j := 68) C rfl rfl (fun _ => ?_) (fun h => absurd (nI_le (a := 5) (b := k) (by omega) (by omega)) h)
              refine bv_blk C frk_X9 csk_X9 1 69 rfl (L1 := ([(4, .int ((nI j - 1) + Int32.ofInt 1)), (5, .int (nI k)), (2, .int (v1 1 35)), (3, .int (secI (v1 1 35) (v1 1 38))), (0, .ref 0), (1, .int (1))] : Lc)) (st1 := ([] : List Value)) (w1 := (layM gg h)) (by rfl) ?_
              refine bv_goto (j := 39) C rfl rfl ?_
              rw [incs j 1]
              refine bv_sub [0, 2, 3, 4, 5] (by rfl) ?_
              exact ihO (j + 1) gg (by omega) hs heq
            | succ q ihI =>
              intro k gg hk hs heq
              rw [rtI_s] at heq
              refine bv_blk C frk_X9 csk_X9 2 51 rfl (L1 := ([(5, .int (nI k)), (4, .int (nI j - 1)), (2, .int (v1 1 35)), (3, .int (secI (v1 1 35) (v1 1 38))), (0, .ref 0), (1, .int (1))] : Lc)) (st1 := ([.int (5), .int (nI k)] : List Value)) (w1 := (layM gg h)) (by rfl) ?_
              refine bv_icmp_ge (j := 68) C rfl rfl (fun h => absurd h (nI_ge (a := k) (b := 5) (by omega) (by omega))) (fun _ => ?_)
              refine bv_blk C frk_X9 csk_X9 8 60 rfl (L1 := ([(5, .int (nI k)), (4, .int (nI j - 1)), (2, .int (v1 1 35)), (3, .int (secI (v1 1 35) (v1 1 38))), (0, .ref 0), (1, .int (1))] : Lc)) (st1 := ([.int (v1 1 35), .int ((secI (v1 1 35) (v1 1 38)) + (nI j - 1)), .int (5), .int (v1 1 35), .int (1), .ref 0] : List Value)) (w1 := (layM gg h)) (by rfl) ?_
              refine bv_fS1 C rfl (ct_around hE _ ((secI (v1 1 35) (v1 1 38)) + (nI j - 1)) (v1 1 35) (st_m1 (st_same kp_v1 hsg))) ml_X9_76 st_X9_around ini_X9 cd_X9_around ok_X9_around rfl ⟨Nat.le_of_ble_eq_true rfl, Nat.le_of_ble_eq_true rfl⟩ ⟨Nat.zero_le _, Nat.zero_le _⟩ (rest := ([.int (5), .int (v1 1 35), .int (1), .ref 0] : List Value)) rfl (Nat.le_of_ble_eq_true rfl) ?_
              refine bv_blk C frk_X9 csk_X9 4 65 rfl (L1 := ([(5, .int (nI k)), (4, .int (nI j - 1)), (2, .int (v1 1 35)), (3, .int (secI (v1 1 35) (v1 1 38))), (0, .ref 0), (1, .int (1))] : Lc)) (st1 := ([.int (((v1 1 35) + ((5) * (arI ((secI (v1 1 35) (v1 1 38)) + (nI j - 1)) (v1 1 35)))) + (nI k)), .int (1), .ref 0] : List Value)) (w1 := (layM gg h)) (by rfl) ?_
              refine bv_fV0 C rfl (ct_tests1 hE gg _ n (((v1 1 35) + ((5) * (arI ((secI (v1 1 35) (v1 1 38)) + (nI j - 1)) (v1 1 35)))) + (nI k)) hs) ml_X9_147 im_X9_tests sel_X9_tests ini_X9 cd_X9_tests ok_X9_tests rfl ⟨Nat.le_of_ble_eq_true rfl, Nat.le_of_ble_eq_true rfl⟩ ⟨Nat.zero_le _, Nat.zero_le _⟩ (by decide) rfl rfl rfl (rest := ([] : List Value)) rfl (Nat.le_of_ble_eq_true rfl) ?_
              refine bv_blk C frk_X9 csk_X9 1 67 rfl (L1 := ([(5, .int ((nI k) + Int32.ofInt 1)), (4, .int (nI j - 1)), (2, .int (v1 1 35)), (3, .int (secI (v1 1 35) (v1 1 38))), (0, .ref 0), (1, .int (1))] : Lc)) (st1 := ([] : List Value)) (w1 := (layM (tstG 1 n gg (((v1 1 35) + ((5) * (arI ((secI (v1 1 35) (v1 1 38)) + (nI j - 1)) (v1 1 35)))) + (nI k))) h)) (by rfl) ?_
              rw [show ((nI k) + Int32.ofInt 1) = nI (k + 1) from (nIi rfl)]
              refine bv_goto (j := 49) C rfl rfl ?_
              refine bv_sub [0, 1, 2, 3, 4, 5] (by rfl) ?_
              exact ihI (k + 1) (tstG 1 n gg (((v1 1 35) + ((5) * (arI ((secI (v1 1 35) (v1 1 38)) + (nI j - 1)) (v1 1 35)))) + (nI k))) (by omega) (st_same (kp_tst2 (s := 1) (n := n) (b := (((v1 1 35) + ((5) * (arI ((secI (v1 1 35) (v1 1 38)) + (nI j - 1)) (v1 1 35)))) + (nI k))) (kp_rf _)) hs) heq
          refine bv_sub [0, 1, 2, 3, 4, 5] (by rfl) ?_
          exact lpI 5 0 gg (by omega) hs heq
      rw [show ((-1) : Int32) = nI 0 - 1 from by decide]
      refine bv_sub [0, 2, 1, 3, 4] (by rfl) ?_
      refine lpO 2 0 (tstG 1 n (ug v1 0 6 (-100000)) (v1 1 38)) (by omega) (st_same (kp_tst2 (s := 1) (n := n) (b := (v1 1 38)) (kp_ug (i := 0) (k := 6) (x := (-100000)) (by omega) kp_v1)) hs) ?_
      unfold rtR; exact (if_pos c3).symm
    · have lpO : ∀ (r j : Nat) (gg : Nat → Nat → Int32), j + r = 3 → statR gg n → rtO 1 n (v1 1 35) (secI (v1 1 35) (v1 1 38)) r j gg = rtR 1 n v1 → bV p l e (bR 9) s0 m args below meth c D cA shM (adA ad 9) 6 tb_X9_refine (MQ below (bQ D cA ad shM 9 (fun r w1 => r = (some (.int (if g 1 0 = 0 then (-100003) else (rtF 1 n (rtR 1 n (svG g))) 1 38))) ∧ w1 = (layM (if g 1 0 = 0 then g else (rtF 1 n (rtR 1 n (svG g)))) h))) args s0 0 0 (adA ad 9)) ad 9 0 0 (layM gg h) 39 ([(4, .int (nI j - 1)), (2, .int (v1 1 35)), (3, .int (secI (v1 1 35) (v1 1 38))), (0, .ref 0), (1, .int (1))] : Lc) ([] : List Value) := by
        intro r
        induction r with
        | zero =>
          intro j gg hj hs heq
          obtain rfl : j = 3 := by omega
          rw [rtO_0] at heq
          refine bv_blk C frk_X9 csk_X9 3 42 rfl (L1 := ([(4, .int (nI 3 - 1)), (2, .int (v1 1 35)), (3, .int (secI (v1 1 35) (v1 1 38))), (0, .ref 0), (1, .int (1))] : Lc)) (st1 := ([.int (2), .int (v1 1 35), .int (nI 3 - 1)] : List Value)) (w1 := (layM gg h)) (by rfl) ?_
          refine bv_icmp_ne (j := 45) C rfl rfl (fun _ => ?_) (fun h => absurd h (c3))
          refine bv_blk C frk_X9 csk_X9 1 46 rfl (L1 := ([(4, .int (nI 3 - 1)), (2, .int (v1 1 35)), (3, .int (secI (v1 1 35) (v1 1 38))), (0, .ref 0), (1, .int (1))] : Lc)) (st1 := ([.int (1), .int (nI 3 - 1)] : List Value)) (w1 := (layM gg h)) (by rfl) ?_
          refine bv_icmp_gt (j := 70) C rfl rfl (fun _ => ?_) (fun h => absurd h (by decide))
          refine bv_blk C frk_X9 csk_X9 3 73 rfl (L1 := ([(4, .int (nI 3 - 1)), (2, .int (v1 1 35)), (3, .int (secI (v1 1 35) (v1 1 38))), (0, .ref 0), (1, .int (1))] : Lc)) (st1 := ([.int (-100000), .int (gg 0 6)] : List Value)) (w1 := (layM gg h)) (by rfl) ?_
          refine bv_icmp_eq (j := 97) C rfl rfl (fun c14 => ?_) (fun c14 => ?_)
          · refine bv_blk C frk_X9 csk_X9 3 100 rfl (L1 := ([(4, .int (nI 3 - 1)), (2, .int (v1 1 35)), (3, .int (secI (v1 1 35) (v1 1 38))), (0, .ref 0), (1, .int (1))] : Lc)) (st1 := ([.int (3), .int (1), .ref 0] : List Value)) (w1 := (layM gg h)) (by rfl) ?_
            refine bv_fV1 C rfl (ct_of hE _ _ 1 3 (by omega) (by omega)) ml_X9_69 im_X9_of sel_X9_of ini_X9 cd_X9_of ok_X9_of rfl ⟨Nat.le_of_ble_eq_true rfl, Nat.le_of_ble_eq_true rfl⟩ ⟨Nat.zero_le _, Nat.zero_le _⟩ (by decide) rfl rfl rfl (rest := ([] : List Value)) rfl (Nat.le_of_ble_eq_true rfl) ?_
            exact bv_iret C rfl hr rfl ⟨by (exact congrArg (fun x => some (Value.int x)) ((if_neg c2).trans ((congrArg (fun X => rtF 1 n X 1 38) (show rtR 1 n (svG g) = gg from by rw [← ev1]; exact heq.symm)).trans (congrFun (congrFun (show rtF 1 n gg = _ from ((if_pos c14).trans rfl)) 1) 38))).symm), by (exact congrArg (fun x => layM x h) ((if_neg c2).trans ((congrArg (fun X => rtF 1 n X) (show rtR 1 n (svG g) = gg from by rw [← ev1]; exact heq.symm)).trans (show rtF 1 n gg = _ from ((if_pos c14).trans rfl)))).symm)⟩
          · refine bv_blk C frk_X9 csk_X9 9 83 rfl (L1 := ([(4, .int (nI 3 - 1)), (2, .int (v1 1 35)), (3, .int (secI (v1 1 35) (v1 1 38))), (0, .ref 0), (1, .int (1))] : Lc)) (st1 := ([.int (3), .int ((1) - (1)), .ref 0, .int ((1) - (1)), .ref 0] : List Value)) (w1 := (layM gg h)) (by rfl) ?_
            refine bv_fV1 C rfl (ct_of hE _ _ 0 3 (by omega) (by omega)) ml_X9_69 im_X9_of sel_X9_of ini_X9 cd_X9_of ok_X9_of rfl ⟨Nat.le_of_ble_eq_true rfl, Nat.le_of_ble_eq_true rfl⟩ ⟨Nat.zero_le _, Nat.zero_le _⟩ (by decide) rfl rfl rfl (rest := ([.int ((1) - (1)), .ref 0] : List Value)) rfl (Nat.le_of_ble_eq_true rfl) ?_
            refine bv_blk C frk_X9 csk_X9 3 87 rfl (L1 := ([(4, .int (nI 3 - 1)), (2, .int (v1 1 35)), (3, .int (secI (v1 1 35) (v1 1 38))), (0, .ref 0), (1, .int (1))] : Lc)) (st1 := ([.int (3), .int (1), .ref 0, .int (gg 1 18), .int ((1) - (1)), .ref 0] : List Value)) (w1 := (layM gg h)) (by rfl) ?_
            refine bv_fV1 C rfl (ct_of hE _ _ 1 3 (by omega) (by omega)) ml_X9_69 im_X9_of sel_X9_of ini_X9 cd_X9_of ok_X9_of rfl ⟨Nat.le_of_ble_eq_true rfl, Nat.le_of_ble_eq_true rfl⟩ ⟨Nat.zero_le _, Nat.zero_le _⟩ (by decide) rfl rfl rfl (rest := ([.int (gg 1 18), .int ((1) - (1)), .ref 0] : List Value)) rfl (Nat.le_of_ble_eq_true rfl) ?_
            refine bv_blk C frk_X9 csk_X9 1 89 rfl (L1 := ([(4, .int (nI 3 - 1)), (2, .int (v1 1 35)), (3, .int (secI (v1 1 35) (v1 1 38))), (0, .ref 0), (1, .int (1))] : Lc)) (st1 := ([.int (9), .int (gg 1 38), .int (gg 1 18), .int ((1) - (1)), .ref 0] : List Value)) (w1 := (layM gg h)) (by rfl) ?_
            refine bv_fV1 C rfl (ct_sW0 hE gg _ n (gg 1 18) (gg 1 38) (9) hs) ml_X9_113 im_X9_sendsWith sel_X9_sendsWith ini_X9 cd_X9_sendsWith ok_X9_sendsWith rfl ⟨Nat.le_of_ble_eq_true rfl, Nat.le_of_ble_eq_true rfl⟩ ⟨Nat.zero_le _, Nat.zero_le _⟩ (by decide) rfl rfl rfl (rest := ([] : List Value)) rfl (Nat.le_of_ble_eq_true rfl) ?_
            refine bv_if_eq (j := 97) C rfl rfl (fun c15 => ?_) (fun c15 => ?_)
            · refine bv_blk C frk_X9 csk_X9 3 100 rfl (L1 := ([(4, .int (nI 3 - 1)), (2, .int (v1 1 35)), (3, .int (secI (v1 1 35) (v1 1 38))), (0, .ref 0), (1, .int (1))] : Lc)) (st1 := ([.int (3), .int (1), .ref 0] : List Value)) (w1 := (layM (sntG gg 0 (gg 1 18) (gg 1 38) (9) n) h)) (by rfl) ?_
              refine bv_fV1 C rfl (ct_of hE _ _ 1 3 (by omega) (by omega)) ml_X9_69 im_X9_of sel_X9_of ini_X9 cd_X9_of ok_X9_of rfl ⟨Nat.le_of_ble_eq_true rfl, Nat.le_of_ble_eq_true rfl⟩ ⟨Nat.zero_le _, Nat.zero_le _⟩ (by decide) rfl rfl rfl (rest := ([] : List Value)) rfl (Nat.le_of_ble_eq_true rfl) ?_
              exact bv_iret C rfl hr rfl ⟨by (exact congrArg (fun x => some (Value.int x)) ((if_neg c2).trans ((congrArg (fun X => rtF 1 n X 1 38) (show rtR 1 n (svG g) = gg from by rw [← ev1]; exact heq.symm)).trans (congrFun (congrFun (show rtF 1 n gg = _ from ((if_neg c14).trans ((if_pos (b2i_0 c15)).trans rfl))) 1) 38))).symm), by (exact congrArg (fun x => layM x h) ((if_neg c2).trans ((congrArg (fun X => rtF 1 n X) (show rtR 1 n (svG g) = gg from by rw [← ev1]; exact heq.symm)).trans (show rtF 1 n gg = _ from ((if_neg c14).trans ((if_pos (b2i_0 c15)).trans rfl))))).symm)⟩
            · refine bv_blk C frk_X9 csk_X9 5 96 rfl (L1 := ([(4, .int (nI 3 - 1)), (2, .int (v1 1 35)), (3, .int (secI (v1 1 35) (v1 1 38))), (0, .ref 0), (1, .int (1))] : Lc)) (st1 := ([.int ((sntG gg 0 (gg 1 18) (gg 1 38) (9) n) 0 6), .int (3), .int (1), .ref 0] : List Value)) (w1 := (layM (sntG gg 0 (gg 1 18) (gg 1 38) (9) n) h)) (by rfl) ?_
              refine bv_fV0 C rfl (ct_sets hE _ _ 1 3 ((sntG gg 0 (gg 1 18) (gg 1 38) (9) n) 0 6) (by omega) (by omega)) ml_X9_48 im_X9_sets sel_X9_sets ini_X9 cd_X9_sets ok_X9_sets rfl ⟨Nat.le_of_ble_eq_true rfl, Nat.le_of_ble_eq_true rfl⟩ ⟨Nat.zero_le _, Nat.zero_le _⟩ (by decide) rfl rfl rfl (rest := ([] : List Value)) rfl (Nat.le_of_ble_eq_true rfl) ?_
              refine bv_blk C frk_X9 csk_X9 3 100 rfl (L1 := ([(4, .int (nI 3 - 1)), (2, .int (v1 1 35)), (3, .int (secI (v1 1 35) (v1 1 38))), (0, .ref 0), (1, .int (1))] : Lc)) (st1 := ([.int (3), .int (1), .ref 0] : List Value)) (w1 := (layM (ug (sntG gg 0 (gg 1 18) (gg 1 38) (9) n) 1 38 ((sntG gg 0 (gg 1 18) (gg 1 38) (9) n) 0 6)) h)) (by rfl) ?_
              refine bv_fV1 C rfl (ct_of hE _ _ 1 3 (by omega) (by omega)) ml_X9_69 im_X9_of sel_X9_of ini_X9 cd_X9_of ok_X9_of rfl ⟨Nat.le_of_ble_eq_true rfl, Nat.le_of_ble_eq_true rfl⟩ ⟨Nat.zero_le _, Nat.zero_le _⟩ (by decide) rfl rfl rfl (rest := ([] : List Value)) rfl (Nat.le_of_ble_eq_true rfl) ?_
              exact bv_iret C rfl hr rfl ⟨by (exact congrArg (fun x => some (Value.int x)) ((if_neg c2).trans ((congrArg (fun X => rtF 1 n X 1 38) (show rtR 1 n (svG g) = gg from by rw [← ev1]; exact heq.symm)).trans (congrFun (congrFun (show rtF 1 n gg = _ from ((if_neg c14).trans ((if_neg (fun z => absurd (z.symm.trans (b2i_1 c15)) Bool.noConfusion)).trans rfl))) 1) 38))).symm), by (exact congrArg (fun x => layM x h) ((if_neg c2).trans ((congrArg (fun X => rtF 1 n X) (show rtR 1 n (svG g) = gg from by rw [← ev1]; exact heq.symm)).trans (show rtF 1 n gg = _ from ((if_neg c14).trans ((if_neg (fun z => absurd (z.symm.trans (b2i_1 c15)) Bool.noConfusion)).trans rfl))))).symm)⟩
        | succ r ihO =>
          intro j gg hj hs heq
          rw [rtO_nx] at heq
          refine bv_blk C frk_X9 csk_X9 3 42 rfl (L1 := ([(4, .int (nI j - 1)), (2, .int (v1 1 35)), (3, .int (secI (v1 1 35) (v1 1 38))), (0, .ref 0), (1, .int (1))] : Lc)) (st1 := ([.int (2), .int (v1 1 35), .int (nI j - 1)] : List Value)) (w1 := (layM gg h)) (by rfl) ?_
          refine bv_icmp_ne (j := 45) C rfl rfl (fun _ => ?_) (fun h => absurd h (c3))
          refine bv_blk C frk_X9 csk_X9 1 46 rfl (L1 := ([(4, .int (nI j - 1)), (2, .int (v1 1 35)), (3, .int (secI (v1 1 35) (v1 1 38))), (0, .ref 0), (1, .int (1))] : Lc)) (st1 := ([.int (1), .int (nI j - 1)] : List Value)) (w1 := (layM gg h)) (by rfl) ?_
          refine bv_icmp_gt (j := 70) C rfl rfl (fun h => absurd h (stp1 j (by omega))) (fun _ => ?_)
          refine bv_blk C frk_X9 csk_X9 2 49 rfl (L1 := ([(5, .int (0)), (4, .int (nI j - 1)), (2, .int (v1 1 35)), (3, .int (secI (v1 1 35) (v1 1 38))), (0, .ref 0), (1, .int (1))] : Lc)) (st1 := ([] : List Value)) (w1 := (layM gg h)) (by rfl) ?_
          have lpI : ∀ (q k : Nat) (gg : Nat → Nat → Int32), k + q = 5 → statR gg n → rtO 1 n (v1 1 35) (secI (v1 1 35) (v1 1 38)) r (j + 1) (rtI 1 n (v1 1 35) (secI (v1 1 35) (v1 1 38)) (nI j - 1) q k gg) = rtR 1 n v1 → bV p l e (bR 9) s0 m args below meth c D cA shM (adA ad 9) 6 tb_X9_refine (MQ below (bQ D cA ad shM 9 (fun r w1 => r = (some (.int (if g 1 0 = 0 then (-100003) else (rtF 1 n (rtR 1 n (svG g))) 1 38))) ∧ w1 = (layM (if g 1 0 = 0 then g else (rtF 1 n (rtR 1 n (svG g)))) h))) args s0 0 0 (adA ad 9)) ad 9 0 0 (layM gg h) 49 ([(5, .int (nI k)), (4, .int (nI j - 1)), (2, .int (v1 1 35)), (3, .int (secI (v1 1 35) (v1 1 38))), (0, .ref 0), (1, .int (1))] : Lc) ([] : List Value) := by
            intro q
            induction q with
            | zero =>
              intro k gg hk hs heq
              rw [rtI_0] at heq
              refine bv_blk C frk_X9 csk_X9 2 51 rfl (L1 := ([(5, .int (nI k)), (4, .int (nI j - 1)), (2, .int (v1 1 35)), (3, .int (secI (v1 1 35) (v1 1 38))), (0, .ref 0), (1, .int (1))] : Lc)) (st1 := ([.int (5), .int (nI k)] : List Value)) (w1 := (layM gg h)) (by rfl) ?_
              refine bv_icmp_ge (j := 68) C rfl rfl (fun _ => ?_) (fun h => absurd (nI_le (a := 5) (b := k) (by omega) (by omega)) h)
              refine bv_blk C frk_X9 csk_X9 1 69 rfl (L1 := ([(4, .int ((nI j - 1) + Int32.ofInt 1)), (5, .int (nI k)), (2, .int (v1 1 35)), (3, .int (secI (v1 1 35) (v1 1 38))), (0, .ref 0), (1, .int (1))] : Lc)) (st1 := ([] : List Value)) (w1 := (layM gg h)) (by rfl) ?_
              refine bv_goto (j := 39) C rfl rfl ?_
              rw [incs j 1]
              refine bv_sub [0, 2, 3, 4, 5] (by rfl) ?_
              exact ihO (j + 1) gg (by omega) hs heq
            | succ q ihI =>
              intro k gg hk hs heq
              rw [rtI_s] at heq
              refine bv_blk C frk_X9 csk_X9 2 51 rfl (L1 := ([(5, .int (nI k)), (4, .int (nI j - 1)), (2, .int (v1 1 35)), (3, .int (secI (v1 1 35) (v1 1 38))), (0, .ref 0), (1, .int (1))] : Lc)) (st1 := ([.int (5), .int (nI k)] : List Value)) (w1 := (layM gg h)) (by rfl) ?_
              refine bv_icmp_ge (j := 68) C rfl rfl (fun h => absurd h (nI_ge (a := k) (b := 5) (by omega) (by omega))) (fun _ => ?_)
              refine bv_blk C frk_X9 csk_X9 8 60 rfl (L1 := ([(5, .int (nI k)), (4, .int (nI j - 1)), (2, .int (v1 1 35)), (3, .int (secI (v1 1 35) (v1 1 38))), (0, .ref 0), (1, .int (1))] : Lc)) (st1 := ([.int (v1 1 35), .int ((secI (v1 1 35) (v1 1 38)) + (nI j - 1)), .int (5), .int (v1 1 35), .int (1), .ref 0] : List Value)) (w1 := (layM gg h)) (by rfl) ?_
              refine bv_fS1 C rfl (ct_around hE _ ((secI (v1 1 35) (v1 1 38)) + (nI j - 1)) (v1 1 35) (st_m1 (st_same kp_v1 hsg))) ml_X9_76 st_X9_around ini_X9 cd_X9_around ok_X9_around rfl ⟨Nat.le_of_ble_eq_true rfl, Nat.le_of_ble_eq_true rfl⟩ ⟨Nat.zero_le _, Nat.zero_le _⟩ (rest := ([.int (5), .int (v1 1 35), .int (1), .ref 0] : List Value)) rfl (Nat.le_of_ble_eq_true rfl) ?_
              refine bv_blk C frk_X9 csk_X9 4 65 rfl (L1 := ([(5, .int (nI k)), (4, .int (nI j - 1)), (2, .int (v1 1 35)), (3, .int (secI (v1 1 35) (v1 1 38))), (0, .ref 0), (1, .int (1))] : Lc)) (st1 := ([.int (((v1 1 35) + ((5) * (arI ((secI (v1 1 35) (v1 1 38)) + (nI j - 1)) (v1 1 35)))) + (nI k)), .int (1), .ref 0] : List Value)) (w1 := (layM gg h)) (by rfl) ?_
              refine bv_fV0 C rfl (ct_tests1 hE gg _ n (((v1 1 35) + ((5) * (arI ((secI (v1 1 35) (v1 1 38)) + (nI j - 1)) (v1 1 35)))) + (nI k)) hs) ml_X9_147 im_X9_tests sel_X9_tests ini_X9 cd_X9_tests ok_X9_tests rfl ⟨Nat.le_of_ble_eq_true rfl, Nat.le_of_ble_eq_true rfl⟩ ⟨Nat.zero_le _, Nat.zero_le _⟩ (by decide) rfl rfl rfl (rest := ([] : List Value)) rfl (Nat.le_of_ble_eq_true rfl) ?_
              refine bv_blk C frk_X9 csk_X9 1 67 rfl (L1 := ([(5, .int ((nI k) + Int32.ofInt 1)), (4, .int (nI j - 1)), (2, .int (v1 1 35)), (3, .int (secI (v1 1 35) (v1 1 38))), (0, .ref 0), (1, .int (1))] : Lc)) (st1 := ([] : List Value)) (w1 := (layM (tstG 1 n gg (((v1 1 35) + ((5) * (arI ((secI (v1 1 35) (v1 1 38)) + (nI j - 1)) (v1 1 35)))) + (nI k))) h)) (by rfl) ?_
              rw [show ((nI k) + Int32.ofInt 1) = nI (k + 1) from (nIi rfl)]
              refine bv_goto (j := 49) C rfl rfl ?_
              refine bv_sub [0, 1, 2, 3, 4, 5] (by rfl) ?_
              exact ihI (k + 1) (tstG 1 n gg (((v1 1 35) + ((5) * (arI ((secI (v1 1 35) (v1 1 38)) + (nI j - 1)) (v1 1 35)))) + (nI k))) (by omega) (st_same (kp_tst2 (s := 1) (n := n) (b := (((v1 1 35) + ((5) * (arI ((secI (v1 1 35) (v1 1 38)) + (nI j - 1)) (v1 1 35)))) + (nI k))) (kp_rf _)) hs) heq
          refine bv_sub [0, 1, 2, 3, 4, 5] (by rfl) ?_
          exact lpI 5 0 gg (by omega) hs heq
      rw [show ((-1) : Int32) = nI 0 - 1 from by decide]
      refine bv_sub [0, 2, 1, 3, 4] (by rfl) ?_
      refine lpO 3 0 (tstG 1 n (ug v1 0 6 (-100000)) (v1 1 38)) (by omega) (st_same (kp_tst2 (s := 1) (n := n) (b := (v1 1 38)) (kp_ug (i := 0) (k := 6) (x := (-100000)) (by omega) kp_v1)) hs) ?_
      unfold rtR; exact (if_neg c3).symm
  · refine bv_blk C frk_X9 csk_X9 1 11 rfl (L1 := ([(0, .ref 0), (1, .int (1))] : Lc)) (st1 := ([.int (-100003)] : List Value)) (w1 := (layM g h)) (by rfl) ?_
    exact bv_iret C rfl hr rfl ⟨by (rw [if_pos c2]), by (rw [if_pos c2])⟩
