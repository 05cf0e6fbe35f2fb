def foldH (f : Nat → Int32) : Nat → Int64 → Int64
  | 0, h => h
  | n + 1, h => 31 * foldH f n h + (f n).toInt64
set_option maxRecDepth 100000 in
set_option maxHeartbeats 4000000 in
theorem ct_note {l : Launch} {D : va_G} {cA : FieldType → ClassId} {z0 : Nat} {SK SV : Nat → Nat} {ad : Nat → Nat} (hE : aD (fun q => z0 ≤ q) ad 9) (g : Nat → Nat → Int32) (h : Int64) (v : Int32) : bF l D cA z0 SK SV ad shM 9 yX9_note cX9_note 2 none 0 [.ref 0, .int v] (layM g h) none (layM g ((31) * h + (Int32.toInt64 v))) := by
  refine bCT_intro (tb := tb_X9_note) (own := RX9) hE pn_X9 rfl tk_X9_note rfl (Nat.le_of_ble_eq_true rfl) ?_
  intro p e s0 m args below meth c C hr
  refine bv_blk C frk_X9 csk_X9 9 9 rfl (L1 := ([(0, .ref 0), (1, .int v)] : Lc)) (st1 := ([] : List Value)) (w1 := up2 (layM g h) 0 18 (.long (((31) * h) + (Int32.toInt64 v)))) (by rfl) ?_
  rw [lm_upL]
  exact bv_vret C rfl hr ⟨by (rfl), by (rfl)⟩
set_option maxRecDepth 100000 in
set_option maxHeartbeats 4000000 in
theorem ct_noteStation {l : Launch} {D : va_G} {cA : FieldType → ClassId} {z0 : Nat} {SK SV : Nat → Nat} {ad : Nat → Nat} (hE : aD (fun q => z0 ≤ q) ad 9) (g : Nat → Nat → Int32) (h : Int64) (s S : Nat) (hs2 : s < 2) (hS : g 1 (15 + 20 * (1 - s) + 0) = nI S) (hS2 : S ≤ 16) : bF l D cA z0 SK SV ad shM 9 yX9_noteStation cX9_noteStation 3 none 1 [.ref 0, .int (nI s)] (layM g h) none (layM g (foldH (fun k => g 1 (15 + 20 * s + k)) (4 + S) h)) := by
  refine bCT_intro (tb := tb_X9_noteStation) (own := RX9) hE pn_X9 rfl tk_X9_noteStation rfl (Nat.le_of_ble_eq_true rfl) ?_
  intro p e s0 m args below meth c C hr
  refine bv_blk C frk_X9 csk_X9 2 2 rfl (L1 := ([(2, .int (0)), (0, .ref 0), (1, .int (nI s))] : Lc)) (st1 := ([] : List Value)) (w1 := (layM g h)) (by rfl) ?_
  have lp_a : ∀ (n_a k_a : Nat), 0 ≤ k_a → k_a + n_a = (4 + S) → bV p l e (bR 1) s0 m args below meth c D cA shM (adA ad 9) 3 tb_X9_noteStation (MQ below (bQ D cA ad shM 9 (fun r w1 => r = none ∧ w1 = (layM g (foldH (fun k => g 1 (15 + 20 * s + k)) (4 + S) h)))) args s0 0 0 (adA ad 9)) ad 9 0 0 (layM g (foldH (fun k => g 1 (15 + 20 * s + k)) k_a h)) 2 ([(2, .int (nI k_a)), (0, .ref 0), (1, .int (nI s))] : Lc) ([] : List Value) := by
    intro n_a
    induction n_a with
    | zero =>
      intro k_a hs_a hk_a
      have hkB_a : k_a = (4 + S) := by omega
      rw [hkB_a]
      refine bv_blk C frk_X9 csk_X9 7 9 rfl (L1 := ([(2, .int (nI (4 + S))), (0, .ref 0), (1, .int (nI s))] : Lc)) (st1 := ([.int (0), .int ((1) - (nI s)), .ref 0, .int (4), .int (nI (4 + S))] : List Value)) (w1 := (layM g (foldH (fun k => g 1 (15 + 20 * s + k)) (4 + S) h))) (by rfl) ?_
      refine bv_fV1 C rfl (ct_of hE _ _ (1 - s) 0 (by omega) (by omega)) ml_X9_69 im_X9_of sel_X9_of ini_X9 cd_X9_of ok_X9_of rfl ⟨Nat.le_of_ble_eq_true rfl, Nat.le_of_ble_eq_true rfl⟩ ⟨Nat.zero_le _, Nat.zero_le _⟩ (by decide) rfl rfl rfl (rest := ([.int (4), .int (nI (4 + S))] : List Value)) (by first | (rw [show ((1) - (nI s)) = nI (1 - s) from (nIs rfl rfl (by omega))]; done) | (rw [show ((1) - (nI s)) = nI (1 - s) from (nIs rfl rfl (by omega))]; rfl)) (Nat.le_of_ble_eq_true rfl) ?_
      refine bv_blk C frk_X9 csk_X9 1 11 rfl (L1 := ([(2, .int (nI (4 + S))), (0, .ref 0), (1, .int (nI s))] : Lc)) (st1 := ([.int ((4) + (g 1 (15 + 20 * (1 - s) + 0))), .int (nI (4 + S))] : List Value)) (w1 := (layM g (foldH (fun k => g 1 (15 + 20 * s + k)) (4 + S) h))) (by rfl) ?_
      refine bv_icmp_ge (j := 20) C rfl rfl (fun _ => ?_) (fun h => absurd (by rw [show ((4) + (g 1 (15 + 20 * (1 - s) + 0))) = nI (4 + S) from (nIa rfl hS)]; exact (nI_le (a := (4 + S)) (b := (4 + S)) (by omega) (by omega))) h)
      exact bv_vret C rfl hr ⟨by (rfl), by (rfl)⟩
    | succ n_a ih =>
      intro k_a hs_a hk_a
      refine bv_blk C frk_X9 csk_X9 7 9 rfl (L1 := ([(2, .int (nI k_a)), (0, .ref 0), (1, .int (nI s))] : Lc)) (st1 := ([.int (0), .int ((1) - (nI s)), .ref 0, .int (4), .int (nI k_a)] : List Value)) (w1 := (layM g (foldH (fun k => g 1 (15 + 20 * s + k)) k_a h))) (by rfl) ?_
      refine bv_fV1 C rfl (ct_of hE _ _ (1 - s) 0 (by omega) (by omega)) ml_X9_69 im_X9_of sel_X9_of ini_X9 cd_X9_of ok_X9_of rfl ⟨Nat.le_of_ble_eq_true rfl, Nat.le_of_ble_eq_true rfl⟩ ⟨Nat.zero_le _, Nat.zero_le _⟩ (by decide) rfl rfl rfl (rest := ([.int (4), .int (nI k_a)] : List Value)) (by first | (rw [show ((1) - (nI s)) = nI (1 - s) from (nIs rfl rfl (by omega))]; done) | (rw [show ((1) - (nI s)) = nI (1 - s) from (nIs rfl rfl (by omega))]; rfl)) (Nat.le_of_ble_eq_true rfl) ?_
      refine bv_blk C frk_X9 csk_X9 1 11 rfl (L1 := ([(2, .int (nI k_a)), (0, .ref 0), (1, .int (nI s))] : Lc)) (st1 := ([.int ((4) + (g 1 (15 + 20 * (1 - s) + 0))), .int (nI k_a)] : List Value)) (w1 := (layM g (foldH (fun k => g 1 (15 + 20 * s + k)) k_a h))) (by rfl) ?_
      refine bv_icmp_ge (j := 20) C rfl rfl (fun h => absurd h (by rw [show ((4) + (g 1 (15 + 20 * (1 - s) + 0))) = nI (4 + S) from (nIa rfl hS)]; exact (nI_ge (a := k_a) (b := (4 + S)) (by omega) (by omega)))) (fun _ => ?_)
      refine bv_blk C frk_X9 csk_X9 4 16 rfl (L1 := ([(2, .int (nI k_a)), (0, .ref 0), (1, .int (nI s))] : Lc)) (st1 := ([.int (nI k_a), .int (nI s), .ref 0, .ref 0] : List Value)) (w1 := (layM g (foldH (fun k => g 1 (15 + 20 * s + k)) k_a h))) (by rfl) ?_
      refine bv_fV1 C rfl (ct_of hE _ _ s k_a (by omega) (by omega)) ml_X9_69 im_X9_of sel_X9_of ini_X9 cd_X9_of ok_X9_of rfl ⟨Nat.le_of_ble_eq_true rfl, Nat.le_of_ble_eq_true rfl⟩ ⟨Nat.zero_le _, Nat.zero_le _⟩ (by decide) rfl rfl rfl (rest := ([.ref 0] : List Value)) rfl (Nat.le_of_ble_eq_true rfl) ?_
      refine bv_fV0 C rfl (ct_note hE _ _ (g 1 (15 + 20 * s + k_a))) ml_X9_323 im_X9_note sel_X9_note ini_X9 cd_X9_note ok_X9_note rfl ⟨Nat.le_of_ble_eq_true rfl, Nat.le_of_ble_eq_true rfl⟩ ⟨Nat.zero_le _, Nat.zero_le _⟩ (by decide) rfl rfl rfl (rest := ([] : List Value)) rfl (Nat.le_of_ble_eq_true rfl) ?_
      refine bv_blk C frk_X9 csk_X9 1 19 rfl (L1 := ([(2, .int ((nI k_a) + Int32.ofInt 1)), (0, .ref 0), (1, .int (nI s))] : Lc)) (st1 := ([] : List Value)) (w1 := (layM g ((31) * (foldH (fun k => g 1 (15 + 20 * s + k)) k_a h) + (Int32.toInt64 (g 1 (15 + 20 * s + k_a)))))) (by rfl) ?_
      rw [show ((nI k_a) + Int32.ofInt 1) = nI (k_a + 1) from (nIi rfl)]
      refine bv_goto (j := 2) C rfl rfl ?_
      refine bv_weq (show (layM g ((31) * (foldH (fun k => g 1 (15 + 20 * s + k)) k_a h) + (Int32.toInt64 (g 1 (15 + 20 * s + k_a))))) = (layM g (foldH (fun k => g 1 (15 + 20 * s + k)) (k_a + 1) h)) from by rfl) ?_
      refine bv_sub [0, 1, 2] (by rfl) ?_
      exact ih (k_a + 1) (by omega) (by omega)
  refine bv_weq (show (layM g h) = (layM g (foldH (fun k => g 1 (15 + 20 * s + k)) 0 h)) from by rfl) ?_
  refine bv_sub [0, 1, 2] (by rfl) ?_
  exact lp_a ((4 + S) - 0) 0 (Nat.le_refl _) (by omega)
