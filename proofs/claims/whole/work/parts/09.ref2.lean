def fillG (g : Nat → Nat → Int32) (lo n : Nat) (v : Int32) : Nat → Nat → Int32 := fun i k => if i = 1 ∧ lo ≤ k ∧ k < lo + n then v else g i k
theorem fill_0 (g : Nat → Nat → Int32) (lo : Nat) (v : Int32) : fillG g lo 0 v = g := by
  funext i k
  unfold fillG
  rw [if_neg (by omega)]
theorem fill_s (g : Nat → Nat → Int32) (lo n : Nat) (v : Int32) : ug (fillG g lo n v) 1 (lo + n) v = fillG g lo (n + 1) v := by
  funext i k
  unfold ug fillG
  by_cases h1 : i = 1
  · by_cases h2 : k = lo + n
    · rw [if_pos h1, if_pos h2, if_pos (by omega)]
    · rw [if_pos h1, if_neg h2]
      by_cases h3 : lo ≤ k ∧ k < lo + n
      · rw [if_pos ⟨h1, h3⟩, if_pos ⟨h1, by omega⟩]
      · rw [if_neg (fun z => h3 z.2), if_neg (fun z => h3 ⟨z.2.1, by omega⟩)]
  · rw [if_neg h1, if_neg (fun z => h1 z.1), if_neg (fun z => h1 z.1)]
def cpyG (g : Nat → Nat → Int32) (f t n : Nat) : Nat → Nat → Int32 := fun i k => if i = 1 ∧ t ≤ k ∧ k < t + n then g 1 (f + (k - t)) else g i k
theorem cpy_0 (g : Nat → Nat → Int32) (f t : Nat) : cpyG g f t 0 = g := by
  funext i k
  unfold cpyG
  rw [if_neg (by omega)]
theorem cpy_s (g : Nat → Nat → Int32) (f t n : Nat) (h : f + n < t ∨ t + n ≤ f + n) : ug (cpyG g f t n) 1 (t + n) (cpyG g f t n 1 (f + n)) = cpyG g f t (n + 1) := by
  have e : cpyG g f t n 1 (f + n) = g 1 (f + n) := by
    unfold cpyG
    rw [if_neg (by omega)]
  rw [e]
  funext i k
  unfold ug cpyG
  by_cases h1 : i = 1
  · by_cases h2 : k = t + n
    · rw [if_pos h1, if_pos h2, if_pos (by omega), h2]
      congr 1
      omega
    · rw [if_pos h1, if_neg h2]
      by_cases h3 : t ≤ k ∧ k < t + n
      · rw [if_pos ⟨h1, h3⟩, if_pos ⟨h1, by omega⟩]
      · rw [if_neg (fun z => h3 z.2), if_neg (fun z => h3 ⟨z.2.1, by omega⟩)]
  · rw [if_neg h1, if_neg (fun z => h1 z.1), if_neg (fun z => h1 z.1)]
set_option maxRecDepth 100000 in
set_option maxHeartbeats 4000000 in
theorem ct_clearsTable {l : Launch} {D : va_G} {cA : FieldType → ClassId} {z0 : Nat} {SK SV : Nat → Nat} {ad : Nat → Nat} (hE : aD (fun q => z0 ≤ q) ad 9) (g : Nat → Nat → Int32) (h : Int64) (s : Nat) (hs : s < 2) : bF l D cA z0 SK SV ad shM 9 yX9_clearsTable cX9_clearsTable 3 none 1 [.ref 0, .int (nI s)] (layM g h) none (layM (fillG g (19 + 20 * s) 16 (-100000)) h) := by
  refine bCT_intro (tb := tb_X9_clearsTable) (own := RX9) hE pn_X9 rfl tk_X9_clearsTable rfl (Nat.le_of_ble_eq_true rfl) ?_
  intro p e s0 m args below meth c C hr
  refine bv_blk C frk_X9 csk_X9 2 2 rfl (L1 := ([(2, .int (0)), (0, .ref 0), (1, .int (nI s))] : Lc)) (st1 := ([] : List Value)) (w1 := (layM g h)) (by rfl) ?_
  have lp_a : ∀ (n_a k_a : Nat), 0 ≤ k_a → k_a + n_a = 16 → bV p l e (bR 1) s0 m args below meth c D cA shM (adA ad 9) 3 tb_X9_clearsTable (MQ below (bQ D cA ad shM 9 (fun r w1 => r = none ∧ w1 = (layM (fillG g (19 + 20 * s) 16 (-100000)) h))) args s0 0 0 (adA ad 9)) ad 9 0 0 (layM (fillG g (19 + 20 * s) k_a (-100000)) h) 2 ([(2, .int (nI k_a)), (0, .ref 0), (1, .int (nI s))] : Lc) ([] : List Value) := by
    intro n_a
    induction n_a with
    | zero =>
      intro k_a hs_a hk_a
      have hkB_a : k_a = 16 := by omega
      rw [hkB_a]
      refine bv_blk C frk_X9 csk_X9 2 4 rfl (L1 := ([(2, .int (nI 16)), (0, .ref 0), (1, .int (nI s))] : Lc)) (st1 := ([.int (16), .int (nI 16)] : List Value)) (w1 := (layM (fillG g (19 + 20 * s) 16 (-100000)) h)) (by rfl) ?_
      refine bv_icmp_ge (j := 14) C rfl rfl (fun _ => ?_) (fun h => absurd (nI_le (a := 16) (b := 16) (by omega) (by omega)) h)
      exact bv_vret C rfl hr ⟨by (rfl), by (rfl)⟩
    | succ n_a ih =>
      intro k_a hs_a hk_a
      refine bv_blk C frk_X9 csk_X9 2 4 rfl (L1 := ([(2, .int (nI k_a)), (0, .ref 0), (1, .int (nI s))] : Lc)) (st1 := ([.int (16), .int (nI k_a)] : List Value)) (w1 := (layM (fillG g (19 + 20 * s) k_a (-100000)) h)) (by rfl) ?_
      refine bv_icmp_ge (j := 14) C rfl rfl (fun h => absurd h (nI_ge (a := k_a) (b := 16) (by omega) (by omega))) (fun _ => ?_)
      refine bv_blk C frk_X9 csk_X9 6 11 rfl (L1 := ([(2, .int (nI k_a)), (0, .ref 0), (1, .int (nI s))] : Lc)) (st1 := ([.int (-100000), .int ((4) + (nI k_a)), .int (nI s), .ref 0] : List Value)) (w1 := (layM (fillG g (19 + 20 * s) k_a (-100000)) h)) (by rfl) ?_
      refine bv_fV0 C rfl (ct_sets hE _ _ s (4 + k_a) (-100000) (by omega) (by omega)) ml_X9_48 im_X9_sets sel_X9_sets ini_X9 cd_X9_sets ok_X9_sets rfl ⟨Nat.le_of_ble_eq_true rfl, Nat.le_of_ble_eq_true rfl⟩ ⟨Nat.zero_le _, Nat.zero_le _⟩ (by decide) rfl rfl rfl (rest := ([] : List Value)) (by first | (rw [show ((4) + (nI k_a)) = nI (4 + k_a) from (nIa rfl rfl)]; done) | (rw [show ((4) + (nI k_a)) = nI (4 + k_a) from (nIa rfl rfl)]; rfl)) (Nat.le_of_ble_eq_true rfl) ?_
      refine bv_blk C frk_X9 csk_X9 1 13 rfl (L1 := ([(2, .int ((nI k_a) + Int32.ofInt 1)), (0, .ref 0), (1, .int (nI s))] : Lc)) (st1 := ([] : List Value)) (w1 := (layM (ug (fillG g (19 + 20 * s) k_a (-100000)) 1 (15 + 20 * s + (4 + k_a)) (-100000)) h)) (by rfl) ?_
      rw [show ((nI k_a) + Int32.ofInt 1) = nI (k_a + 1) from (nIi rfl)]
      refine bv_goto (j := 2) C rfl rfl ?_
      refine bv_weq (show (layM (ug (fillG g (19 + 20 * s) k_a (-100000)) 1 (15 + 20 * s + (4 + k_a)) (-100000)) h) = (layM (fillG g (19 + 20 * s) (k_a + 1) (-100000)) h) from by rw [show 15 + 20 * s + (4 + k_a) = 19 + 20 * s + k_a by omega, fill_s]) ?_
      refine bv_sub [0, 1, 2] (by rfl) ?_
      exact ih (k_a + 1) (by omega) (by omega)
  refine bv_weq (show (layM g h) = (layM (fillG g (19 + 20 * s) 0 (-100000)) h) from by rw [fill_0]) ?_
  refine bv_sub [0, 1, 2] (by rfl) ?_
  exact lp_a (16 - 0) 0 (Nat.le_refl _) (by omega)
set_option maxRecDepth 100000 in
set_option maxHeartbeats 4000000 in
theorem ct_copies {l : Launch} {D : va_G} {cA : FieldType → ClassId} {z0 : Nat} {SK SV : Nat → Nat} {ad : Nat → Nat} (hE : aD (fun q => z0 ≤ q) ad 9) (g : Nat → Nat → Int32) (h : Int64) (f t : Nat) (hf : f ≤ 1204) (ht : t ≤ 1204) (hd : f + 172 ≤ t ∨ t ≤ f) : bF l D cA z0 SK SV ad shM 9 yX9_copies cX9_copies 4 none 0 [.ref 0, .int (nI f), .int (nI t)] (layM g h) none (layM (cpyG g f t 172) h) := by
  refine bCT_intro (tb := tb_X9_copies) (own := RX9) hE pn_X9 rfl tk_X9_copies rfl (Nat.le_of_ble_eq_true rfl) ?_
  intro p e s0 m args below meth c C hr
  refine bv_blk C frk_X9 csk_X9 2 2 rfl (L1 := ([(3, .int (0)), (0, .ref 0), (1, .int (nI f)), (2, .int (nI t))] : Lc)) (st1 := ([] : List Value)) (w1 := (layM g h)) (by rfl) ?_
  have lp_a : ∀ (n_a k_a : Nat), 0 ≤ k_a → k_a + n_a = 172 → bV p l e (bR 0) s0 m args below meth c D cA shM (adA ad 9) 4 tb_X9_copies (MQ below (bQ D cA ad shM 9 (fun r w1 => r = none ∧ w1 = (layM (cpyG g f t 172) h))) args s0 0 0 (adA ad 9)) ad 9 0 0 (layM (cpyG g f t k_a) h) 2 ([(3, .int (nI k_a)), (0, .ref 0), (1, .int (nI f)), (2, .int (nI t))] : Lc) ([] : List Value) := by
    intro n_a
    induction n_a with
    | zero =>
      intro k_a hs_a hk_a
      have hkB_a : k_a = 172 := by omega
      rw [hkB_a]
      refine bv_blk C frk_X9 csk_X9 2 4 rfl (L1 := ([(3, .int (nI 172)), (0, .ref 0), (1, .int (nI f)), (2, .int (nI t))] : Lc)) (st1 := ([.int (172), .int (nI 172)] : List Value)) (w1 := (layM (cpyG g f t 172) h)) (by rfl) ?_
      refine bv_icmp_ge (j := 19) C rfl rfl (fun _ => ?_) (fun h => absurd (nI_le (a := 172) (b := 172) (by omega) (by omega)) h)
      exact bv_vret C rfl hr ⟨by (rfl), by (rfl)⟩
    | succ n_a ih =>
      intro k_a hs_a hk_a
      refine bv_blk C frk_X9 csk_X9 2 4 rfl (L1 := ([(3, .int (nI k_a)), (0, .ref 0), (1, .int (nI f)), (2, .int (nI t))] : Lc)) (st1 := ([.int (172), .int (nI k_a)] : List Value)) (w1 := (layM (cpyG g f t k_a) h)) (by rfl) ?_
      refine bv_icmp_ge (j := 19) C rfl rfl (fun h => absurd h (nI_ge (a := k_a) (b := 172) (by omega) (by omega))) (fun _ => ?_)
      refine bv_blk C frk_X9 csk_X9 10 15 rfl (L1 := ([(3, .int (nI k_a)), (0, .ref 0), (1, .int (nI f)), (2, .int (nI t))] : Lc)) (st1 := ([.int ((nI f) + (nI k_a)), .ref 1, .int ((nI t) + (nI k_a)), .ref 1] : List Value)) (w1 := (layM (cpyG g f t k_a) h)) (by rfl) ?_
      refine bv_iald C rfl rfl (by decide) (j := (f + k_a)) (by exact (nIa rfl rfl)) (by first | decide | omega) (by decide) (y := ((cpyG g f t k_a) 1 (f + k_a))) (by rfl) ?_
      refine bv_iast C rfl rfl (by decide) (j := (t + k_a)) (by exact (nIa rfl rfl)) (by first | decide | omega) (by decide) ?_
      rw [lm_up rfl]
      refine bv_blk C frk_X9 csk_X9 1 18 rfl (L1 := ([(3, .int ((nI k_a) + Int32.ofInt 1)), (0, .ref 0), (1, .int (nI f)), (2, .int (nI t))] : Lc)) (st1 := ([] : List Value)) (w1 := (layM (ug (cpyG g f t k_a) 1 (t + k_a) ((cpyG g f t k_a) 1 (f + k_a))) h)) (by rfl) ?_
      rw [show ((nI k_a) + Int32.ofInt 1) = nI (k_a + 1) from (nIi rfl)]
      refine bv_goto (j := 2) C rfl rfl ?_
      refine bv_weq (show (layM (ug (cpyG g f t k_a) 1 (t + k_a) ((cpyG g f t k_a) 1 (f + k_a))) h) = (layM (cpyG g f t (k_a + 1)) h) from by rw [cpy_s g f t k_a (by omega)]) ?_
      refine bv_sub [0, 1, 2, 3] (by rfl) ?_
      exact ih (k_a + 1) (by omega) (by omega)
  refine bv_weq (show (layM g h) = (layM (cpyG g f t 0) h) from by rw [cpy_0]) ?_
  refine bv_sub [0, 1, 2, 3] (by rfl) ?_
  exact lp_a (172 - 0) 0 (Nat.le_refl _) (by omega)
