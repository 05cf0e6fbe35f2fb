theorem ug_ug (g : Nat → Nat → Int32) (i k : Nat) (x y : Int32) : ug (ug g i k x) i k y = ug g i k y := by
  funext a b
  unfold ug
  split
  · split <;> rfl
  · rfl
theorem ug_id {g : Nat → Nat → Int32} {i k : Nat} {x : Int32} (h : g i k = x) : ug g i k x = g := by
  funext a b
  unfold ug
  split
  · next h1 =>
    split
    · next h2 => rw [h1, h2, h]
    · rfl
  · rfl
set_option maxRecDepth 100000 in
set_option maxHeartbeats 4000000 in
theorem ct_saves {l : Launch} {D : va_G} {cA : FieldType → ClassId} {z0 : Nat} {SK SV : Nat → Nat} {ad : Nat → Nat} (hE : aD (fun q => z0 ≤ q) ad 9) (g : Nat → Nat → Int32) (h : Int64) (n : Nat) (hn : g 0 1 = nI n) (hn6 : n < 6) : bF l D cA z0 SK SV ad shM 9 yX9_saves cX9_saves 2 none 1 [.ref 0] (layM g h) none (layM (cpyG (ug g 0 1 (nI (n + 1))) 0 (172 * (n + 1)) 172) h) := by
  refine bCT_intro (tb := tb_X9_saves) (own := RX9) hE pn_X9 rfl tk_X9_saves rfl (Nat.le_of_ble_eq_true rfl) ?_
  intro p e s0 m args below meth c C hr
  refine bv_blk C frk_X9 csk_X9 4 4 rfl (L1 := ([(1, .int (1)), (0, .ref 0)] : Lc)) (st1 := ([.int (6), .int (1)] : List Value)) (w1 := (layM g h)) (by rfl) ?_
  refine bv_icmp_ge (j := 21) C rfl rfl (fun h => absurd h (by decide)) (fun _ => ?_)
  refine bv_blk C frk_X9 csk_X9 3 8 rfl (L1 := ([(1, .int (1)), (0, .ref 0)] : Lc)) (st1 := ([.int (6), .int (g 0 1)] : List Value)) (w1 := (layM g h)) (by rfl) ?_
  refine bv_icmp_ne (j := 21) C rfl rfl (fun _ => ?_) (fun h => absurd h (by rw [show (g 0 1) = nI n from hn]; exact (fun z => absurd ((nI_eq (a := n) (b := 6) (by omega) (by omega)).mp z) (by omega))))
  refine bv_blk C frk_X9 csk_X9 6 27 rfl (L1 := ([(1, .int (1)), (0, .ref 0)] : Lc)) (st1 := ([.int (6), .int (g 0 1), .int (g 0 1), .ref 0] : List Value)) (w1 := (layM g h)) (by rfl) ?_
  refine bv_icmp_ne (j := 30) C rfl rfl (fun _ => ?_) (fun h => absurd h (by rw [show (g 0 1) = nI n from hn]; exact (fun z => absurd ((nI_eq (a := n) (b := 6) (by omega) (by omega)).mp z) (by omega))))
  refine bv_blk C frk_X9 csk_X9 3 33 rfl (L1 := ([(1, .int (1)), (0, .ref 0)] : Lc)) (st1 := ([] : List Value)) (w1 := up2 (layM g h) 0 1 (.int ((g 0 1) - (0)))) (by rfl) ?_
  rw [lm_up rfl]
  refine bv_blk C frk_X9 csk_X9 6 39 rfl (L1 := ([(1, .int (1)), (0, .ref 0)] : Lc)) (st1 := ([] : List Value)) (w1 := up2 (layM (ug g 0 1 ((g 0 1) - (0))) h) 0 1 (.int (((g 0 1) - (0)) + (1)))) (by rfl) ?_
  rw [lm_up rfl]
  refine bv_blk C frk_X9 csk_X9 6 45 rfl (L1 := ([(1, .int (1)), (0, .ref 0)] : Lc)) (st1 := ([.int ((172) * (((g 0 1) - (0)) + (1))), .int (0), .ref 0] : List Value)) (w1 := (layM (ug (ug g 0 1 ((g 0 1) - (0))) 0 1 (((g 0 1) - (0)) + (1))) h)) (by rfl) ?_
  refine bv_fV0 C rfl (ct_copies hE _ _ 0 (172 * ((n - 0) + 1)) (by omega) (by omega) (by omega)) ml_X9_61 im_X9_copies sel_X9_copies ini_X9 cd_X9_copies ok_X9_copies rfl ⟨Nat.le_of_ble_eq_true rfl, Nat.le_of_ble_eq_true rfl⟩ ⟨Nat.zero_le _, Nat.zero_le _⟩ (by decide) rfl rfl rfl (rest := ([] : List Value)) (by first | (rw [show ((172) * (((g 0 1) - (0)) + (1))) = nI (172 * ((n - 0) + 1)) from (nIm rfl (nIa (nIs hn rfl (by omega)) rfl))]; done) | (rw [show ((172) * (((g 0 1) - (0)) + (1))) = nI (172 * ((n - 0) + 1)) from (nIm rfl (nIa (nIs hn rfl (by omega)) rfl))]; rfl)) (Nat.le_of_ble_eq_true rfl) ?_
  exact bv_vret C rfl hr ⟨by (rfl), by (rw [ug_ug, show g 0 1 - 0 + 1 = nI (n + 1) from by rw [hn, Int32.sub_zero]; exact nIa rfl rfl]; rfl)⟩
def shG (g : Nat → Nat → Int32) (k : Nat) : Nat → Nat → Int32 := fun i j => if i = 1 ∧ 172 ≤ j ∧ j < 172 * k then g 1 (j + 172) else g i j
theorem sh_1 (g : Nat → Nat → Int32) : shG g 1 = g := by
  funext i j
  unfold shG
  rw [if_neg (by omega)]
theorem sh_s (g : Nat → Nat → Int32) (k : Nat) (hk : 1 ≤ k) : cpyG (shG g k) (172 * (k + 1)) (172 * k) 172 = shG g (k + 1) := by
  funext i j
  unfold cpyG shG
  by_cases h1 : i = 1
  · subst h1
    by_cases h2 : 172 * k ≤ j ∧ j < 172 * k + 172
    · rw [if_pos ⟨rfl, h2⟩, if_neg (by omega), if_pos (by omega)]
      congr 1
      omega
    · rw [if_neg (fun z => h2 z.2)]
      by_cases h3 : 172 ≤ j ∧ j < 172 * k
      · rw [if_pos ⟨rfl, h3⟩, if_pos (by omega)]
      · rw [if_neg (fun z => h3 z.2), if_neg (by omega)]
  · rw [if_neg (fun z => h1 z.1), if_neg (fun z => h1 z.1), if_neg (fun z => h1 z.1)]
theorem sh_01 (g : Nat → Nat → Int32) (k : Nat) : shG g k 0 1 = g 0 1 := by
  unfold shG
  rw [if_neg (by omega)]
set_option maxRecDepth 100000 in
set_option maxHeartbeats 4000000 in
theorem ct_saves6 {l : Launch} {D : va_G} {cA : FieldType → ClassId} {z0 : Nat} {SK SV : Nat → Nat} {ad : Nat → Nat} (hE : aD (fun q => z0 ≤ q) ad 9) (g : Nat → Nat → Int32) (h : Int64) (hn : g 0 1 = 6) : bF l D cA z0 SK SV ad shM 9 yX9_saves cX9_saves 2 none 1 [.ref 0] (layM g h) none (layM (cpyG (shG g 6) 0 1032 172) h) := by
  refine bCT_intro (tb := tb_X9_saves) (own := RX9) hE pn_X9 rfl tk_X9_saves rfl (Nat.le_of_ble_eq_true rfl) ?_
  intro p e s0 m args below meth c C hr
  refine bv_blk C frk_X9 csk_X9 2 2 rfl (L1 := ([(1, .int (1)), (0, .ref 0)] : Lc)) (st1 := ([] : List Value)) (w1 := (layM g h)) (by rfl) ?_
  have lp_a : ∀ (n_a k_a : Nat), 1 ≤ k_a → k_a + n_a = 6 → bV p l e (bR 1) s0 m args below meth c D cA shM (adA ad 9) 2 tb_X9_saves (MQ below (bQ D cA ad shM 9 (fun r w1 => r = none ∧ w1 = (layM (cpyG (shG g 6) 0 1032 172) h))) args s0 0 0 (adA ad 9)) ad 9 0 0 (layM (shG g k_a) h) 2 ([(1, .int (nI k_a)), (0, .ref 0)] : Lc) ([] : List Value) := by
    intro n_a
    induction n_a with
    | zero =>
      intro k_a hs_a hk_a
      have hkB_a : k_a = 6 := by omega
      rw [hkB_a]
      refine bv_blk C frk_X9 csk_X9 2 4 rfl (L1 := ([(1, .int (nI 6)), (0, .ref 0)] : Lc)) (st1 := ([.int (6), .int (nI 6)] : List Value)) (w1 := (layM (shG g 6) h)) (by rfl) ?_
      refine bv_icmp_ge (j := 21) C rfl rfl (fun _ => ?_) (fun h => absurd (nI_le (a := 6) (b := 6) (by omega) (by omega)) h)
      refine bv_blk C frk_X9 csk_X9 6 27 rfl (L1 := ([(1, .int (nI 6)), (0, .ref 0)] : Lc)) (st1 := ([.int (6), .int ((shG g 6) 0 1), .int ((shG g 6) 0 1), .ref 0] : List Value)) (w1 := (layM (shG g 6) h)) (by rfl) ?_
      refine bv_icmp_ne (j := 30) C rfl rfl (fun h => absurd (by rw [show ((shG g 6) 0 1) = nI 6 from ((sh_01 g 6).trans hn)]; exact (rfl)) h) (fun _ => ?_)
      refine bv_blk C frk_X9 csk_X9 1 29 rfl (L1 := ([(1, .int (nI 6)), (0, .ref 0)] : Lc)) (st1 := ([.int (1), .int ((shG g 6) 0 1), .ref 0] : List Value)) (w1 := (layM (shG g 6) h)) (by rfl) ?_
      refine bv_goto (j := 31) C rfl rfl ?_
      refine bv_blk C frk_X9 csk_X9 2 33 rfl (L1 := ([(1, .int (nI 6)), (0, .ref 0)] : Lc)) (st1 := ([] : List Value)) (w1 := up2 (layM (shG g 6) h) 0 1 (.int (((shG g 6) 0 1) - (1)))) (by rfl) ?_
      rw [lm_up rfl]
      refine bv_blk C frk_X9 csk_X9 6 39 rfl (L1 := ([(1, .int (nI 6)), (0, .ref 0)] : Lc)) (st1 := ([] : List Value)) (w1 := up2 (layM (ug (shG g 6) 0 1 (((shG g 6) 0 1) - (1))) h) 0 1 (.int ((((shG g 6) 0 1) - (1)) + (1)))) (by rfl) ?_
      rw [lm_up rfl]
      refine bv_blk C frk_X9 csk_X9 6 45 rfl (L1 := ([(1, .int (nI 6)), (0, .ref 0)] : Lc)) (st1 := ([.int ((172) * ((((shG g 6) 0 1) - (1)) + (1))), .int (0), .ref 0] : List Value)) (w1 := (layM (ug (ug (shG g 6) 0 1 (((shG g 6) 0 1) - (1))) 0 1 ((((shG g 6) 0 1) - (1)) + (1))) h)) (by rfl) ?_
      refine bv_fV0 C rfl (ct_copies hE _ _ 0 (172 * ((6 - 1) + 1)) (by omega) (by omega) (by omega)) ml_X9_61 im_X9_copies sel_X9_copies ini_X9 cd_X9_copies ok_X9_copies rfl ⟨Nat.le_of_ble_eq_true rfl, Nat.le_of_ble_eq_true rfl⟩ ⟨Nat.zero_le _, Nat.zero_le _⟩ (by decide) rfl rfl rfl (rest := ([] : List Value)) (by first | (rw [show ((172) * ((((shG g 6) 0 1) - (1)) + (1))) = nI (172 * ((6 - 1) + 1)) from (nIm rfl (nIa (nIs ((sh_01 g 6).trans hn) rfl (by omega)) rfl))]; done) | (rw [show ((172) * ((((shG g 6) 0 1) - (1)) + (1))) = nI (172 * ((6 - 1) + 1)) from (nIm rfl (nIa (nIs ((sh_01 g 6).trans hn) rfl (by omega)) rfl))]; rfl)) (Nat.le_of_ble_eq_true rfl) ?_
      exact bv_vret C rfl hr ⟨by (rfl), by (rw [ug_ug]; rw [ug_id (show shG g 6 0 1 = shG g 6 0 1 - 1 + 1 from by rw [sh_01, hn]; rfl)])⟩
    | succ n_a ih =>
      intro k_a hs_a hk_a
      refine bv_blk C frk_X9 csk_X9 2 4 rfl (L1 := ([(1, .int (nI k_a)), (0, .ref 0)] : Lc)) (st1 := ([.int (6), .int (nI k_a)] : List Value)) (w1 := (layM (shG g k_a) h)) (by rfl) ?_
      refine bv_icmp_ge (j := 21) C rfl rfl (fun h => absurd h (nI_ge (a := k_a) (b := 6) (by omega) (by omega))) (fun _ => ?_)
      refine bv_blk C frk_X9 csk_X9 3 8 rfl (L1 := ([(1, .int (nI k_a)), (0, .ref 0)] : Lc)) (st1 := ([.int (6), .int ((shG g k_a) 0 1)] : List Value)) (w1 := (layM (shG g k_a) h)) (by rfl) ?_
      refine bv_icmp_ne (j := 21) C rfl rfl (fun h => absurd ((sh_01 g _).trans hn) h) (fun _ => ?_)
      refine bv_blk C frk_X9 csk_X9 9 18 rfl (L1 := ([(1, .int (nI k_a)), (0, .ref 0)] : Lc)) (st1 := ([.int ((172) * (nI k_a)), .int ((172) * ((nI k_a) + (1))), .ref 0] : List Value)) (w1 := (layM (shG g k_a) h)) (by rfl) ?_
      refine bv_fV0 C rfl (ct_copies hE _ _ (172 * (k_a + 1)) (172 * k_a) (by omega) (by omega) (by omega)) ml_X9_61 im_X9_copies sel_X9_copies ini_X9 cd_X9_copies ok_X9_copies rfl ⟨Nat.le_of_ble_eq_true rfl, Nat.le_of_ble_eq_true rfl⟩ ⟨Nat.zero_le _, Nat.zero_le _⟩ (by decide) rfl rfl rfl (rest := ([] : List Value)) (by first | (rw [show ((172) * ((nI k_a) + (1))) = nI (172 * (k_a + 1)) from (nIm rfl (nIa rfl rfl)), show ((172) * (nI k_a)) = nI (172 * k_a) from (nIm rfl rfl)]; done) | (rw [show ((172) * ((nI k_a) + (1))) = nI (172 * (k_a + 1)) from (nIm rfl (nIa rfl rfl)), show ((172) * (nI k_a)) = nI (172 * k_a) from (nIm rfl rfl)]; rfl)) (Nat.le_of_ble_eq_true rfl) ?_
      refine bv_blk C frk_X9 csk_X9 1 20 rfl (L1 := ([(1, .int ((nI k_a) + Int32.ofInt 1)), (0, .ref 0)] : Lc)) (st1 := ([] : List Value)) (w1 := (layM (cpyG (shG g k_a) (172 * (k_a + 1)) (172 * k_a) 172) h)) (by rfl) ?_
      rw [show ((nI k_a) + Int32.ofInt 1) = nI (k_a + 1) from (nIi rfl)]
      refine bv_goto (j := 2) C rfl rfl ?_
      refine bv_weq (show (layM (cpyG (shG g k_a) (172 * (k_a + 1)) (172 * k_a) 172) h) = (layM (shG g (k_a + 1)) h) from by rw [show 172 * (k_a + 1) = 172 * (k_a + 1) from rfl, sh_s g k_a (by omega)]) ?_
      refine bv_sub [0, 1] (by rfl) ?_
      exact ih (k_a + 1) (by omega) (by omega)
  refine bv_weq (show (layM g h) = (layM (shG g 1) h) from by rw [sh_1]) ?_
  refine bv_sub [0, 1] (by rfl) ?_
  exact lp_a (6 - 1) 1 (Nat.le_refl _) (by omega)
def beginG (g : Nat → Nat → Int32) : Nat → Nat → Int32 := fun i k => if i = 1 ∧ k < 172 then
  (if k = 5 then 1 else if k = 9 then 4 else if k = 10 then 2 else if k = 15 then 8 else if k = 17 then 40 else if k = 35 then 8 else if k = 37 then 40
   else if 18 ≤ k ∧ k < 35 then -100000 else if 38 ≤ k ∧ k < 55 then -100000 else 0) else g i k
theorem begin_eq (g : Nat → Nat → Int32) : fillG (ug (ug (ug (fillG (ug (ug (ug (ug (ug (ug (fillG g 0 172 0) 1 5 1) 1 9 4) 1 10 2) 1 15 8) 1 17 40) 1 18 (-100000)) 19 16 (-100000)) 1 35 8) 1 37 40) 1 38 (-100000)) 39 16 (-100000) = beginG g := by
  funext i k
  unfold beginG fillG ug
  by_cases h1 : i = 1
  · subst h1
    simp only [true_and, if_true, ↓reduceIte]
    by_cases h172 : k < 172
    · rw [if_pos h172, if_pos (show 0 ≤ k ∧ k < 0 + 172 by omega)]
      by_cases a1 : k < 55
      · by_cases a2 : 39 ≤ k
        · rw [if_pos (show 39 ≤ k ∧ k < 39 + 16 by omega), if_neg (show ¬ k = 5 by omega), if_neg (show ¬ k = 9 by omega), if_neg (show ¬ k = 10 by omega), if_neg (show ¬ k = 15 by omega), if_neg (show ¬ k = 17 by omega), if_neg (show ¬ k = 35 by omega), if_neg (show ¬ k = 37 by omega), if_neg (show ¬ (18 ≤ k ∧ k < 35) by omega), if_pos (show 38 ≤ k ∧ k < 55 by omega)]
        · have key : ∀ k : Nat, k < 39 → (if 39 ≤ k ∧ k < 39 + 16 then (-100000 : Int32) else if k = 38 then -100000 else if k = 37 then 40 else if k = 35 then 8 else if 19 ≤ k ∧ k < 19 + 16 then -100000 else if k = 18 then -100000 else if k = 17 then 40 else if k = 15 then 8 else if k = 10 then 2 else if k = 9 then 4 else if k = 5 then 1 else 0) = (if k = 5 then 1 else if k = 9 then 4 else if k = 10 then 2 else if k = 15 then 8 else if k = 17 then 40 else if k = 35 then 8 else if k = 37 then 40 else if 18 ≤ k ∧ k < 35 then -100000 else if 38 ≤ k ∧ k < 55 then -100000 else 0) := by decide
          exact key k (by omega)
      · simp only [show ¬ (39 ≤ k ∧ k < 39 + 16) by omega, show ¬ k = 38 by omega, show ¬ k = 37 by omega, show ¬ k = 35 by omega, show ¬ (19 ≤ k ∧ k < 19 + 16) by omega, show ¬ k = 18 by omega, show ¬ k = 17 by omega, show ¬ k = 15 by omega, show ¬ k = 10 by omega, show ¬ k = 9 by omega, show ¬ k = 5 by omega, show ¬ (18 ≤ k ∧ k < 35) by omega, show ¬ (38 ≤ k ∧ k < 55) by omega, if_false, ↓reduceIte]
    · rw [if_neg h172, if_neg (show ¬ (0 ≤ k ∧ k < 0 + 172) by omega)]
      simp only [show ¬ (39 ≤ k ∧ k < 39 + 16) by omega, show ¬ k = 38 by omega, show ¬ k = 37 by omega, show ¬ k = 35 by omega, show ¬ (19 ≤ k ∧ k < 19 + 16) by omega, show ¬ k = 18 by omega, show ¬ k = 17 by omega, show ¬ k = 15 by omega, show ¬ k = 10 by omega, show ¬ k = 9 by omega, show ¬ k = 5 by omega, if_false, ↓reduceIte]
  · simp only [h1, false_and, if_false, ↓reduceIte]
set_option maxRecDepth 100000 in
set_option maxHeartbeats 4000000 in
theorem ct_begins {l : Launch} {D : va_G} {cA : FieldType → ClassId} {z0 : Nat} {SK SV : Nat → Nat} {ad : Nat → Nat} (hE : aD (fun q => z0 ≤ q) ad 9) (g : Nat → Nat → Int32) (h : Int64)  : bF l D cA z0 SK SV ad shM 9 yX9_begins cX9_begins 2 none 2 [.ref 0] (layM g h) none (layM (beginG g) h) := by
  refine bCT_intro (tb := tb_X9_begins) (own := RX9) hE pn_X9 rfl tk_X9_begins rfl (Nat.le_of_ble_eq_true rfl) ?_
  intro p e s0 m args below meth c C hr
  refine bv_blk C frk_X9 csk_X9 2 2 rfl (L1 := ([(1, .int (0)), (0, .ref 0)] : Lc)) (st1 := ([] : List Value)) (w1 := (layM g h)) (by rfl) ?_
  have lp_a : ∀ (n_a k_a : Nat), 0 ≤ k_a → k_a + n_a = 172 → bV p l e (bR 2) s0 m args below meth c D cA shM (adA ad 9) 2 tb_X9_begins (MQ below (bQ D cA ad shM 9 (fun r w1 => r = none ∧ w1 = (layM (beginG g) h))) args s0 0 0 (adA ad 9)) ad 9 0 0 (layM (fillG g 0 k_a (0)) h) 2 ([(1, .int (nI k_a)), (0, .ref 0)] : Lc) ([] : List Value) := by
    intro n_a
    induction n_a with
    | zero =>
      intro k_a hs_a hk_a
      have hkB_a : k_a = 172 := by omega
      rw [hkB_a]
      refine bv_blk C frk_X9 csk_X9 2 4 rfl (L1 := ([(1, .int (nI 172)), (0, .ref 0)] : Lc)) (st1 := ([.int (172), .int (nI 172)] : List Value)) (w1 := (layM (fillG g 0 172 (0)) h)) (by rfl) ?_
      refine bv_icmp_ge (j := 12) C rfl rfl (fun _ => ?_) (fun h => absurd (nI_le (a := 172) (b := 172) (by omega) (by omega)) h)
      refine bv_blk C frk_X9 csk_X9 4 16 rfl (L1 := ([(1, .int (nI 172)), (0, .ref 0)] : Lc)) (st1 := ([.int (1), .int (5), .ref 1] : List Value)) (w1 := (layM (fillG g 0 172 (0)) h)) (by rfl) ?_
      refine bv_iast C rfl rfl (by decide) (j := 5) (by exact rfl) (by first | decide | omega) (by decide) ?_
      rw [lm_up rfl]
      refine bv_blk C frk_X9 csk_X9 4 21 rfl (L1 := ([(1, .int (nI 172)), (0, .ref 0)] : Lc)) (st1 := ([.int (4), .int (9), .ref 1] : List Value)) (w1 := (layM (ug (fillG g 0 172 (0)) 1 5 (1)) h)) (by rfl) ?_
      refine bv_iast C rfl rfl (by decide) (j := 9) (by exact rfl) (by first | decide | omega) (by decide) ?_
      rw [lm_up rfl]
      refine bv_blk C frk_X9 csk_X9 4 26 rfl (L1 := ([(1, .int (nI 172)), (0, .ref 0)] : Lc)) (st1 := ([.int (2), .int (10), .ref 1] : List Value)) (w1 := (layM (ug (ug (fillG g 0 172 (0)) 1 5 (1)) 1 9 (4)) h)) (by rfl) ?_
      refine bv_iast C rfl rfl (by decide) (j := 10) (by exact rfl) (by first | decide | omega) (by decide) ?_
      rw [lm_up rfl]
      refine bv_blk C frk_X9 csk_X9 4 31 rfl (L1 := ([(1, .int (0)), (0, .ref 0)] : Lc)) (st1 := ([.int (2), .int (0)] : List Value)) (w1 := (layM (ug (ug (ug (fillG g 0 172 (0)) 1 5 (1)) 1 9 (4)) 1 10 (2)) h)) (by rfl) ?_
      refine bv_icmp_ge (j := 52) C rfl rfl (fun h => absurd h (by decide)) (fun _ => ?_)
      refine bv_blk C frk_X9 csk_X9 4 36 rfl (L1 := ([(1, .int (0)), (0, .ref 0)] : Lc)) (st1 := ([.int (8), .int (0), .int (0), .ref 0] : List Value)) (w1 := (layM (ug (ug (ug (fillG g 0 172 (0)) 1 5 (1)) 1 9 (4)) 1 10 (2)) h)) (by rfl) ?_
      refine bv_fV0 C rfl (ct_sets hE _ _ 0 0 (8) (by omega) (by omega)) ml_X9_48 im_X9_sets sel_X9_sets ini_X9 cd_X9_sets ok_X9_sets rfl ⟨Nat.le_of_ble_eq_true rfl, Nat.le_of_ble_eq_true rfl⟩ ⟨Nat.zero_le _, Nat.zero_le _⟩ (by decide) rfl rfl rfl (rest := ([] : List Value)) rfl (Nat.le_of_ble_eq_true rfl) ?_
      refine bv_blk C frk_X9 csk_X9 4 41 rfl (L1 := ([(1, .int (0)), (0, .ref 0)] : Lc)) (st1 := ([.int (40), .int (2), .int (0), .ref 0] : List Value)) (w1 := (layM (ug (ug (ug (ug (fillG g 0 172 (0)) 1 5 (1)) 1 9 (4)) 1 10 (2)) 1 15 (8)) h)) (by rfl) ?_
      refine bv_fV0 C rfl (ct_sets hE _ _ 0 2 (40) (by omega) (by omega)) ml_X9_48 im_X9_sets sel_X9_sets ini_X9 cd_X9_sets ok_X9_sets rfl ⟨Nat.le_of_ble_eq_true rfl, Nat.le_of_ble_eq_true rfl⟩ ⟨Nat.zero_le _, Nat.zero_le _⟩ (by decide) rfl rfl rfl (rest := ([] : List Value)) rfl (Nat.le_of_ble_eq_true rfl) ?_
      refine bv_blk C frk_X9 csk_X9 4 46 rfl (L1 := ([(1, .int (0)), (0, .ref 0)] : Lc)) (st1 := ([.int (-100000), .int (3), .int (0), .ref 0] : List Value)) (w1 := (layM (ug (ug (ug (ug (ug (fillG g 0 172 (0)) 1 5 (1)) 1 9 (4)) 1 10 (2)) 1 15 (8)) 1 17 (40)) h)) (by rfl) ?_
      refine bv_fV0 C rfl (ct_sets hE _ _ 0 3 (-100000) (by omega) (by omega)) ml_X9_48 im_X9_sets sel_X9_sets ini_X9 cd_X9_sets ok_X9_sets rfl ⟨Nat.le_of_ble_eq_true rfl, Nat.le_of_ble_eq_true rfl⟩ ⟨Nat.zero_le _, Nat.zero_le _⟩ (by decide) rfl rfl rfl (rest := ([] : List Value)) rfl (Nat.le_of_ble_eq_true rfl) ?_
      refine bv_blk C frk_X9 csk_X9 2 49 rfl (L1 := ([(1, .int (0)), (0, .ref 0)] : Lc)) (st1 := ([.int (0), .ref 0] : List Value)) (w1 := (layM (ug (ug (ug (ug (ug (ug (fillG g 0 172 (0)) 1 5 (1)) 1 9 (4)) 1 10 (2)) 1 15 (8)) 1 17 (40)) 1 18 (-100000)) h)) (by rfl) ?_
      refine bv_fV0 C rfl (ct_clearsTable hE _ _ 0 (by omega)) ml_X9_53 im_X9_clearsTable sel_X9_clearsTable ini_X9 cd_X9_clearsTable ok_X9_clearsTable rfl ⟨Nat.le_of_ble_eq_true rfl, Nat.le_of_ble_eq_true rfl⟩ ⟨Nat.zero_le _, Nat.zero_le _⟩ (by decide) rfl rfl rfl (rest := ([] : List Value)) rfl (Nat.le_of_ble_eq_true rfl) ?_
      refine bv_blk C frk_X9 csk_X9 1 51 rfl (L1 := ([(1, .int ((0) + Int32.ofInt 1)), (0, .ref 0)] : Lc)) (st1 := ([] : List Value)) (w1 := (layM (fillG (ug (ug (ug (ug (ug (ug (fillG g 0 172 (0)) 1 5 (1)) 1 9 (4)) 1 10 (2)) 1 15 (8)) 1 17 (40)) 1 18 (-100000)) 19 16 (-100000)) h)) (by rfl) ?_
      refine bv_goto (j := 29) C rfl rfl ?_
      refine bv_blk C frk_X9 csk_X9 2 31 rfl (L1 := ([(1, .int ((0) + Int32.ofInt 1)), (0, .ref 0)] : Lc)) (st1 := ([.int (2), .int ((0) + Int32.ofInt 1)] : List Value)) (w1 := (layM (fillG (ug (ug (ug (ug (ug (ug (fillG g 0 172 (0)) 1 5 (1)) 1 9 (4)) 1 10 (2)) 1 15 (8)) 1 17 (40)) 1 18 (-100000)) 19 16 (-100000)) h)) (by rfl) ?_
      refine bv_icmp_ge (j := 52) C rfl rfl (fun h => absurd h (by decide)) (fun _ => ?_)
      refine bv_blk C frk_X9 csk_X9 4 36 rfl (L1 := ([(1, .int ((0) + Int32.ofInt 1)), (0, .ref 0)] : Lc)) (st1 := ([.int (8), .int (0), .int ((0) + Int32.ofInt 1), .ref 0] : List Value)) (w1 := (layM (fillG (ug (ug (ug (ug (ug (ug (fillG g 0 172 (0)) 1 5 (1)) 1 9 (4)) 1 10 (2)) 1 15 (8)) 1 17 (40)) 1 18 (-100000)) 19 16 (-100000)) h)) (by rfl) ?_
      refine bv_fV0 C rfl (ct_sets hE _ _ 1 0 (8) (by omega) (by omega)) ml_X9_48 im_X9_sets sel_X9_sets ini_X9 cd_X9_sets ok_X9_sets rfl ⟨Nat.le_of_ble_eq_true rfl, Nat.le_of_ble_eq_true rfl⟩ ⟨Nat.zero_le _, Nat.zero_le _⟩ (by decide) rfl rfl rfl (rest := ([] : List Value)) rfl (Nat.le_of_ble_eq_true rfl) ?_
      refine bv_blk C frk_X9 csk_X9 4 41 rfl (L1 := ([(1, .int ((0) + Int32.ofInt 1)), (0, .ref 0)] : Lc)) (st1 := ([.int (40), .int (2), .int ((0) + Int32.ofInt 1), .ref 0] : List Value)) (w1 := (layM (ug (fillG (ug (ug (ug (ug (ug (ug (fillG g 0 172 (0)) 1 5 (1)) 1 9 (4)) 1 10 (2)) 1 15 (8)) 1 17 (40)) 1 18 (-100000)) 19 16 (-100000)) 1 35 (8)) h)) (by rfl) ?_
      refine bv_fV0 C rfl (ct_sets hE _ _ 1 2 (40) (by omega) (by omega)) ml_X9_48 im_X9_sets sel_X9_sets ini_X9 cd_X9_sets ok_X9_sets rfl ⟨Nat.le_of_ble_eq_true rfl, Nat.le_of_ble_eq_true rfl⟩ ⟨Nat.zero_le _, Nat.zero_le _⟩ (by decide) rfl rfl rfl (rest := ([] : List Value)) rfl (Nat.le_of_ble_eq_true rfl) ?_
      refine bv_blk C frk_X9 csk_X9 4 46 rfl (L1 := ([(1, .int ((0) + Int32.ofInt 1)), (0, .ref 0)] : Lc)) (st1 := ([.int (-100000), .int (3), .int ((0) + Int32.ofInt 1), .ref 0] : List Value)) (w1 := (layM (ug (ug (fillG (ug (ug (ug (ug (ug (ug (fillG g 0 172 (0)) 1 5 (1)) 1 9 (4)) 1 10 (2)) 1 15 (8)) 1 17 (40)) 1 18 (-100000)) 19 16 (-100000)) 1 35 (8)) 1 37 (40)) h)) (by rfl) ?_
      refine bv_fV0 C rfl (ct_sets hE _ _ 1 3 (-100000) (by omega) (by omega)) ml_X9_48 im_X9_sets sel_X9_sets ini_X9 cd_X9_sets ok_X9_sets rfl ⟨Nat.le_of_ble_eq_true rfl, Nat.le_of_ble_eq_true rfl⟩ ⟨Nat.zero_le _, Nat.zero_le _⟩ (by decide) rfl rfl rfl (rest := ([] : List Value)) rfl (Nat.le_of_ble_eq_true rfl) ?_
      refine bv_blk C frk_X9 csk_X9 2 49 rfl (L1 := ([(1, .int ((0) + Int32.ofInt 1)), (0, .ref 0)] : Lc)) (st1 := ([.int ((0) + Int32.ofInt 1), .ref 0] : List Value)) (w1 := (layM (ug (ug (ug (fillG (ug (ug (ug (ug (ug (ug (fillG g 0 172 (0)) 1 5 (1)) 1 9 (4)) 1 10 (2)) 1 15 (8)) 1 17 (40)) 1 18 (-100000)) 19 16 (-100000)) 1 35 (8)) 1 37 (40)) 1 38 (-100000)) h)) (by rfl) ?_
      refine bv_fV0 C rfl (ct_clearsTable hE _ _ 1 (by omega)) ml_X9_53 im_X9_clearsTable sel_X9_clearsTable ini_X9 cd_X9_clearsTable ok_X9_clearsTable rfl ⟨Nat.le_of_ble_eq_true rfl, Nat.le_of_ble_eq_true rfl⟩ ⟨Nat.zero_le _, Nat.zero_le _⟩ (by decide) rfl rfl rfl (rest := ([] : List Value)) rfl (Nat.le_of_ble_eq_true rfl) ?_
      refine bv_blk C frk_X9 csk_X9 1 51 rfl (L1 := ([(1, .int (((0) + Int32.ofInt 1) + Int32.ofInt 1)), (0, .ref 0)] : Lc)) (st1 := ([] : List Value)) (w1 := (layM (fillG (ug (ug (ug (fillG (ug (ug (ug (ug (ug (ug (fillG g 0 172 (0)) 1 5 (1)) 1 9 (4)) 1 10 (2)) 1 15 (8)) 1 17 (40)) 1 18 (-100000)) 19 16 (-100000)) 1 35 (8)) 1 37 (40)) 1 38 (-100000)) 39 16 (-100000)) h)) (by rfl) ?_
      refine bv_goto (j := 29) C rfl rfl ?_
      refine bv_blk C frk_X9 csk_X9 2 31 rfl (L1 := ([(1, .int (((0) + Int32.ofInt 1) + Int32.ofInt 1)), (0, .ref 0)] : Lc)) (st1 := ([.int (2), .int (((0) + Int32.ofInt 1) + Int32.ofInt 1)] : List Value)) (w1 := (layM (fillG (ug (ug (ug (fillG (ug (ug (ug (ug (ug (ug (fillG g 0 172 (0)) 1 5 (1)) 1 9 (4)) 1 10 (2)) 1 15 (8)) 1 17 (40)) 1 18 (-100000)) 19 16 (-100000)) 1 35 (8)) 1 37 (40)) 1 38 (-100000)) 39 16 (-100000)) h)) (by rfl) ?_
      refine bv_icmp_ge (j := 52) C rfl rfl (fun _ => ?_) (fun h => absurd h (by decide))
      exact bv_vret C rfl hr ⟨by (rfl), by (rw [begin_eq])⟩
    | succ n_a ih =>
      intro k_a hs_a hk_a
      refine bv_blk C frk_X9 csk_X9 2 4 rfl (L1 := ([(1, .int (nI k_a)), (0, .ref 0)] : Lc)) (st1 := ([.int (172), .int (nI k_a)] : List Value)) (w1 := (layM (fillG g 0 k_a (0)) h)) (by rfl) ?_
      refine bv_icmp_ge (j := 12) C rfl rfl (fun h => absurd h (nI_ge (a := k_a) (b := 172) (by omega) (by omega))) (fun _ => ?_)
      refine bv_blk C frk_X9 csk_X9 4 9 rfl (L1 := ([(1, .int (nI k_a)), (0, .ref 0)] : Lc)) (st1 := ([.int (0), .int (nI k_a), .ref 1] : List Value)) (w1 := (layM (fillG g 0 k_a (0)) h)) (by rfl) ?_
      refine bv_iast C rfl rfl (by decide) (j := k_a) (by exact rfl) (by first | decide | omega) (by decide) ?_
      rw [lm_up rfl]
      refine bv_blk C frk_X9 csk_X9 1 11 rfl (L1 := ([(1, .int ((nI k_a) + Int32.ofInt 1)), (0, .ref 0)] : Lc)) (st1 := ([] : List Value)) (w1 := (layM (ug (fillG g 0 k_a (0)) 1 k_a (0)) h)) (by rfl) ?_
      rw [show ((nI k_a) + Int32.ofInt 1) = nI (k_a + 1) from (nIi rfl)]
      refine bv_goto (j := 2) C rfl rfl ?_
      refine bv_weq (show (layM (ug (fillG g 0 k_a (0)) 1 k_a (0)) h) = (layM (fillG g 0 (k_a + 1) (0)) h) from by rw [show fillG g 0 (k_a + 1) 0 = ug (fillG g 0 k_a 0) 1 k_a 0 from by have q := fill_s g 0 k_a 0; rw [Nat.zero_add] at q; exact q.symm]) ?_
      refine bv_sub [0, 1] (by rfl) ?_
      exact ih (k_a + 1) (by omega) (by omega)
  refine bv_weq (show (layM g h) = (layM (fillG g 0 0 (0)) h) from by rw [fill_0]) ?_
  refine bv_sub [0, 1] (by rfl) ?_
  exact lp_a (172 - 0) 0 (Nat.le_refl _) (by omega)
