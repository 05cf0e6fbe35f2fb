def shK (g : Nat → Nat → Int32) (lo hi : Nat) : Nat → Nat → Int32 := fun i j => if i = 1 ∧ lo ≤ j ∧ j < hi then g 1 (j + 3) else g i j
theorem shK_0 (g : Nat → Nat → Int32) (lo : Nat) : shK g lo lo = g := by
  funext i k
  unfold shK
  rw [if_neg (by omega)]
theorem shK_s (g : Nat → Nat → Int32) (lo n : Nat) (h : lo ≤ n) : ug (shK g lo n) 1 n (shK g lo n 1 (n + 3)) = shK g lo (n + 1) := by
  have e : shK g lo n 1 (n + 3) = g 1 (n + 3) := by
    unfold shK
    rw [if_neg (by omega)]
  rw [e]
  funext i k
  unfold ug shK
  by_cases h1 : i = 1
  · by_cases h2 : k = n
    · rw [if_pos h1, if_pos h2, if_pos (by omega), h2]
    · rw [if_pos h1, if_neg h2]
      by_cases h3 : lo ≤ k ∧ k < n
      · rw [if_pos ⟨h1, h3⟩, if_pos ⟨h1, by omega⟩]
      · rw [if_neg (fun z => h3 z.2), if_neg (fun z => h3 ⟨z.2.1, by omega⟩)]
  · rw [if_neg h1, if_neg (fun z => h1 z.1), if_neg (fun z => h1 z.1)]
def rbG (g : Nat → Nat → Int32) (b : Nat) : Nat → Nat → Int32 := ug (shK g (103 + 3 * b) 109) 1 13 (shK g (103 + 3 * b) 109 1 13 - 1)
theorem kf_rb {g : Nat → Nat → Int32} {b : Nat} (k : Nat) (h : k < 103 ∨ 109 ≤ k) (h2 : k ≠ 13) : rbG g b 1 k = g 1 k := by
  unfold rbG
  rw [ug_ne (by omega)]
  unfold shK
  rw [if_neg (by omega)]
theorem kp_rb {g g0 : Nat → Nat → Int32} {b : Nat} (h : kept g0 g) : kept g0 (rbG g b) := kp_tr h (fun k hk => by
  unfold stK at hk
  exact kf_rb k (by omega) (by omega))
set_option maxRecDepth 100000 in
set_option maxHeartbeats 4000000 in
theorem ct_removesBackup {l : Launch} {D : va_G} {cA : FieldType → ClassId} {z0 : Nat} {SK SV : Nat → Nat} {ad : Nat → Nat} (hE : aD (fun q => z0 ≤ q) ad 9) (g : Nat → Nat → Int32) (h : Int64) (b : Nat) (hb : b < 3) : bF l D cA z0 SK SV ad shM 9 yX9_removesBackup cX9_removesBackup 3 none 0 [.ref 0, .int (nI b)] (layM g h) none (layM (rbG g b) h) := by
  refine bCT_intro (tb := tb_X9_removesBackup) (own := RX9) hE pn_X9 rfl tk_X9_removesBackup rfl (Nat.le_of_ble_eq_true rfl) ?_
  intro p e s0 m args below meth c C hr
  refine bv_blk C frk_X9 csk_X9 6 6 rfl (L1 := ([(2, .int ((103) + ((3) * (nI b)))), (0, .ref 0), (1, .int (nI b))] : Lc)) (st1 := ([] : List Value)) (w1 := (layM g h)) (by rfl) ?_
  have lp_a : ∀ (n_a k_a : Nat), (103 + (3 * b)) ≤ k_a → k_a + n_a = 109 → bV p l e (bR 0) s0 m args below meth c D cA shM (adA ad 9) 3 tb_X9_removesBackup (MQ below (bQ D cA ad shM 9 (fun r w1 => r = none ∧ w1 = (layM (rbG g b) h))) args s0 0 0 (adA ad 9)) ad 9 0 0 (layM (shK g (103 + 3 * b) k_a) h) 6 ([(2, .int (nI k_a)), (0, .ref 0), (1, .int (nI b))] : Lc) ([] : List Value) := by
    intro n_a
    induction n_a with
    | zero =>
      intro k_a hs_a hk_a
      have hkB_a : k_a = 109 := by omega
      rw [hkB_a]
      refine bv_blk C frk_X9 csk_X9 2 8 rfl (L1 := ([(2, .int (nI 109)), (0, .ref 0), (1, .int (nI b))] : Lc)) (st1 := ([.int (109), .int (nI 109)] : List Value)) (w1 := (layM (shK g (103 + 3 * b) 109) h)) (by rfl) ?_
      refine bv_icmp_ge (j := 21) C rfl rfl (fun _ => ?_) (fun h => absurd (nI_le (a := 109) (b := 109) (by omega) (by omega)) h)
      refine bv_blk C frk_X9 csk_X9 4 25 rfl (L1 := ([(2, .int (nI 109)), (0, .ref 0), (1, .int (nI b))] : Lc)) (st1 := ([.int (13), .ref 1, .int (13), .ref 1] : List Value)) (w1 := (layM (shK g (103 + 3 * b) 109) h)) (by rfl) ?_
      refine bv_iald C rfl rfl (by decide) (j := 13) (by exact rfl) (by first | decide | omega) (by decide) (y := ((shK g (103 + 3 * b) 109) 1 13)) (by rfl) ?_
      refine bv_blk C frk_X9 csk_X9 2 28 rfl (L1 := ([(2, .int (nI 109)), (0, .ref 0), (1, .int (nI b))] : Lc)) (st1 := ([.int (((shK g (103 + 3 * b) 109) 1 13) - (1)), .int (13), .ref 1] : List Value)) (w1 := (layM (shK g (103 + 3 * b) 109) h)) (by rfl) ?_
      refine bv_iast C rfl rfl (by decide) (j := 13) (by exact rfl) (by first | decide | omega) (by decide) ?_
      rw [lm_up rfl]
      exact bv_vret C rfl hr ⟨by (rfl), by (unfold rbG; rfl)⟩
    | succ n_a ih =>
      intro k_a hs_a hk_a
      refine bv_blk C frk_X9 csk_X9 2 8 rfl (L1 := ([(2, .int (nI k_a)), (0, .ref 0), (1, .int (nI b))] : Lc)) (st1 := ([.int (109), .int (nI k_a)] : List Value)) (w1 := (layM (shK g (103 + 3 * b) k_a) h)) (by rfl) ?_
      refine bv_icmp_ge (j := 21) C rfl rfl (fun h => absurd h (nI_ge (a := k_a) (b := 109) (by omega) (by omega))) (fun _ => ?_)
      refine bv_blk C frk_X9 csk_X9 8 17 rfl (L1 := ([(2, .int (nI k_a)), (0, .ref 0), (1, .int (nI b))] : Lc)) (st1 := ([.int ((nI k_a) + (3)), .ref 1, .int (nI k_a), .ref 1] : List Value)) (w1 := (layM (shK g (103 + 3 * b) k_a) h)) (by rfl) ?_
      refine bv_iald C rfl rfl (by decide) (j := (k_a + 3)) (by exact (nIa rfl rfl)) (by first | decide | omega) (by decide) (y := ((shK g (103 + 3 * b) k_a) 1 (k_a + 3))) (by rfl) ?_
      refine bv_iast C rfl rfl (by decide) (j := k_a) (by exact rfl) (by first | decide | omega) (by decide) ?_
      rw [lm_up rfl]
      refine bv_blk C frk_X9 csk_X9 1 20 rfl (L1 := ([(2, .int ((nI k_a) + Int32.ofInt 1)), (0, .ref 0), (1, .int (nI b))] : Lc)) (st1 := ([] : List Value)) (w1 := (layM (ug (shK g (103 + 3 * b) k_a) 1 k_a ((shK g (103 + 3 * b) k_a) 1 (k_a + 3))) h)) (by rfl) ?_
      rw [show ((nI k_a) + Int32.ofInt 1) = nI (k_a + 1) from (nIi rfl)]
      refine bv_goto (j := 6) C rfl rfl ?_
      refine bv_weq (show (layM (ug (shK g (103 + 3 * b) k_a) 1 k_a ((shK g (103 + 3 * b) k_a) 1 (k_a + 3))) h) = (layM (shK g (103 + 3 * b) (k_a + 1)) h) from by rw [shK_s g _ k_a (by omega)]) ?_
      refine bv_sub [0, 1, 2] (by rfl) ?_
      exact ih (k_a + 1) (by omega) (by omega)
  rw [show ((103) + ((3) * (nI b))) = nI (103 + (3 * b)) from (nIa rfl (nIm rfl rfl))]
  refine bv_weq (show (layM g h) = (layM (shK g (103 + 3 * b) (103 + (3 * b))) h) from by rw [shK_0]) ?_
  refine bv_sub [0, 1, 2] (by rfl) ?_
  exact lp_a (109 - (103 + (3 * b))) (103 + (3 * b)) (Nat.le_refl _) (by omega)
def rcS (n b : Nat) (g : Nat → Nat → Int32) : Nat → Nat → Int32 := sntG g 0 (g 1 (103 + (3 * b))) (g 1 (103 + (3 * b) + 1)) 4 n
def rcT (n b : Nat) (g : Nat → Nat → Int32) : Nat → Nat → Int32 := ug (ug (rcS n b g) 1 18 (rcS n b g 1 (103 + (3 * b)))) 1 38 (ug (rcS n b g) 1 18 (rcS n b g 1 (103 + (3 * b))) 1 (103 + (3 * b) + 1))
def rcF (n : Nat) : Nat → Nat → (Nat → Nat → Int32) → Nat → Nat → Int32
  | 0, _, g => nteG (ug g 1 0 0) 2 0
  | m + 1, b, g => if hrdG g 0 (g 1 (103 + (3 * b))) (g 1 (103 + (3 * b) + 1)) n = true then nteG (rbG (rcT n b g) b) 3 (nI b) else rcF n m (b + 1) (rcS n b g)
theorem kf_rcT {n b : Nat} {g : Nat → Nat → Int32} : keptF g (rcT n b g) := kf_ug (by omega) (kf_ug (by omega) (kf_snt (kf_rf g)))
set_option maxRecDepth 100000 in
set_option maxHeartbeats 4000000 in
theorem ct_recovers {l : Launch} {D : va_G} {cA : FieldType → ClassId} {z0 : Nat} {SK SV : Nat → Nat} {ad : Nat → Nat} (hE : aD (fun q => z0 ≤ q) ad 9) (g : Nat → Nat → Int32) (h : Int64) (n Bk : Nat) (hs : statR g n) (hev : evK g) (hB : g 1 13 = nI Bk) (hB3 : Bk ≤ 3) : bF l D cA z0 SK SV ad shM 9 yX9_recovers cX9_recovers 3 none 7 [.ref 0] (layM g h) none (layM (rcF n Bk 0 (ug g 1 1 0)) h) := by
  refine bCT_intro (tb := tb_X9_recovers) (own := RX9) hE pn_X9 rfl tk_X9_recovers rfl (Nat.le_of_ble_eq_true rfl) ?_
  intro p e s0 m args below meth c C hr
  refine bv_blk C frk_X9 csk_X9 4 4 rfl (L1 := ([(0, .ref 0)] : Lc)) (st1 := ([.int (0), .int (1), .ref 1] : List Value)) (w1 := (layM g h)) (by rfl) ?_
  refine bv_iast C rfl rfl (by decide) (j := 1) (by exact rfl) (by first | decide | omega) (by decide) ?_
  rw [lm_up rfl]
  refine bv_blk C frk_X9 csk_X9 2 7 rfl (L1 := ([(1, .int (0)), (0, .ref 0)] : Lc)) (st1 := ([] : List Value)) (w1 := (layM (ug g 1 1 (0)) h)) (by rfl) ?_
  have lp : ∀ (q b : Nat) (gg : Nat → Nat → Int32), b + q = Bk → statR gg n → evK gg → gg 1 13 = nI Bk → rcF n q b gg = rcF n Bk 0 (ug g 1 1 0) → bV p l e (bR 7) s0 m args below meth c D cA shM (adA ad 9) 3 tb_X9_recovers (MQ below (bQ D cA ad shM 9 (fun r w1 => r = none ∧ w1 = (layM (rcF n Bk 0 (ug g 1 1 0)) h))) args s0 0 0 (adA ad 9)) ad 9 0 0 (layM gg h) 7 ([(1, .int (nI b)), (0, .ref 0)] : Lc) ([] : List Value) := by
    intro q
    induction q with
    | zero =>
      intro b gg hb hs hev hB heq
      refine bv_blk C frk_X9 csk_X9 4 11 rfl (L1 := ([(1, .int (nI b)), (0, .ref 0)] : Lc)) (st1 := ([.int (13), .ref 1, .int (nI b)] : List Value)) (w1 := (layM gg h)) (by rfl) ?_
      refine bv_iald C rfl rfl (by decide) (j := 13) (by exact rfl) (by first | decide | omega) (by decide) (y := (gg 1 13)) (by rfl) ?_
      refine bv_icmp_ge (j := 62) C rfl rfl (fun _ => ?_) (fun h => absurd (by rw [show (gg 1 13) = nI Bk from hB]; exact (nI_le (a := Bk) (b := b) (by omega) (by omega))) h)
      refine bv_blk C frk_X9 csk_X9 4 66 rfl (L1 := ([(1, .int (nI b)), (0, .ref 0)] : Lc)) (st1 := ([.int (0), .int (0), .ref 1] : List Value)) (w1 := (layM gg h)) (by rfl) ?_
      refine bv_iast C rfl rfl (by decide) (j := 0) (by exact rfl) (by first | decide | omega) (by decide) ?_
      rw [lm_up rfl]
      refine bv_blk C frk_X9 csk_X9 3 70 rfl (L1 := ([(1, .int (nI b)), (0, .ref 0)] : Lc)) (st1 := ([.int (0), .int (2), .ref 0] : List Value)) (w1 := (layM (ug gg 1 0 (0)) h)) (by rfl) ?_
      refine bv_fV0 C rfl (ct_notes hE (ug gg 1 0 (0)) _ (2) (0) (evK_at hev rfl)) ml_X9_127 im_X9_notes sel_X9_notes ini_X9 cd_X9_notes ok_X9_notes rfl ⟨Nat.le_of_ble_eq_true rfl, Nat.le_of_ble_eq_true rfl⟩ ⟨Nat.zero_le _, Nat.zero_le _⟩ (by decide) rfl rfl rfl (rest := ([] : List Value)) rfl (Nat.le_of_ble_eq_true rfl) ?_
      exact bv_vret C rfl hr ⟨by (rfl), by (rw [← heq]; rfl)⟩
    | succ q ih =>
      intro b gg hb hs hev hB heq
      refine bv_blk C frk_X9 csk_X9 4 11 rfl (L1 := ([(1, .int (nI b)), (0, .ref 0)] : Lc)) (st1 := ([.int (13), .ref 1, .int (nI b)] : List Value)) (w1 := (layM gg h)) (by rfl) ?_
      refine bv_iald C rfl rfl (by decide) (j := 13) (by exact rfl) (by first | decide | omega) (by decide) (y := (gg 1 13)) (by rfl) ?_
      refine bv_icmp_ge (j := 62) C rfl rfl (fun h => absurd h (by rw [show (gg 1 13) = nI Bk from hB]; exact (nI_ge (a := b) (b := Bk) (by omega) (by omega)))) (fun _ => ?_)
      refine bv_blk C frk_X9 csk_X9 11 24 rfl (L1 := ([(2, .int ((103) + ((3) * (nI b)))), (1, .int (nI b)), (0, .ref 0)] : Lc)) (st1 := ([.int ((103) + ((3) * (nI b))), .ref 1, .int (0), .ref 0] : List Value)) (w1 := (layM gg h)) (by rfl) ?_
      refine bv_iald C rfl rfl (by decide) (j := (103 + (3 * b))) (by exact (nIa rfl (nIm rfl rfl))) (by first | decide | omega) (by decide) (y := (gg 1 (103 + (3 * b)))) (by rfl) ?_
      refine bv_blk C frk_X9 csk_X9 5 30 rfl (L1 := ([(2, .int ((103) + ((3) * (nI b)))), (1, .int (nI b)), (0, .ref 0)] : Lc)) (st1 := ([.int (((103) + ((3) * (nI b))) + (1)), .ref 1, .int (gg 1 (103 + (3 * b))), .int (0), .ref 0] : List Value)) (w1 := (layM gg h)) (by rfl) ?_
      refine bv_iald C rfl rfl (by decide) (j := ((103 + (3 * b)) + 1)) (by exact (nIa (nIa rfl (nIm rfl rfl)) rfl)) (by first | decide | omega) (by decide) (y := (gg 1 ((103 + (3 * b)) + 1))) (by rfl) ?_
      refine bv_blk C frk_X9 csk_X9 1 32 rfl (L1 := ([(2, .int ((103) + ((3) * (nI b)))), (1, .int (nI b)), (0, .ref 0)] : Lc)) (st1 := ([.int (4), .int (gg 1 ((103 + (3 * b)) + 1)), .int (gg 1 (103 + (3 * b))), .int (0), .ref 0] : List Value)) (w1 := (layM gg h)) (by rfl) ?_
      refine bv_fV1 C rfl (ct_sends hE gg _ 0 n (gg 1 (103 + (3 * b))) (gg 1 ((103 + (3 * b)) + 1)) (4) (by omega) (okQ_of hs 0 (by omega) _ _) (st_hA hs)) ml_X9_109 im_X9_sends sel_X9_sends ini_X9 cd_X9_sends ok_X9_sends rfl ⟨Nat.le_of_ble_eq_true rfl, Nat.le_of_ble_eq_true rfl⟩ ⟨Nat.zero_le _, Nat.zero_le _⟩ (by decide) rfl rfl rfl (rest := ([] : List Value)) rfl (Nat.le_of_ble_eq_true rfl) ?_
      refine bv_if_eq (j := 60) C rfl rfl (fun c3 => ?_) (fun c3 => ?_)
      · refine bv_blk C frk_X9 csk_X9 1 61 rfl (L1 := ([(1, .int ((nI b) + Int32.ofInt 1)), (2, .int ((103) + ((3) * (nI b)))), (0, .ref 0)] : Lc)) (st1 := ([] : List Value)) (w1 := (layM (sntG gg 0 (gg 1 (103 + (3 * b))) (gg 1 ((103 + (3 * b)) + 1)) (4) n) h)) (by rfl) ?_
        rw [show ((nI b) + Int32.ofInt 1) = nI (b + 1) from (nIi rfl)]
        refine bv_goto (j := 7) C rfl rfl ?_
        refine bv_sub [0, 2] (by rfl) ?_
        refine ih (b + 1) _ (by omega) (st_same (kp_snt (kp_rf _)) hs) (evK_at hev (kf_snt (kf_rf gg) 14 (by unfold frK; omega))) ((kf_snt (kf_rf gg) 13 (by unfold frK; omega)).trans hB) ?_
        rw [← heq, show rcF n (q + 1) b gg = if hrdG gg 0 (gg 1 (103 + (3 * b))) (gg 1 (103 + (3 * b) + 1)) n = true then nteG (rbG (rcT n b gg) b) 3 (nI b) else rcF n q (b + 1) (rcS n b gg) from rfl, if_neg (by rw [b2i_0 c3]; exact Bool.false_ne_true)]; rfl
      · refine bv_blk C frk_X9 csk_X9 6 40 rfl (L1 := ([(2, .int ((103) + ((3) * (nI b)))), (1, .int (nI b)), (0, .ref 0)] : Lc)) (st1 := ([.int ((103) + ((3) * (nI b))), .ref 1, .int (3), .int (0), .ref 0] : List Value)) (w1 := (layM (sntG gg 0 (gg 1 (103 + (3 * b))) (gg 1 ((103 + (3 * b)) + 1)) (4) n) h)) (by rfl) ?_
        refine bv_iald C rfl rfl (by decide) (j := (103 + (3 * b))) (by exact (nIa rfl (nIm rfl rfl))) (by first | decide | omega) (by decide) (y := ((sntG gg 0 (gg 1 (103 + (3 * b))) (gg 1 ((103 + (3 * b)) + 1)) (4) n) 1 (103 + (3 * b)))) (by rfl) ?_
        refine bv_fV0 C rfl (ct_sets hE _ _ 0 3 ((sntG gg 0 (gg 1 (103 + (3 * b))) (gg 1 ((103 + (3 * b)) + 1)) (4) n) 1 (103 + (3 * b))) (by omega) (by omega)) ml_X9_48 im_X9_sets sel_X9_sets ini_X9 cd_X9_sets ok_X9_sets rfl ⟨Nat.le_of_ble_eq_true rfl, Nat.le_of_ble_eq_true rfl⟩ ⟨Nat.zero_le _, Nat.zero_le _⟩ (by decide) rfl rfl rfl (rest := ([] : List Value)) rfl (Nat.le_of_ble_eq_true rfl) ?_
        refine bv_blk C frk_X9 csk_X9 8 50 rfl (L1 := ([(2, .int ((103) + ((3) * (nI b)))), (1, .int (nI b)), (0, .ref 0)] : Lc)) (st1 := ([.int (((103) + ((3) * (nI b))) + (1)), .ref 1, .int (3), .int (1), .ref 0] : List Value)) (w1 := (layM (ug (sntG gg 0 (gg 1 (103 + (3 * b))) (gg 1 ((103 + (3 * b)) + 1)) (4) n) 1 18 ((sntG gg 0 (gg 1 (103 + (3 * b))) (gg 1 ((103 + (3 * b)) + 1)) (4) n) 1 (103 + (3 * b)))) h)) (by rfl) ?_
        refine bv_iald C rfl rfl (by decide) (j := ((103 + (3 * b)) + 1)) (by exact (nIa (nIa rfl (nIm rfl rfl)) rfl)) (by first | decide | omega) (by decide) (y := ((ug (sntG gg 0 (gg 1 (103 + (3 * b))) (gg 1 ((103 + (3 * b)) + 1)) (4) n) 1 18 ((sntG gg 0 (gg 1 (103 + (3 * b))) (gg 1 ((103 + (3 * b)) + 1)) (4) n) 1 (103 + (3 * b)))) 1 ((103 + (3 * b)) + 1))) (by rfl) ?_
        refine bv_fV0 C rfl (ct_sets hE _ _ 1 3 ((ug (sntG gg 0 (gg 1 (103 + (3 * b))) (gg 1 ((103 + (3 * b)) + 1)) (4) n) 1 18 ((sntG gg 0 (gg 1 (103 + (3 * b))) (gg 1 ((103 + (3 * b)) + 1)) (4) n) 1 (103 + (3 * b)))) 1 ((103 + (3 * b)) + 1)) (by omega) (by omega)) ml_X9_48 im_X9_sets sel_X9_sets ini_X9 cd_X9_sets ok_X9_sets rfl ⟨Nat.le_of_ble_eq_true rfl, Nat.le_of_ble_eq_true rfl⟩ ⟨Nat.zero_le _, Nat.zero_le _⟩ (by decide) rfl rfl rfl (rest := ([] : List Value)) rfl (Nat.le_of_ble_eq_true rfl) ?_
        refine bv_blk C frk_X9 csk_X9 2 54 rfl (L1 := ([(2, .int ((103) + ((3) * (nI b)))), (1, .int (nI b)), (0, .ref 0)] : Lc)) (st1 := ([.int (nI b), .ref 0] : List Value)) (w1 := (layM (ug (ug (sntG gg 0 (gg 1 (103 + (3 * b))) (gg 1 ((103 + (3 * b)) + 1)) (4) n) 1 18 ((sntG gg 0 (gg 1 (103 + (3 * b))) (gg 1 ((103 + (3 * b)) + 1)) (4) n) 1 (103 + (3 * b)))) 1 38 ((ug (sntG gg 0 (gg 1 (103 + (3 * b))) (gg 1 ((103 + (3 * b)) + 1)) (4) n) 1 18 ((sntG gg 0 (gg 1 (103 + (3 * b))) (gg 1 ((103 + (3 * b)) + 1)) (4) n) 1 (103 + (3 * b)))) 1 ((103 + (3 * b)) + 1))) h)) (by rfl) ?_
        refine bv_fV0 C rfl (ct_removesBackup hE (ug (ug (sntG gg 0 (gg 1 (103 + (3 * b))) (gg 1 ((103 + (3 * b)) + 1)) (4) n) 1 18 ((sntG gg 0 (gg 1 (103 + (3 * b))) (gg 1 ((103 + (3 * b)) + 1)) (4) n) 1 (103 + (3 * b)))) 1 38 ((ug (sntG gg 0 (gg 1 (103 + (3 * b))) (gg 1 ((103 + (3 * b)) + 1)) (4) n) 1 18 ((sntG gg 0 (gg 1 (103 + (3 * b))) (gg 1 ((103 + (3 * b)) + 1)) (4) n) 1 (103 + (3 * b)))) 1 ((103 + (3 * b)) + 1))) _ b (by omega)) ml_X9_167 im_X9_removesBackup sel_X9_removesBackup ini_X9 cd_X9_removesBackup ok_X9_removesBackup rfl ⟨Nat.le_of_ble_eq_true rfl, Nat.le_of_ble_eq_true rfl⟩ ⟨Nat.zero_le _, Nat.zero_le _⟩ (by decide) rfl rfl rfl (rest := ([] : List Value)) rfl (Nat.le_of_ble_eq_true rfl) ?_
        refine bv_blk C frk_X9 csk_X9 3 58 rfl (L1 := ([(2, .int ((103) + ((3) * (nI b)))), (1, .int (nI b)), (0, .ref 0)] : Lc)) (st1 := ([.int (nI b), .int (3), .ref 0] : List Value)) (w1 := (layM (rbG (ug (ug (sntG gg 0 (gg 1 (103 + (3 * b))) (gg 1 ((103 + (3 * b)) + 1)) (4) n) 1 18 ((sntG gg 0 (gg 1 (103 + (3 * b))) (gg 1 ((103 + (3 * b)) + 1)) (4) n) 1 (103 + (3 * b)))) 1 38 ((ug (sntG gg 0 (gg 1 (103 + (3 * b))) (gg 1 ((103 + (3 * b)) + 1)) (4) n) 1 18 ((sntG gg 0 (gg 1 (103 + (3 * b))) (gg 1 ((103 + (3 * b)) + 1)) (4) n) 1 (103 + (3 * b)))) 1 ((103 + (3 * b)) + 1))) b) h)) (by rfl) ?_
        refine bv_fV0 C rfl (ct_notes hE (rbG (ug (ug (sntG gg 0 (gg 1 (103 + (3 * b))) (gg 1 ((103 + (3 * b)) + 1)) (4) n) 1 18 ((sntG gg 0 (gg 1 (103 + (3 * b))) (gg 1 ((103 + (3 * b)) + 1)) (4) n) 1 (103 + (3 * b)))) 1 38 ((ug (sntG gg 0 (gg 1 (103 + (3 * b))) (gg 1 ((103 + (3 * b)) + 1)) (4) n) 1 18 ((sntG gg 0 (gg 1 (103 + (3 * b))) (gg 1 ((103 + (3 * b)) + 1)) (4) n) 1 (103 + (3 * b)))) 1 ((103 + (3 * b)) + 1))) b) _ (3) (nI b) (evK_at hev ((kf_rb 14 (by omega) (by omega)).trans (kf_rcT (n := n) (b := b) 14 (by unfold frK; omega))))) ml_X9_127 im_X9_notes sel_X9_notes ini_X9 cd_X9_notes ok_X9_notes rfl ⟨Nat.le_of_ble_eq_true rfl, Nat.le_of_ble_eq_true rfl⟩ ⟨Nat.zero_le _, Nat.zero_le _⟩ (by decide) rfl rfl rfl (rest := ([] : List Value)) rfl (Nat.le_of_ble_eq_true rfl) ?_
        exact bv_vret C rfl hr ⟨by (rfl), by (rw [← heq, show rcF n (q + 1) b gg = if hrdG gg 0 (gg 1 (103 + (3 * b))) (gg 1 (103 + (3 * b) + 1)) n = true then nteG (rbG (rcT n b gg) b) 3 (nI b) else rcF n q (b + 1) (rcS n b gg) from rfl, if_pos (b2i_1 c3)]; rfl)⟩
  refine bv_sub [0, 1] (by rfl) ?_
  exact lp Bk 0 _ (by omega) (st_same (kp_ug (i := 1) (k := 1) (x := (0)) (by omega) (kp_rf _)) hs) (evK_at hev (ug_ne (by omega))) ((ug_ne (by omega)).trans hB) rfl
