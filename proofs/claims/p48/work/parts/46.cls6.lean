theorem shK_3 (g : Nat → Nat → Int32) (lo k : Nat) (hk : 1 ≤ k) (h : lo ≤ 100 + 3 * k) : ug (ug (ug (shK g lo (100 + 3 * k)) 1 (103 + 3 * (k - 1)) ((shK g lo (100 + 3 * k)) 1 (103 + 3 * k))) 1 (103 + 3 * (k - 1) + 1) ((ug (shK g lo (100 + 3 * k)) 1 (103 + 3 * (k - 1)) ((shK g lo (100 + 3 * k)) 1 (103 + 3 * k))) 1 (103 + 3 * k + 1))) 1 (103 + 3 * (k - 1) + 2) ((ug (ug (shK g lo (100 + 3 * k)) 1 (103 + 3 * (k - 1)) ((shK g lo (100 + 3 * k)) 1 (103 + 3 * k))) 1 (103 + 3 * (k - 1) + 1) ((ug (shK g lo (100 + 3 * k)) 1 (103 + 3 * (k - 1)) ((shK g lo (100 + 3 * k)) 1 (103 + 3 * k))) 1 (103 + 3 * k + 1))) 1 (103 + 3 * k + 2)) = shK g lo (100 + 3 * (k + 1)) := by
  have s1 := shK_s g lo (100 + 3 * k) h
  have s2 := shK_s g lo (100 + 3 * k + 1) (by omega)
  have s3 := shK_s g lo (100 + 3 * k + 2) (by omega)
  rw [show 103 + 3 * (k - 1) = 100 + 3 * k by omega, show 103 + 3 * k = 100 + 3 * k + 3 by omega, s1, show 100 + 3 * k + 3 + 1 = 100 + 3 * k + 1 + 3 by omega, s2, show 100 + 3 * k + 3 + 2 = 100 + 3 * k + 2 + 3 by omega, s3, show 100 + 3 * k + 2 + 1 = 100 + 3 * (k + 1) by omega]
theorem shE_3 (g : Nat → Nat → Int32) (k : Nat) (hk : 1 ≤ k) : ug (ug (ug (shE g (3 * (k - 1))) 1 (112 + 3 * (k - 1)) ((shE g (3 * (k - 1))) 1 (112 + 3 * k))) 1 (112 + 3 * (k - 1) + 1) ((ug (shE g (3 * (k - 1))) 1 (112 + 3 * (k - 1)) ((shE g (3 * (k - 1))) 1 (112 + 3 * k))) 1 (112 + 3 * k + 1))) 1 (112 + 3 * (k - 1) + 2) ((ug (ug (shE g (3 * (k - 1))) 1 (112 + 3 * (k - 1)) ((shE g (3 * (k - 1))) 1 (112 + 3 * k))) 1 (112 + 3 * (k - 1) + 1) ((ug (shE g (3 * (k - 1))) 1 (112 + 3 * (k - 1)) ((shE g (3 * (k - 1))) 1 (112 + 3 * k))) 1 (112 + 3 * k + 1))) 1 (112 + 3 * k + 2)) = shE g (3 * (k + 1 - 1)) := by
  obtain ⟨q, rfl⟩ : ∃ q, k = q + 1 := ⟨k - 1, by omega⟩
  have s1 := shE_s g (3 * q)
  have s2 := shE_s g (3 * q + 1)
  have s3 := shE_s g (3 * q + 2)
  rw [show q + 1 - 1 = q by omega, show 112 + 3 * (q + 1) = 112 + 3 * q + 3 by omega, s1, show 112 + 3 * q + 1 = 112 + (3 * q + 1) by omega, show 112 + 3 * q + 3 + 1 = 112 + (3 * q + 1) + 3 by omega, s2, show 112 + 3 * q + 2 = 112 + (3 * q + 2) by omega, show 112 + 3 * q + 3 + 2 = 112 + (3 * q + 2) + 3 by omega, s3, show q + 1 + 1 - 1 = q + 1 by omega, show 3 * q + 2 + 1 = 3 * (q + 1) by omega]
theorem bhas_1 {g : Nat → Nat → Int32} {b B : Nat} (hB : g 1 13 = nI B) (hb : b < B) (h3 : B ≤ 3) : cs_bhas_r (nI b) g = 1 := by
  unfold cs_bhas_r
  rw [hB, if_neg (show ¬ nI b < 0 from Int32.not_lt.mpr (nI_le (a := 0) (b := b) (by omega) (by omega))), if_neg (show ¬ nI B ≤ nI b from nI_ge (a := b) (b := B) (by omega) (by omega)), if_neg (show ¬ 3 ≤ nI b from nI_ge (a := b) (b := 3) (by omega) (by omega))]
theorem nte1_C {g : Nat → Nat → Int32} {E : Nat} {kd v : Int32} : ug (ug (ug (ug g 1 (112 + 3 * E) kd) 1 (112 + 3 * E + 1) v) 1 (112 + 3 * E + 2) (g 1 2)) 1 14 ((ug (ug (ug g 1 (112 + 3 * E) kd) 1 (112 + 3 * E + 1) v) 1 (112 + 3 * E + 2) (g 1 2)) 1 14 + 1) = nte1 g E kd v := by
  unfold nte1
  rw [show (ug (ug g 1 (112 + 3 * E) kd) 1 (112 + 3 * E + 1) v) 1 2 = g 1 2 from (ug_ne (by omega)).trans (ug_ne (by omega))]
theorem shE_2 {g : Nat → Nat → Int32} {n : Nat} : (ug (shE g n) 1 14 19) 1 2 = g 1 2 := by
  rw [ug_ne (by omega)]
  unfold shE
  rw [if_neg (by omega)]
set_option maxRecDepth 100000 in
set_option maxHeartbeats 8000000 in
theorem cs_forget {l : Launch} {D : va_G} {cA : FieldType → ClassId} {z0 : Nat} {SK : Nat → Nat} {SV : Nat → Int32} {ad : Nat → Nat} (hE : aD (fun q => z0 ≤ q) ad 26) (g : Nat → Nat → Int32) (σ τ : Nat → Nat) (hσ : pmK σ τ)  : bF l D cA z0 SK SV ad shB 26 yX1_forgetOldest cX1_forgetOldest 2 none 0 [.ref 18] (layB g σ τ) none (layB (ug (shE g 57) 1 14 19) σ τ) := by
  refine bCT_intro (tb := tb_X1_forgetOldest) (own := RX1) hE pn_X1 rfl tk_X1_forgetOldest rfl (Nat.le_of_ble_eq_true rfl) ?_
  intro p e s0 m args below meth c C hr
  refine bv_blk C frk_X1 csk_X1 2 2 rfl (L1 := ([(1, .int (1)), (0, .ref 18)] : Lc)) (st1 := ([] : List Value)) (w1 := (layB g σ τ)) (by rfl) ?_
  have lp_a : ∀ (n_a k_a : Nat), 1 ≤ k_a → k_a + n_a = 20 → bV p l e (bR 0) s0 m args below meth c D cA shB (adA ad 26) 2 tb_X1_forgetOldest (MQ below (bQ D cA ad shB 26 (fun r w1 => r = none ∧ w1 = (layB (ug (shE g 57) 1 14 19) σ τ))) args s0 0 0 (adA ad 26)) ad 26 0 0 (layB (shE g (3 * (k_a - 1))) σ τ) 2 ([(1, .int (nI k_a)), (0, .ref 18)] : Lc) ([] : List Value) := by
    intro n_a
    induction n_a with
    | zero =>
      intro k_a hs_a hk_a
      have hkB_a : k_a = 20 := by omega
      rw [hkB_a]
      refine bv_blk C frk_X1 csk_X1 2 4 rfl (L1 := ([(1, .int (nI 20)), (0, .ref 18)] : Lc)) (st1 := ([.int (20), .int (nI 20)] : List Value)) (w1 := (layB (shE g (3 * (20 - 1))) σ τ)) (by rfl) ?_
      refine bv_icmp_ge (j := 37) C rfl rfl (fun _ => ?_) (fun h => absurd (nI_le (a := 20) (b := 20) (by omega) (by omega)) h)
      refine bv_blk C frk_X1 csk_X1 3 40 rfl (L1 := ([(1, .int (nI 20)), (0, .ref 18)] : Lc)) (st1 := ([] : List Value)) (w1 := up2 (layB (shE g (3 * (20 - 1))) σ τ) 18 3 (.int (19))) (by rfl) ?_
      refine bv_w (lb_up (o := 18) (k := 3) (a := 1) (b := 14) hσ (by decide) (by decide) (by rfl) (by rfl)) ?_
      exact bv_vret C rfl hr ⟨by (rfl), by (rfl)⟩
    | succ n_a ih =>
      intro k_a hs_a hk_a
      refine bv_blk C frk_X1 csk_X1 2 4 rfl (L1 := ([(1, .int (nI k_a)), (0, .ref 18)] : Lc)) (st1 := ([.int (20), .int (nI k_a)] : List Value)) (w1 := (layB (shE g (3 * (k_a - 1))) σ τ)) (by rfl) ?_
      refine bv_icmp_ge (j := 37) C rfl rfl (fun h => absurd h (nI_ge (a := k_a) (b := 20) (by omega) (by omega))) (fun _ => ?_)
      refine bv_blk C frk_X1 csk_X1 8 13 rfl (L1 := ([(1, .int (nI k_a)), (0, .ref 18)] : Lc)) (st1 := ([.int (nI k_a), .ref 19, .int ((nI k_a) - (1)), .ref 19] : List Value)) (w1 := (layB (shE g (3 * (k_a - 1))) σ τ)) (by rfl) ?_
      refine bv_iald C rfl rfl (by decide) (j := k_a) (by exact rfl) (by first | decide | omega) (by decide) (y := ((shE g (3 * (k_a - 1))) 1 (112 + 3 * k_a))) (by rfl) ?_
      refine bv_iast C rfl rfl (by decide) (j := (k_a - 1)) (by exact (nIs rfl rfl (by omega))) (by first | decide | omega) (by decide) ?_
      refine bv_w (lb_up (o := 19) (k := (k_a - 1)) (a := 1) (b := (112 + 3 * (k_a - 1))) hσ (by decide) (show (k_a - 1) < 20 by first | decide | omega) (by rfl) (by rfl)) ?_
      refine bv_blk C frk_X1 csk_X1 8 23 rfl (L1 := ([(1, .int (nI k_a)), (0, .ref 18)] : Lc)) (st1 := ([.int (nI k_a), .ref 20, .int ((nI k_a) - (1)), .ref 20] : List Value)) (w1 := (layB (ug (shE g (3 * (k_a - 1))) 1 (112 + 3 * (k_a - 1)) ((shE g (3 * (k_a - 1))) 1 (112 + 3 * k_a))) σ τ)) (by rfl) ?_
      refine bv_iald C rfl rfl (by decide) (j := k_a) (by exact rfl) (by first | decide | omega) (by decide) (y := ((ug (shE g (3 * (k_a - 1))) 1 (112 + 3 * (k_a - 1)) ((shE g (3 * (k_a - 1))) 1 (112 + 3 * k_a))) 1 (112 + 3 * k_a + 1))) (by rfl) ?_
      refine bv_iast C rfl rfl (by decide) (j := (k_a - 1)) (by exact (nIs rfl rfl (by omega))) (by first | decide | omega) (by decide) ?_
      refine bv_w (lb_up (o := 20) (k := (k_a - 1)) (a := 1) (b := (112 + 3 * (k_a - 1) + 1)) hσ (by decide) (show (k_a - 1) < 20 by first | decide | omega) (by rfl) (by rfl)) ?_
      refine bv_blk C frk_X1 csk_X1 8 33 rfl (L1 := ([(1, .int (nI k_a)), (0, .ref 18)] : Lc)) (st1 := ([.int (nI k_a), .ref 21, .int ((nI k_a) - (1)), .ref 21] : List Value)) (w1 := (layB (ug (ug (shE g (3 * (k_a - 1))) 1 (112 + 3 * (k_a - 1)) ((shE g (3 * (k_a - 1))) 1 (112 + 3 * k_a))) 1 (112 + 3 * (k_a - 1) + 1) ((ug (shE g (3 * (k_a - 1))) 1 (112 + 3 * (k_a - 1)) ((shE g (3 * (k_a - 1))) 1 (112 + 3 * k_a))) 1 (112 + 3 * k_a + 1))) σ τ)) (by rfl) ?_
      refine bv_iald C rfl rfl (by decide) (j := k_a) (by exact rfl) (by first | decide | omega) (by decide) (y := ((ug (ug (shE g (3 * (k_a - 1))) 1 (112 + 3 * (k_a - 1)) ((shE g (3 * (k_a - 1))) 1 (112 + 3 * k_a))) 1 (112 + 3 * (k_a - 1) + 1) ((ug (shE g (3 * (k_a - 1))) 1 (112 + 3 * (k_a - 1)) ((shE g (3 * (k_a - 1))) 1 (112 + 3 * k_a))) 1 (112 + 3 * k_a + 1))) 1 (112 + 3 * k_a + 2))) (by rfl) ?_
      refine bv_iast C rfl rfl (by decide) (j := (k_a - 1)) (by exact (nIs rfl rfl (by omega))) (by first | decide | omega) (by decide) ?_
      refine bv_w (lb_up (o := 21) (k := (k_a - 1)) (a := 1) (b := (112 + 3 * (k_a - 1) + 2)) hσ (by decide) (show (k_a - 1) < 20 by first | decide | omega) (by rfl) (by rfl)) ?_
      refine bv_blk C frk_X1 csk_X1 1 36 rfl (L1 := ([(1, .int ((nI k_a) + Int32.ofInt 1)), (0, .ref 18)] : Lc)) (st1 := ([] : List Value)) (w1 := (layB (ug (ug (ug (shE g (3 * (k_a - 1))) 1 (112 + 3 * (k_a - 1)) ((shE g (3 * (k_a - 1))) 1 (112 + 3 * k_a))) 1 (112 + 3 * (k_a - 1) + 1) ((ug (shE g (3 * (k_a - 1))) 1 (112 + 3 * (k_a - 1)) ((shE g (3 * (k_a - 1))) 1 (112 + 3 * k_a))) 1 (112 + 3 * k_a + 1))) 1 (112 + 3 * (k_a - 1) + 2) ((ug (ug (shE g (3 * (k_a - 1))) 1 (112 + 3 * (k_a - 1)) ((shE g (3 * (k_a - 1))) 1 (112 + 3 * k_a))) 1 (112 + 3 * (k_a - 1) + 1) ((ug (shE g (3 * (k_a - 1))) 1 (112 + 3 * (k_a - 1)) ((shE g (3 * (k_a - 1))) 1 (112 + 3 * k_a))) 1 (112 + 3 * k_a + 1))) 1 (112 + 3 * k_a + 2))) σ τ)) (by rfl) ?_
      rw [show ((nI k_a) + Int32.ofInt 1) = nI (k_a + 1) from (nIi rfl)]
      refine bv_goto (j := 2) C rfl rfl ?_
      refine bv_weq (show (layB (ug (ug (ug (shE g (3 * (k_a - 1))) 1 (112 + 3 * (k_a - 1)) ((shE g (3 * (k_a - 1))) 1 (112 + 3 * k_a))) 1 (112 + 3 * (k_a - 1) + 1) ((ug (shE g (3 * (k_a - 1))) 1 (112 + 3 * (k_a - 1)) ((shE g (3 * (k_a - 1))) 1 (112 + 3 * k_a))) 1 (112 + 3 * k_a + 1))) 1 (112 + 3 * (k_a - 1) + 2) ((ug (ug (shE g (3 * (k_a - 1))) 1 (112 + 3 * (k_a - 1)) ((shE g (3 * (k_a - 1))) 1 (112 + 3 * k_a))) 1 (112 + 3 * (k_a - 1) + 1) ((ug (shE g (3 * (k_a - 1))) 1 (112 + 3 * (k_a - 1)) ((shE g (3 * (k_a - 1))) 1 (112 + 3 * k_a))) 1 (112 + 3 * k_a + 1))) 1 (112 + 3 * k_a + 2))) σ τ) = (layB (shE g (3 * ((k_a + 1) - 1))) σ τ) from by exact congrArg (fun x => layB x σ τ) (shE_3 g k_a (by omega))) ?_
      refine bv_sub [0, 1] (by rfl) ?_
      exact ih (k_a + 1) (by omega) (by omega)
  refine bv_weq (show (layB g σ τ) = (layB (shE g (3 * (1 - 1))) σ τ) from by rw [show 3 * (1 - 1) = 0 from rfl, shE_0]) ?_
  refine bv_sub [0, 1] (by rfl) ?_
  exact lp_a (20 - 1) 1 (Nat.le_refl _) (by omega)
set_option maxRecDepth 100000 in
set_option maxHeartbeats 8000000 in
theorem cs_eaddA {l : Launch} {D : va_G} {cA : FieldType → ClassId} {z0 : Nat} {SK : Nat → Nat} {SV : Nat → Int32} {ad : Nat → Nat} (hE : aD (fun q => z0 ≤ q) ad 26) (g : Nat → Nat → Int32) (σ τ : Nat → Nat) (hσ : pmK σ τ) (E : Nat) (kd v : Int32) (hE1 : g 1 14 = nI E) (hE2 : E < 20) : bF l D cA z0 SK SV ad shB 26 yX1_add cX1_add 4 none 1 [.ref 18, .int kd, .int v, .int (g 1 2)] (layB g σ τ) none (layB (nte1 g E kd v) σ τ) := by
  refine bCT_intro (tb := tb_X1_add) (own := RX1) hE pn_X1 rfl tk_X1_add rfl (Nat.le_of_ble_eq_true rfl) ?_
  intro p e s0 m args below meth c C hr
  refine bv_blk C frk_X1 csk_X1 3 3 rfl (L1 := ([(0, .ref 18), (1, .int kd), (2, .int v), (3, .int (g 1 2))] : Lc)) (st1 := ([.int (20), .int (g 1 14)] : List Value)) (w1 := (layB g σ τ)) (by rfl) ?_
  refine bv_icmp_lt (j := 6) C rfl rfl (fun _ => ?_) (fun h => absurd (by rw [show (g 1 14) = nI E from hE1]; exact (nI_lt (a := E) (b := 20) (by omega) (by omega))) h)
  refine bv_blk C frk_X1 csk_X1 2 8 rfl (L1 := ([(0, .ref 18), (1, .int kd), (2, .int v), (3, .int (g 1 2))] : Lc)) (st1 := ([.int (g 1 14)] : List Value)) (w1 := (layB g σ τ)) (by rfl) ?_
  refine bv_if_ge (j := 10) C rfl rfl (fun _ => ?_) (fun h => absurd (by rw [show (g 1 14) = nI E from hE1]; exact (nI_le (a := 0) (b := E) (by omega) (by omega))) h)
  refine bv_blk C frk_X1 csk_X1 5 15 rfl (L1 := ([(0, .ref 18), (1, .int kd), (2, .int v), (3, .int (g 1 2))] : Lc)) (st1 := ([.int kd, .int (g 1 14), .ref 19] : List Value)) (w1 := (layB g σ τ)) (by rfl) ?_
  refine bv_iast C rfl rfl (by decide) (j := E) (by exact hE1) (by first | decide | omega) (by decide) ?_
  refine bv_w (lb_up (o := 19) (k := E) (a := 1) (b := (112 + 3 * E)) hσ (by decide) (show E < 20 by first | decide | omega) (by rfl) (by rfl)) ?_
  refine bv_blk C frk_X1 csk_X1 5 21 rfl (L1 := ([(0, .ref 18), (1, .int kd), (2, .int v), (3, .int (g 1 2))] : Lc)) (st1 := ([.int v, .int ((ug g 1 (112 + 3 * E) kd) 1 14), .ref 20] : List Value)) (w1 := (layB (ug g 1 (112 + 3 * E) kd) σ τ)) (by rfl) ?_
  refine bv_iast C rfl rfl (by decide) (j := E) (by exact ((ug_ne (by omega)).trans (hE1))) (by first | decide | omega) (by decide) ?_
  refine bv_w (lb_up (o := 20) (k := E) (a := 1) (b := (112 + 3 * E + 1)) hσ (by decide) (show E < 20 by first | decide | omega) (by rfl) (by rfl)) ?_
  refine bv_blk C frk_X1 csk_X1 5 27 rfl (L1 := ([(0, .ref 18), (1, .int kd), (2, .int v), (3, .int (g 1 2))] : Lc)) (st1 := ([.int (g 1 2), .int ((ug (ug g 1 (112 + 3 * E) kd) 1 (112 + 3 * E + 1) v) 1 14), .ref 21] : List Value)) (w1 := (layB (ug (ug g 1 (112 + 3 * E) kd) 1 (112 + 3 * E + 1) v) σ τ)) (by rfl) ?_
  refine bv_iast C rfl rfl (by decide) (j := E) (by exact ((ug_ne (by omega)).trans ((ug_ne (by omega)).trans (hE1)))) (by first | decide | omega) (by decide) ?_
  refine bv_w (lb_up (o := 21) (k := E) (a := 1) (b := (112 + 3 * E + 2)) hσ (by decide) (show E < 20 by first | decide | omega) (by rfl) (by rfl)) ?_
  refine bv_blk C frk_X1 csk_X1 6 34 rfl (L1 := ([(0, .ref 18), (1, .int kd), (2, .int v), (3, .int (g 1 2))] : Lc)) (st1 := ([] : List Value)) (w1 := up2 (layB (ug (ug (ug g 1 (112 + 3 * E) kd) 1 (112 + 3 * E + 1) v) 1 (112 + 3 * E + 2) (g 1 2)) σ τ) 18 3 (.int (((ug (ug (ug g 1 (112 + 3 * E) kd) 1 (112 + 3 * E + 1) v) 1 (112 + 3 * E + 2) (g 1 2)) 1 14) + (1)))) (by rfl) ?_
  refine bv_w (lb_up (o := 18) (k := 3) (a := 1) (b := 14) hσ (by decide) (by decide) (by rfl) (by rfl)) ?_
  exact bv_vret C rfl hr ⟨by (rfl), by (exact congrArg (fun x => layB x σ τ) nte1_C)⟩
set_option maxRecDepth 100000 in
set_option maxHeartbeats 8000000 in
theorem cs_eaddB {l : Launch} {D : va_G} {cA : FieldType → ClassId} {z0 : Nat} {SK : Nat → Nat} {SV : Nat → Int32} {ad : Nat → Nat} (hE : aD (fun q => z0 ≤ q) ad 26) (g : Nat → Nat → Int32) (σ τ : Nat → Nat) (hσ : pmK σ τ) (kd v : Int32) (hE1 : g 1 14 = nI 20) : bF l D cA z0 SK SV ad shB 26 yX1_add cX1_add 4 none 1 [.ref 18, .int kd, .int v, .int (g 1 2)] (layB g σ τ) none (layB (nte1 (ug (shE g 57) 1 14 19) 19 kd v) σ τ) := by
  refine bCT_intro (tb := tb_X1_add) (own := RX1) hE pn_X1 rfl tk_X1_add rfl (Nat.le_of_ble_eq_true rfl) ?_
  intro p e s0 m args below meth c C hr
  refine bv_blk C frk_X1 csk_X1 3 3 rfl (L1 := ([(0, .ref 18), (1, .int kd), (2, .int v), (3, .int (g 1 2))] : Lc)) (st1 := ([.int (20), .int (g 1 14)] : List Value)) (w1 := (layB g σ τ)) (by rfl) ?_
  refine bv_icmp_lt (j := 6) C rfl rfl (fun h => absurd h (by rw [show (g 1 14) = nI 20 from hE1]; exact (nI_nlt (a := 20) (b := 20) (by omega) (by omega)))) (fun _ => ?_)
  refine bv_blk C frk_X1 csk_X1 1 5 rfl (L1 := ([(0, .ref 18), (1, .int kd), (2, .int v), (3, .int (g 1 2))] : Lc)) (st1 := ([.ref 18] : List Value)) (w1 := (layB g σ τ)) (by rfl) ?_
  refine bv_fV0 C rfl (cs_forget hE g σ τ hσ) ml_X1_25 im_X1_forgetOldest sel_X1_forgetOldest ini_X1 cd_X1_forgetOldest ok_X1_forgetOldest rfl ⟨Nat.le_of_ble_eq_true rfl, Nat.le_of_ble_eq_true rfl⟩ ⟨Nat.zero_le _, Nat.zero_le _⟩ (by decide) rfl rfl rfl (rest := ([] : List Value)) rfl (Nat.le_of_ble_eq_true rfl) ?_
  refine bv_blk C frk_X1 csk_X1 2 8 rfl (L1 := ([(0, .ref 18), (1, .int kd), (2, .int v), (3, .int (g 1 2))] : Lc)) (st1 := ([.int (19)] : List Value)) (w1 := (layB (ug (shE g 57) 1 14 (19)) σ τ)) (by rfl) ?_
  refine bv_if_ge (j := 10) C rfl rfl (fun _ => ?_) (fun h => absurd h (by decide))
  refine bv_blk C frk_X1 csk_X1 5 15 rfl (L1 := ([(0, .ref 18), (1, .int kd), (2, .int v), (3, .int (g 1 2))] : Lc)) (st1 := ([.int kd, .int (19), .ref 19] : List Value)) (w1 := (layB (ug (shE g 57) 1 14 (19)) σ τ)) (by rfl) ?_
  refine bv_iast C rfl rfl (by decide) (j := 19) (by exact rfl) (by first | decide | omega) (by decide) ?_
  refine bv_w (lb_up (o := 19) (k := 19) (a := 1) (b := 169) hσ (by decide) (show 19 < 20 by first | decide | omega) (by rfl) (by rfl)) ?_
  refine bv_blk C frk_X1 csk_X1 5 21 rfl (L1 := ([(0, .ref 18), (1, .int kd), (2, .int v), (3, .int (g 1 2))] : Lc)) (st1 := ([.int v, .int (19), .ref 20] : List Value)) (w1 := (layB (ug (ug (shE g 57) 1 14 (19)) 1 169 kd) σ τ)) (by rfl) ?_
  refine bv_iast C rfl rfl (by decide) (j := 19) (by exact rfl) (by first | decide | omega) (by decide) ?_
  refine bv_w (lb_up (o := 20) (k := 19) (a := 1) (b := 170) hσ (by decide) (show 19 < 20 by first | decide | omega) (by rfl) (by rfl)) ?_
  refine bv_blk C frk_X1 csk_X1 5 27 rfl (L1 := ([(0, .ref 18), (1, .int kd), (2, .int v), (3, .int (g 1 2))] : Lc)) (st1 := ([.int (g 1 2), .int (19), .ref 21] : List Value)) (w1 := (layB (ug (ug (ug (shE g 57) 1 14 (19)) 1 169 kd) 1 170 v) σ τ)) (by rfl) ?_
  refine bv_iast C rfl rfl (by decide) (j := 19) (by exact rfl) (by first | decide | omega) (by decide) ?_
  refine bv_w (lb_up (o := 21) (k := 19) (a := 1) (b := 171) hσ (by decide) (show 19 < 20 by first | decide | omega) (by rfl) (by rfl)) ?_
  refine bv_blk C frk_X1 csk_X1 6 34 rfl (L1 := ([(0, .ref 18), (1, .int kd), (2, .int v), (3, .int (g 1 2))] : Lc)) (st1 := ([] : List Value)) (w1 := up2 (layB (ug (ug (ug (ug (shE g 57) 1 14 (19)) 1 169 kd) 1 170 v) 1 171 (g 1 2)) σ τ) 18 3 (.int ((19) + (1)))) (by rfl) ?_
  refine bv_w (lb_up (o := 18) (k := 3) (a := 1) (b := 14) hσ (by decide) (by decide) (by rfl) (by rfl)) ?_
  exact bv_vret C rfl hr ⟨by (rfl), by (rw [← shE_2 (g := g) (n := 57)]; exact congrArg (fun x => layB x σ τ) (nte1_C (g := ug (shE g 57) 1 14 19) (E := 19)))⟩
theorem cs_eadd {l : Launch} {D : va_G} {cA : FieldType → ClassId} {z0 : Nat} {SK : Nat → Nat} {SV : Nat → Int32} {ad : Nat → Nat} (hE : aD (fun q => z0 ≤ q) ad 26) (g : Nat → Nat → Int32) (σ τ : Nat → Nat) (hσ : pmK σ τ) (kd v z : Int32) (hz : z = g 1 2) (hev : evK g) : bF l D cA z0 SK SV ad shB 26 yX1_add cX1_add 4 none 1 [.ref 18, .int kd, .int v, .int z] (layB g σ τ) none (layB (nteG g kd v) σ τ) := by
  obtain ⟨E, h1, h2⟩ := hev
  subst hz
  unfold nteG
  split
  · next h3 => exact cs_eaddB hE g σ τ hσ kd v h3
  · next h3 =>
    rw [h1, nI_clamp (by omega)]
    exact cs_eaddA hE g σ τ hσ E kd v h1 (lt_of_ne h1 h2 (by omega) h3)
set_option maxRecDepth 100000 in
set_option maxHeartbeats 8000000 in
theorem cs_bremove {l : Launch} {D : va_G} {cA : FieldType → ClassId} {z0 : Nat} {SK : Nat → Nat} {SV : Nat → Int32} {ad : Nat → Nat} (hE : aD (fun q => z0 ≤ q) ad 26) (g : Nat → Nat → Int32) (σ τ : Nat → Nat) (hσ : pmK σ τ) (b B : Nat) (hB : g 1 13 = nI B) (hb : b < B) (h3 : B ≤ 3) : bF l D cA z0 SK SV ad shB 26 yX0_remove cX0_remove 3 none 1 [.ref 14, .int (nI b)] (layB g σ τ) none (layB (rbG g b) σ τ) := by
  refine bCT_intro (tb := tb_X0_remove) (own := RX0) hE pn_X0 rfl tk_X0_remove rfl (Nat.le_of_ble_eq_true rfl) ?_
  intro p e s0 m args below meth c C hr
  refine bv_blk C frk_X0 csk_X0 2 2 rfl (L1 := ([(0, .ref 14), (1, .int (nI b))] : Lc)) (st1 := ([.int (nI b), .ref 14] : List Value)) (w1 := (layB g σ τ)) (by rfl) ?_
  refine bv_fV1 C rfl ((show bF l D cA z0 SK SV ad shB 26 yX0_has cX0_has 2 (some .boolean) 0 [.ref 14, .int (nI b)] (layB g σ τ) (some (.int 1)) (layB g σ τ) by have q := cs_bhas (l := l) (D := D) (cA := cA) (SK := SK) (SV := SV) hE g σ τ hσ (nI b); rw [bhas_1 hB hb h3] at q; exact q)) ml_X0_25 im_X0_has sel_X0_has ini_X0 cd_X0_has ok_X0_has rfl ⟨Nat.le_of_ble_eq_true rfl, Nat.le_of_ble_eq_true rfl⟩ ⟨Nat.zero_le _, Nat.zero_le _⟩ (by decide) rfl rfl rfl (rest := ([] : List Value)) rfl (Nat.le_of_ble_eq_true rfl) ?_
  refine bv_if_ne (j := 5) C rfl rfl (fun _ => ?_) (fun h => absurd h (by decide))
  refine bv_blk C frk_X0 csk_X0 4 9 rfl (L1 := ([(2, .int ((nI b) + (1))), (0, .ref 14), (1, .int (nI b))] : Lc)) (st1 := ([] : List Value)) (w1 := (layB g σ τ)) (by rfl) ?_
  have lp_a : ∀ (n_a k_a : Nat), (b + 1) ≤ k_a → k_a + n_a = 3 → bV p l e (bR 1) s0 m args below meth c D cA shB (adA ad 26) 3 tb_X0_remove (MQ below (bQ D cA ad shB 26 (fun r w1 => r = none ∧ w1 = (layB (rbG g b) σ τ))) args s0 0 0 (adA ad 26)) ad 26 0 0 (layB (shK g (103 + 3 * b) (100 + 3 * k_a)) σ τ) 9 ([(2, .int (nI k_a)), (0, .ref 14), (1, .int (nI b))] : Lc) ([] : List Value) := by
    intro n_a
    induction n_a with
    | zero =>
      intro k_a hs_a hk_a
      have hkB_a : k_a = 3 := by omega
      rw [hkB_a]
      refine bv_blk C frk_X0 csk_X0 2 11 rfl (L1 := ([(2, .int (nI 3)), (0, .ref 14), (1, .int (nI b))] : Lc)) (st1 := ([.int (3), .int (nI 3)] : List Value)) (w1 := (layB (shK g (103 + 3 * b) (100 + 3 * 3)) σ τ)) (by rfl) ?_
      refine bv_icmp_ge (j := 44) C rfl rfl (fun _ => ?_) (fun h => absurd (nI_le (a := 3) (b := 3) (by omega) (by omega)) h)
      refine bv_blk C frk_X0 csk_X0 6 50 rfl (L1 := ([(2, .int (nI 3)), (0, .ref 14), (1, .int (nI b))] : Lc)) (st1 := ([] : List Value)) (w1 := up2 (layB (shK g (103 + 3 * b) (100 + 3 * 3)) σ τ) 14 3 (.int (((shK g (103 + 3 * b) (100 + 3 * 3)) 1 13) - (1)))) (by rfl) ?_
      refine bv_w (lb_up (o := 14) (k := 3) (a := 1) (b := 13) hσ (by decide) (by decide) (by rfl) (by rfl)) ?_
      exact bv_vret C rfl hr ⟨by (rfl), by (unfold rbG; rfl)⟩
    | succ n_a ih =>
      intro k_a hs_a hk_a
      refine bv_blk C frk_X0 csk_X0 2 11 rfl (L1 := ([(2, .int (nI k_a)), (0, .ref 14), (1, .int (nI b))] : Lc)) (st1 := ([.int (3), .int (nI k_a)] : List Value)) (w1 := (layB (shK g (103 + 3 * b) (100 + 3 * k_a)) σ τ)) (by rfl) ?_
      refine bv_icmp_ge (j := 44) C rfl rfl (fun h => absurd h (nI_ge (a := k_a) (b := 3) (by omega) (by omega))) (fun _ => ?_)
      refine bv_blk C frk_X0 csk_X0 8 20 rfl (L1 := ([(2, .int (nI k_a)), (0, .ref 14), (1, .int (nI b))] : Lc)) (st1 := ([.int (nI k_a), .ref 15, .int ((nI k_a) - (1)), .ref 15] : List Value)) (w1 := (layB (shK g (103 + 3 * b) (100 + 3 * k_a)) σ τ)) (by rfl) ?_
      refine bv_iald C rfl rfl (by decide) (j := k_a) (by exact rfl) (by first | decide | omega) (by decide) (y := ((shK g (103 + 3 * b) (100 + 3 * k_a)) 1 (103 + 3 * k_a))) (by rfl) ?_
      refine bv_iast C rfl rfl (by decide) (j := (k_a - 1)) (by exact (nIs rfl rfl (by omega))) (by first | decide | omega) (by decide) ?_
      refine bv_w (lb_up (o := 15) (k := (k_a - 1)) (a := 1) (b := (103 + 3 * (k_a - 1))) hσ (by decide) (show (k_a - 1) < 3 by first | decide | omega) (by rfl) (by rfl)) ?_
      refine bv_blk C frk_X0 csk_X0 8 30 rfl (L1 := ([(2, .int (nI k_a)), (0, .ref 14), (1, .int (nI b))] : Lc)) (st1 := ([.int (nI k_a), .ref 16, .int ((nI k_a) - (1)), .ref 16] : List Value)) (w1 := (layB (ug (shK g (103 + 3 * b) (100 + 3 * k_a)) 1 (103 + 3 * (k_a - 1)) ((shK g (103 + 3 * b) (100 + 3 * k_a)) 1 (103 + 3 * k_a))) σ τ)) (by rfl) ?_
      refine bv_iald C rfl rfl (by decide) (j := k_a) (by exact rfl) (by first | decide | omega) (by decide) (y := ((ug (shK g (103 + 3 * b) (100 + 3 * k_a)) 1 (103 + 3 * (k_a - 1)) ((shK g (103 + 3 * b) (100 + 3 * k_a)) 1 (103 + 3 * k_a))) 1 (103 + 3 * k_a + 1))) (by rfl) ?_
      refine bv_iast C rfl rfl (by decide) (j := (k_a - 1)) (by exact (nIs rfl rfl (by omega))) (by first | decide | omega) (by decide) ?_
      refine bv_w (lb_up (o := 16) (k := (k_a - 1)) (a := 1) (b := (103 + 3 * (k_a - 1) + 1)) hσ (by decide) (show (k_a - 1) < 3 by first | decide | omega) (by rfl) (by rfl)) ?_
      refine bv_blk C frk_X0 csk_X0 8 40 rfl (L1 := ([(2, .int (nI k_a)), (0, .ref 14), (1, .int (nI b))] : Lc)) (st1 := ([.int (nI k_a), .ref 17, .int ((nI k_a) - (1)), .ref 17] : List Value)) (w1 := (layB (ug (ug (shK g (103 + 3 * b) (100 + 3 * k_a)) 1 (103 + 3 * (k_a - 1)) ((shK g (103 + 3 * b) (100 + 3 * k_a)) 1 (103 + 3 * k_a))) 1 (103 + 3 * (k_a - 1) + 1) ((ug (shK g (103 + 3 * b) (100 + 3 * k_a)) 1 (103 + 3 * (k_a - 1)) ((shK g (103 + 3 * b) (100 + 3 * k_a)) 1 (103 + 3 * k_a))) 1 (103 + 3 * k_a + 1))) σ τ)) (by rfl) ?_
      refine bv_iald C rfl rfl (by decide) (j := k_a) (by exact rfl) (by first | decide | omega) (by decide) (y := ((ug (ug (shK g (103 + 3 * b) (100 + 3 * k_a)) 1 (103 + 3 * (k_a - 1)) ((shK g (103 + 3 * b) (100 + 3 * k_a)) 1 (103 + 3 * k_a))) 1 (103 + 3 * (k_a - 1) + 1) ((ug (shK g (103 + 3 * b) (100 + 3 * k_a)) 1 (103 + 3 * (k_a - 1)) ((shK g (103 + 3 * b) (100 + 3 * k_a)) 1 (103 + 3 * k_a))) 1 (103 + 3 * k_a + 1))) 1 (103 + 3 * k_a + 2))) (by rfl) ?_
      refine bv_iast C rfl rfl (by decide) (j := (k_a - 1)) (by exact (nIs rfl rfl (by omega))) (by first | decide | omega) (by decide) ?_
      refine bv_w (lb_up (o := 17) (k := (k_a - 1)) (a := 1) (b := (103 + 3 * (k_a - 1) + 2)) hσ (by decide) (show (k_a - 1) < 3 by first | decide | omega) (by rfl) (by rfl)) ?_
      refine bv_blk C frk_X0 csk_X0 1 43 rfl (L1 := ([(2, .int ((nI k_a) + Int32.ofInt 1)), (0, .ref 14), (1, .int (nI b))] : Lc)) (st1 := ([] : List Value)) (w1 := (layB (ug (ug (ug (shK g (103 + 3 * b) (100 + 3 * k_a)) 1 (103 + 3 * (k_a - 1)) ((shK g (103 + 3 * b) (100 + 3 * k_a)) 1 (103 + 3 * k_a))) 1 (103 + 3 * (k_a - 1) + 1) ((ug (shK g (103 + 3 * b) (100 + 3 * k_a)) 1 (103 + 3 * (k_a - 1)) ((shK g (103 + 3 * b) (100 + 3 * k_a)) 1 (103 + 3 * k_a))) 1 (103 + 3 * k_a + 1))) 1 (103 + 3 * (k_a - 1) + 2) ((ug (ug (shK g (103 + 3 * b) (100 + 3 * k_a)) 1 (103 + 3 * (k_a - 1)) ((shK g (103 + 3 * b) (100 + 3 * k_a)) 1 (103 + 3 * k_a))) 1 (103 + 3 * (k_a - 1) + 1) ((ug (shK g (103 + 3 * b) (100 + 3 * k_a)) 1 (103 + 3 * (k_a - 1)) ((shK g (103 + 3 * b) (100 + 3 * k_a)) 1 (103 + 3 * k_a))) 1 (103 + 3 * k_a + 1))) 1 (103 + 3 * k_a + 2))) σ τ)) (by rfl) ?_
      rw [show ((nI k_a) + Int32.ofInt 1) = nI (k_a + 1) from (nIi rfl)]
      refine bv_goto (j := 9) C rfl rfl ?_
      refine bv_weq (show (layB (ug (ug (ug (shK g (103 + 3 * b) (100 + 3 * k_a)) 1 (103 + 3 * (k_a - 1)) ((shK g (103 + 3 * b) (100 + 3 * k_a)) 1 (103 + 3 * k_a))) 1 (103 + 3 * (k_a - 1) + 1) ((ug (shK g (103 + 3 * b) (100 + 3 * k_a)) 1 (103 + 3 * (k_a - 1)) ((shK g (103 + 3 * b) (100 + 3 * k_a)) 1 (103 + 3 * k_a))) 1 (103 + 3 * k_a + 1))) 1 (103 + 3 * (k_a - 1) + 2) ((ug (ug (shK g (103 + 3 * b) (100 + 3 * k_a)) 1 (103 + 3 * (k_a - 1)) ((shK g (103 + 3 * b) (100 + 3 * k_a)) 1 (103 + 3 * k_a))) 1 (103 + 3 * (k_a - 1) + 1) ((ug (shK g (103 + 3 * b) (100 + 3 * k_a)) 1 (103 + 3 * (k_a - 1)) ((shK g (103 + 3 * b) (100 + 3 * k_a)) 1 (103 + 3 * k_a))) 1 (103 + 3 * k_a + 1))) 1 (103 + 3 * k_a + 2))) σ τ) = (layB (shK g (103 + 3 * b) (100 + 3 * (k_a + 1))) σ τ) from by exact congrArg (fun x => layB x σ τ) (shK_3 g (103 + 3 * b) k_a (by omega) (by omega))) ?_
      refine bv_sub [0, 1, 2] (by rfl) ?_
      exact ih (k_a + 1) (by omega) (by omega)
  rw [show ((nI b) + (1)) = nI (b + 1) from (nIa rfl rfl)]
  refine bv_weq (show (layB g σ τ) = (layB (shK g (103 + 3 * b) (100 + 3 * (b + 1))) σ τ) from by rw [show 100 + 3 * (b + 1) = 103 + 3 * b by omega, shK_0]) ?_
  refine bv_sub [0, 1, 2] (by rfl) ?_
  exact lp_a (3 - (b + 1)) (b + 1) (Nat.le_refl _) (by omega)
