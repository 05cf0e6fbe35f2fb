theorem ite_eqz {p : Prop} [Decidable p] {x y z : Int32} (h1 : p → x = z) (h2 : ¬ p → y = z) : (if p then x else y) = z := by
  by_cases h : p
  · rw [if_pos h]; exact h1 h
  · rw [if_neg h]; exact h2 h
theorem cpR_at {g g2 : Nat → Nat → Int32} {lo hi a k : Nat} : cpR g g2 lo hi a k = if a = 1 ∧ lo ≤ k ∧ k < hi then g2 1 k else g a k := rfl
theorem cp_all {g g2 : Nat → Nat → Int32} : (ug (ug (ug (ug (ug (ug (ug (ug (ug (ug (ug (ug (cpR (cpR (cpR (cpR (ug (cpR (cpR (cpR g g2 15 35) g2 35 55) g2 55 (55 + 6 * 8)) 1 12 (g2 1 12)) g2 103 112) g2 13 14) g2 112 172) g2 14 15) 1 0 (g2 1 0)) 1 1 (g2 1 1)) 1 2 (g2 1 2)) 1 3 (g2 1 3)) 1 4 (g2 1 4)) 1 5 (g2 1 5)) 1 6 (g2 1 6)) 1 7 (g2 1 7)) 1 8 (g2 1 8)) 1 9 (g2 1 9)) 1 10 (g2 1 10)) 1 11 (g2 1 11)) = cpA g g2 := by
  simp only [cpR_1]
  funext a k
  unfold cpA
  simp only [cpR_at]
  by_cases h : a = 1 ∧ 0 ≤ k ∧ k < 172
  · rw [if_pos h]
    refine ite_eqz (fun _ => rfl) (fun d0 => ?_)
    refine ite_eqz (fun _ => rfl) (fun d1 => ?_)
    refine ite_eqz (fun _ => rfl) (fun d2 => ?_)
    refine ite_eqz (fun _ => rfl) (fun d3 => ?_)
    refine ite_eqz (fun _ => rfl) (fun d4 => ?_)
    refine ite_eqz (fun _ => rfl) (fun d5 => ?_)
    refine ite_eqz (fun _ => rfl) (fun d6 => ?_)
    refine ite_eqz (fun _ => rfl) (fun d7 => ?_)
    refine ite_eqz (fun _ => rfl) (fun d8 => ?_)
    refine ite_eqz (fun _ => rfl) (fun d9 => ?_)
    refine ite_eqz (fun _ => rfl) (fun d10 => ?_)
    refine ite_eqz (fun _ => rfl) (fun d11 => ?_)
    refine ite_eqz (fun _ => rfl) (fun d12 => ?_)
    refine ite_eqz (fun _ => rfl) (fun d13 => ?_)
    refine ite_eqz (fun _ => rfl) (fun d14 => ?_)
    refine ite_eqz (fun _ => rfl) (fun d15 => ?_)
    refine ite_eqz (fun _ => rfl) (fun d16 => ?_)
    refine ite_eqz (fun _ => rfl) (fun d17 => ?_)
    refine ite_eqz (fun _ => rfl) (fun d18 => ?_)
    refine ite_eqz (fun _ => rfl) (fun d19 => ?_)
    exfalso; omega
  · rw [if_neg h]
    refine ite_eqz (fun z => absurd z (by omega)) (fun _ => ?_)
    refine ite_eqz (fun z => absurd z (by omega)) (fun _ => ?_)
    refine ite_eqz (fun z => absurd z (by omega)) (fun _ => ?_)
    refine ite_eqz (fun z => absurd z (by omega)) (fun _ => ?_)
    refine ite_eqz (fun z => absurd z (by omega)) (fun _ => ?_)
    refine ite_eqz (fun z => absurd z (by omega)) (fun _ => ?_)
    refine ite_eqz (fun z => absurd z (by omega)) (fun _ => ?_)
    refine ite_eqz (fun z => absurd z (by omega)) (fun _ => ?_)
    refine ite_eqz (fun z => absurd z (by omega)) (fun _ => ?_)
    refine ite_eqz (fun z => absurd z (by omega)) (fun _ => ?_)
    refine ite_eqz (fun z => absurd z (by omega)) (fun _ => ?_)
    refine ite_eqz (fun z => absurd z (by omega)) (fun _ => ?_)
    refine ite_eqz (fun z => absurd z (by omega)) (fun _ => ?_)
    refine ite_eqz (fun z => absurd z (by omega)) (fun _ => ?_)
    refine ite_eqz (fun z => absurd z (by omega)) (fun _ => ?_)
    refine ite_eqz (fun z => absurd z (by omega)) (fun _ => ?_)
    refine ite_eqz (fun z => absurd z (by omega)) (fun _ => ?_)
    refine ite_eqz (fun z => absurd z (by omega)) (fun _ => ?_)
    refine ite_eqz (fun z => absurd z (by omega)) (fun _ => ?_)
    refine ite_eqz (fun z => absurd z (by omega)) (fun _ => ?_)
    rfl
set_option maxRecDepth 100000 in
set_option maxHeartbeats 8000000 in
theorem ct2_state {l : Launch} {D : va_G} {cA : FieldType → ClassId} {z0 : Nat} {SK : Nat → Nat} {SV : Nat → Int32} {ad : Nat → Nat} (hE : aD (fun q => z0 ≤ q) ad 44) (g g2 : Nat → Nat → Int32) (σ τ σ2 τ2 : Nat → Nat) (hσ : pmK σ τ) (hσ2 : pmK σ2 τ2)  (hb : ∀ k, (k = 0 ∨ k = 8 ∨ k = 11) → (g2 1 k = 0 ∨ g2 1 k = 1)) : bF l D cA z0 SK SV ad shU 44 yX6_copyFrom cX6_copyFrom 3 none 1 [.ref 0, .ref 22] (layT g σ τ g2 σ2 τ2) none (layT (cpA g g2) σ τ g2 σ2 τ2) := by
  refine bCT_intro (tb := tb_X6_copyFrom) (own := RX6) hE pn_X6 rfl tk_X6_copyFrom rfl (Nat.le_of_ble_eq_true rfl) ?_
  intro p e s0 m args below meth c C hr
  refine bv_blk C frk_X6 csk_X6 4 4 rfl (L1 := ([(0, .ref 0), (1, .ref 22)] : Lc)) (st1 := ([.ref 23, .ref 1] : List Value)) (w1 := (layT g σ τ g2 σ2 τ2)) (by rfl) ?_
  refine bv_fV0 C rfl (ct2_station_1 hE g g2 σ τ σ2 τ2 hσ hσ2) ml_X6_94 im_X7_copyFrom sel_X7_copyFrom ini_X7 cd_X7_copyFrom ok_X7_copyFrom rfl ⟨Nat.le_of_ble_eq_true rfl, Nat.le_of_ble_eq_true rfl⟩ ⟨Nat.zero_le _, Nat.zero_le _⟩ (by decide) rfl rfl rfl (rest := ([] : List Value)) rfl (Nat.le_of_ble_eq_true rfl) ?_
  refine bv_blk C frk_X6 csk_X6 4 9 rfl (L1 := ([(0, .ref 0), (1, .ref 22)] : Lc)) (st1 := ([.ref 25, .ref 3] : List Value)) (w1 := (layT (cpR g g2 15 35) σ τ g2 σ2 τ2)) (by rfl) ?_
  refine bv_fV0 C rfl (ct2_station_3 hE (cpR g g2 15 35) g2 σ τ σ2 τ2 hσ hσ2) ml_X6_94 im_X7_copyFrom sel_X7_copyFrom ini_X7 cd_X7_copyFrom ok_X7_copyFrom rfl ⟨Nat.le_of_ble_eq_true rfl, Nat.le_of_ble_eq_true rfl⟩ ⟨Nat.zero_le _, Nat.zero_le _⟩ (by decide) rfl rfl rfl (rest := ([] : List Value)) rfl (Nat.le_of_ble_eq_true rfl) ?_
  refine bv_blk C frk_X6 csk_X6 2 12 rfl (L1 := ([(2, .int (0)), (0, .ref 0), (1, .ref 22)] : Lc)) (st1 := ([] : List Value)) (w1 := (layT (cpR (cpR g g2 15 35) g2 35 55) σ τ g2 σ2 τ2)) (by rfl) ?_
  have lp_a : ∀ (n_a k_a : Nat), 0 ≤ k_a → k_a + n_a = 8 → bV p l e (bR 1) s0 m args below meth c D cA shU (adA ad 44) 3 tb_X6_copyFrom (MQ below (bQ D cA ad shU 44 (fun r w1 => r = none ∧ w1 = (layT (cpA g g2) σ τ g2 σ2 τ2))) args s0 0 0 (adA ad 44)) ad 44 0 0 (layT (cpR (cpR (cpR g g2 15 35) g2 35 55) g2 55 (55 + 6 * k_a)) σ τ g2 σ2 τ2) 12 ([(2, .int (nI k_a)), (0, .ref 0), (1, .ref 22)] : Lc) ([] : List Value) := by
    intro n_a
    induction n_a with
    | zero =>
      intro k_a hs_a hk_a
      have hkB_a : k_a = 8 := by omega
      rw [hkB_a]
      refine bv_blk C frk_X6 csk_X6 2 14 rfl (L1 := ([(2, .int (nI 8)), (0, .ref 0), (1, .ref 22)] : Lc)) (st1 := ([.int (8), .int (nI 8)] : List Value)) (w1 := (layT (cpR (cpR (cpR g g2 15 35) g2 35 55) g2 55 (55 + 6 * 8)) σ τ g2 σ2 τ2)) (by rfl) ?_
      refine bv_icmp_ge (j := 26) C rfl rfl (fun _ => ?_) (fun h => absurd (nI_le (a := 8) (b := 8) (by omega) (by omega)) h)
      refine bv_blk C frk_X6 csk_X6 4 30 rfl (L1 := ([(2, .int (nI 8)), (0, .ref 0), (1, .ref 22)] : Lc)) (st1 := ([] : List Value)) (w1 := up2 (layT (cpR (cpR (cpR g g2 15 35) g2 35 55) g2 55 (55 + 6 * 8)) σ τ g2 σ2 τ2) 0 3 (.int (g2 1 12))) (by rfl) ?_
      refine bv_w (lt_up (o := 0) (k := 3) (a := 1) (b := 12) hσ (by decide) (by decide) (by rfl) (by rfl)) ?_
      refine bv_blk C frk_X6 csk_X6 4 34 rfl (L1 := ([(2, .int (nI 8)), (0, .ref 0), (1, .ref 22)] : Lc)) (st1 := ([.ref 36, .ref 14] : List Value)) (w1 := (layT (ug (cpR (cpR (cpR g g2 15 35) g2 35 55) g2 55 (55 + 6 * 8)) 1 12 (g2 1 12)) σ τ g2 σ2 τ2)) (by rfl) ?_
      refine bv_fV0 C rfl (ct2_bk hE (ug (cpR (cpR (cpR g g2 15 35) g2 35 55) g2 55 (55 + 6 * 8)) 1 12 (g2 1 12)) g2 σ τ σ2 τ2 hσ hσ2) ml_X6_101 im_X0_copyFrom sel_X0_copyFrom ini_X0 cd_X0_copyFrom ok_X0_copyFrom rfl ⟨Nat.le_of_ble_eq_true rfl, Nat.le_of_ble_eq_true rfl⟩ ⟨Nat.zero_le _, Nat.zero_le _⟩ (by decide) rfl rfl rfl (rest := ([] : List Value)) rfl (Nat.le_of_ble_eq_true rfl) ?_
      refine bv_blk C frk_X6 csk_X6 4 39 rfl (L1 := ([(2, .int (nI 8)), (0, .ref 0), (1, .ref 22)] : Lc)) (st1 := ([.ref 40, .ref 18] : List Value)) (w1 := (layT (cpR (cpR (ug (cpR (cpR (cpR g g2 15 35) g2 35 55) g2 55 (55 + 6 * 8)) 1 12 (g2 1 12)) g2 103 112) g2 13 14) σ τ g2 σ2 τ2)) (by rfl) ?_
      refine bv_fV0 C rfl (ct2_ev hE (cpR (cpR (ug (cpR (cpR (cpR g g2 15 35) g2 35 55) g2 55 (55 + 6 * 8)) 1 12 (g2 1 12)) g2 103 112) g2 13 14) g2 σ τ σ2 τ2 hσ hσ2) ml_X6_104 im_X1_copyFrom sel_X1_copyFrom ini_X1 cd_X1_copyFrom ok_X1_copyFrom rfl ⟨Nat.le_of_ble_eq_true rfl, Nat.le_of_ble_eq_true rfl⟩ ⟨Nat.zero_le _, Nat.zero_le _⟩ (by decide) rfl rfl rfl (rest := ([] : List Value)) rfl (Nat.le_of_ble_eq_true rfl) ?_
      refine bv_blk C frk_X6 csk_X6 3 43 rfl (L1 := ([(2, .int (nI 8)), (0, .ref 0), (1, .ref 22)] : Lc)) (st1 := ([.int (g2 1 0), .ref 0] : List Value)) (w1 := (layT (cpR (cpR (cpR (cpR (ug (cpR (cpR (cpR g g2 15 35) g2 35 55) g2 55 (55 + 6 * 8)) 1 12 (g2 1 12)) g2 103 112) g2 13 14) g2 112 172) g2 14 15) σ τ g2 σ2 τ2)) (by rfl) ?_
      refine bv_put (ty := .boolean) C rfl cl_X6 fl_X6_57 (by decide) rfl (by decide +kernel) (nar_01 (hb 0 (by omega)) _) (fit_01 (hb 0 (by omega)) _) rfl (by decide) (by decide) ?_
      refine bv_w (lt_up (o := 0) (k := 6) (a := 1) (b := 0) hσ (by decide) (by decide) (by rfl) (by rfl)) ?_
      refine bv_blk C frk_X6 csk_X6 4 48 rfl (L1 := ([(2, .int (nI 8)), (0, .ref 0), (1, .ref 22)] : Lc)) (st1 := ([] : List Value)) (w1 := up2 (layT (ug (cpR (cpR (cpR (cpR (ug (cpR (cpR (cpR g g2 15 35) g2 35 55) g2 55 (55 + 6 * 8)) 1 12 (g2 1 12)) g2 103 112) g2 13 14) g2 112 172) g2 14 15) 1 0 (g2 1 0)) σ τ g2 σ2 τ2) 0 7 (.int (g2 1 1))) (by rfl) ?_
      refine bv_w (lt_up (o := 0) (k := 7) (a := 1) (b := 1) hσ (by decide) (by decide) (by rfl) (by rfl)) ?_
      refine bv_blk C frk_X6 csk_X6 4 52 rfl (L1 := ([(2, .int (nI 8)), (0, .ref 0), (1, .ref 22)] : Lc)) (st1 := ([] : List Value)) (w1 := up2 (layT (ug (ug (cpR (cpR (cpR (cpR (ug (cpR (cpR (cpR g g2 15 35) g2 35 55) g2 55 (55 + 6 * 8)) 1 12 (g2 1 12)) g2 103 112) g2 13 14) g2 112 172) g2 14 15) 1 0 (g2 1 0)) 1 1 (g2 1 1)) σ τ g2 σ2 τ2) 0 8 (.int (g2 1 2))) (by rfl) ?_
      refine bv_w (lt_up (o := 0) (k := 8) (a := 1) (b := 2) hσ (by decide) (by decide) (by rfl) (by rfl)) ?_
      refine bv_blk C frk_X6 csk_X6 4 56 rfl (L1 := ([(2, .int (nI 8)), (0, .ref 0), (1, .ref 22)] : Lc)) (st1 := ([] : List Value)) (w1 := up2 (layT (ug (ug (ug (cpR (cpR (cpR (cpR (ug (cpR (cpR (cpR g g2 15 35) g2 35 55) g2 55 (55 + 6 * 8)) 1 12 (g2 1 12)) g2 103 112) g2 13 14) g2 112 172) g2 14 15) 1 0 (g2 1 0)) 1 1 (g2 1 1)) 1 2 (g2 1 2)) σ τ g2 σ2 τ2) 0 9 (.int (g2 1 3))) (by rfl) ?_
      refine bv_w (lt_up (o := 0) (k := 9) (a := 1) (b := 3) hσ (by decide) (by decide) (by rfl) (by rfl)) ?_
      refine bv_blk C frk_X6 csk_X6 4 60 rfl (L1 := ([(2, .int (nI 8)), (0, .ref 0), (1, .ref 22)] : Lc)) (st1 := ([] : List Value)) (w1 := up2 (layT (ug (ug (ug (ug (cpR (cpR (cpR (cpR (ug (cpR (cpR (cpR g g2 15 35) g2 35 55) g2 55 (55 + 6 * 8)) 1 12 (g2 1 12)) g2 103 112) g2 13 14) g2 112 172) g2 14 15) 1 0 (g2 1 0)) 1 1 (g2 1 1)) 1 2 (g2 1 2)) 1 3 (g2 1 3)) σ τ g2 σ2 τ2) 0 10 (.int (g2 1 4))) (by rfl) ?_
      refine bv_w (lt_up (o := 0) (k := 10) (a := 1) (b := 4) hσ (by decide) (by decide) (by rfl) (by rfl)) ?_
      refine bv_blk C frk_X6 csk_X6 4 64 rfl (L1 := ([(2, .int (nI 8)), (0, .ref 0), (1, .ref 22)] : Lc)) (st1 := ([] : List Value)) (w1 := up2 (layT (ug (ug (ug (ug (ug (cpR (cpR (cpR (cpR (ug (cpR (cpR (cpR g g2 15 35) g2 35 55) g2 55 (55 + 6 * 8)) 1 12 (g2 1 12)) g2 103 112) g2 13 14) g2 112 172) g2 14 15) 1 0 (g2 1 0)) 1 1 (g2 1 1)) 1 2 (g2 1 2)) 1 3 (g2 1 3)) 1 4 (g2 1 4)) σ τ g2 σ2 τ2) 0 11 (.int (g2 1 5))) (by rfl) ?_
      refine bv_w (lt_up (o := 0) (k := 11) (a := 1) (b := 5) hσ (by decide) (by decide) (by rfl) (by rfl)) ?_
      refine bv_blk C frk_X6 csk_X6 4 68 rfl (L1 := ([(2, .int (nI 8)), (0, .ref 0), (1, .ref 22)] : Lc)) (st1 := ([] : List Value)) (w1 := up2 (layT (ug (ug (ug (ug (ug (ug (cpR (cpR (cpR (cpR (ug (cpR (cpR (cpR g g2 15 35) g2 35 55) g2 55 (55 + 6 * 8)) 1 12 (g2 1 12)) g2 103 112) g2 13 14) g2 112 172) g2 14 15) 1 0 (g2 1 0)) 1 1 (g2 1 1)) 1 2 (g2 1 2)) 1 3 (g2 1 3)) 1 4 (g2 1 4)) 1 5 (g2 1 5)) σ τ g2 σ2 τ2) 0 12 (.int (g2 1 6))) (by rfl) ?_
      refine bv_w (lt_up (o := 0) (k := 12) (a := 1) (b := 6) hσ (by decide) (by decide) (by rfl) (by rfl)) ?_
      refine bv_blk C frk_X6 csk_X6 4 72 rfl (L1 := ([(2, .int (nI 8)), (0, .ref 0), (1, .ref 22)] : Lc)) (st1 := ([] : List Value)) (w1 := up2 (layT (ug (ug (ug (ug (ug (ug (ug (cpR (cpR (cpR (cpR (ug (cpR (cpR (cpR g g2 15 35) g2 35 55) g2 55 (55 + 6 * 8)) 1 12 (g2 1 12)) g2 103 112) g2 13 14) g2 112 172) g2 14 15) 1 0 (g2 1 0)) 1 1 (g2 1 1)) 1 2 (g2 1 2)) 1 3 (g2 1 3)) 1 4 (g2 1 4)) 1 5 (g2 1 5)) 1 6 (g2 1 6)) σ τ g2 σ2 τ2) 0 13 (.int (g2 1 7))) (by rfl) ?_
      refine bv_w (lt_up (o := 0) (k := 13) (a := 1) (b := 7) hσ (by decide) (by decide) (by rfl) (by rfl)) ?_
      refine bv_blk C frk_X6 csk_X6 3 75 rfl (L1 := ([(2, .int (nI 8)), (0, .ref 0), (1, .ref 22)] : Lc)) (st1 := ([.int (g2 1 8), .ref 0] : List Value)) (w1 := (layT (ug (ug (ug (ug (ug (ug (ug (ug (cpR (cpR (cpR (cpR (ug (cpR (cpR (cpR g g2 15 35) g2 35 55) g2 55 (55 + 6 * 8)) 1 12 (g2 1 12)) g2 103 112) g2 13 14) g2 112 172) g2 14 15) 1 0 (g2 1 0)) 1 1 (g2 1 1)) 1 2 (g2 1 2)) 1 3 (g2 1 3)) 1 4 (g2 1 4)) 1 5 (g2 1 5)) 1 6 (g2 1 6)) 1 7 (g2 1 7)) σ τ g2 σ2 τ2)) (by rfl) ?_
      refine bv_put (ty := .boolean) C rfl cl_X6 fl_X6_82 (by decide) rfl (by decide +kernel) (nar_01 (hb 8 (by omega)) _) (fit_01 (hb 8 (by omega)) _) rfl (by decide) (by decide) ?_
      refine bv_w (lt_up (o := 0) (k := 14) (a := 1) (b := 8) hσ (by decide) (by decide) (by rfl) (by rfl)) ?_
      refine bv_blk C frk_X6 csk_X6 4 80 rfl (L1 := ([(2, .int (nI 8)), (0, .ref 0), (1, .ref 22)] : Lc)) (st1 := ([] : List Value)) (w1 := up2 (layT (ug (ug (ug (ug (ug (ug (ug (ug (ug (cpR (cpR (cpR (cpR (ug (cpR (cpR (cpR g g2 15 35) g2 35 55) g2 55 (55 + 6 * 8)) 1 12 (g2 1 12)) g2 103 112) g2 13 14) g2 112 172) g2 14 15) 1 0 (g2 1 0)) 1 1 (g2 1 1)) 1 2 (g2 1 2)) 1 3 (g2 1 3)) 1 4 (g2 1 4)) 1 5 (g2 1 5)) 1 6 (g2 1 6)) 1 7 (g2 1 7)) 1 8 (g2 1 8)) σ τ g2 σ2 τ2) 0 15 (.int (g2 1 9))) (by rfl) ?_
      refine bv_w (lt_up (o := 0) (k := 15) (a := 1) (b := 9) hσ (by decide) (by decide) (by rfl) (by rfl)) ?_
      refine bv_blk C frk_X6 csk_X6 4 84 rfl (L1 := ([(2, .int (nI 8)), (0, .ref 0), (1, .ref 22)] : Lc)) (st1 := ([] : List Value)) (w1 := up2 (layT (ug (ug (ug (ug (ug (ug (ug (ug (ug (ug (cpR (cpR (cpR (cpR (ug (cpR (cpR (cpR g g2 15 35) g2 35 55) g2 55 (55 + 6 * 8)) 1 12 (g2 1 12)) g2 103 112) g2 13 14) g2 112 172) g2 14 15) 1 0 (g2 1 0)) 1 1 (g2 1 1)) 1 2 (g2 1 2)) 1 3 (g2 1 3)) 1 4 (g2 1 4)) 1 5 (g2 1 5)) 1 6 (g2 1 6)) 1 7 (g2 1 7)) 1 8 (g2 1 8)) 1 9 (g2 1 9)) σ τ g2 σ2 τ2) 0 16 (.int (g2 1 10))) (by rfl) ?_
      refine bv_w (lt_up (o := 0) (k := 16) (a := 1) (b := 10) hσ (by decide) (by decide) (by rfl) (by rfl)) ?_
      refine bv_blk C frk_X6 csk_X6 3 87 rfl (L1 := ([(2, .int (nI 8)), (0, .ref 0), (1, .ref 22)] : Lc)) (st1 := ([.int (g2 1 11), .ref 0] : List Value)) (w1 := (layT (ug (ug (ug (ug (ug (ug (ug (ug (ug (ug (ug (cpR (cpR (cpR (cpR (ug (cpR (cpR (cpR g g2 15 35) g2 35 55) g2 55 (55 + 6 * 8)) 1 12 (g2 1 12)) g2 103 112) g2 13 14) g2 112 172) g2 14 15) 1 0 (g2 1 0)) 1 1 (g2 1 1)) 1 2 (g2 1 2)) 1 3 (g2 1 3)) 1 4 (g2 1 4)) 1 5 (g2 1 5)) 1 6 (g2 1 6)) 1 7 (g2 1 7)) 1 8 (g2 1 8)) 1 9 (g2 1 9)) 1 10 (g2 1 10)) σ τ g2 σ2 τ2)) (by rfl) ?_
      refine bv_put (ty := .boolean) C rfl cl_X6 fl_X6_91 (by decide) rfl (by decide +kernel) (nar_01 (hb 11 (by omega)) _) (fit_01 (hb 11 (by omega)) _) rfl (by decide) (by decide) ?_
      refine bv_w (lt_up (o := 0) (k := 17) (a := 1) (b := 11) hσ (by decide) (by decide) (by rfl) (by rfl)) ?_
      exact bv_vret C rfl hr ⟨by (rfl), by (rw [cp_all])⟩
    | succ n_a ih =>
      intro k_a hs_a hk_a
      refine bv_blk C frk_X6 csk_X6 2 14 rfl (L1 := ([(2, .int (nI k_a)), (0, .ref 0), (1, .ref 22)] : Lc)) (st1 := ([.int (8), .int (nI k_a)] : List Value)) (w1 := (layT (cpR (cpR (cpR g g2 15 35) g2 35 55) g2 55 (55 + 6 * k_a)) σ τ g2 σ2 τ2)) (by rfl) ?_
      refine bv_icmp_ge (j := 26) C rfl rfl (fun h => absurd h (nI_ge (a := k_a) (b := 8) (by omega) (by omega))) (fun _ => ?_)
      refine bv_blk C frk_X6 csk_X6 3 18 rfl (L1 := ([(2, .int (nI k_a)), (0, .ref 0), (1, .ref 22)] : Lc)) (st1 := ([.int (nI k_a), .ref 5] : List Value)) (w1 := (layT (cpR (cpR (cpR g g2 15 35) g2 35 55) g2 55 (55 + 6 * k_a)) σ τ g2 σ2 τ2)) (by rfl) ?_
      refine bv_aaldPath (y := 6 + σ k_a) C rfl rfl (by decide) (j := k_a) (by exact rfl) (by first | decide | omega) (by decide) (by rfl) ?_
      refine bv_blk C frk_X6 csk_X6 3 22 rfl (L1 := ([(2, .int (nI k_a)), (0, .ref 0), (1, .ref 22)] : Lc)) (st1 := ([.int (nI k_a), .ref 27, .ref (6 + σ k_a)] : List Value)) (w1 := (layT (cpR (cpR (cpR g g2 15 35) g2 35 55) g2 55 (55 + 6 * k_a)) σ τ g2 σ2 τ2)) (by rfl) ?_
      refine bv_aaldPath (y := 22 + (6 + σ2 k_a)) C rfl rfl (by decide) (j := k_a) (by exact rfl) (by first | decide | omega) (by decide) (by rfl) ?_
      refine bv_fV0 C rfl (ct2_path hE (cpR (cpR (cpR g g2 15 35) g2 35 55) g2 55 (55 + 6 * k_a)) g2 σ τ σ2 τ2 hσ hσ2 k_a (by omega)) ml_X6_98 im_X3_copyFrom sel_X3_copyFrom ini_X3 cd_X3_copyFrom ok_X3_copyFrom rfl ⟨Nat.le_of_ble_eq_true rfl, Nat.le_of_ble_eq_true rfl⟩ ⟨Nat.zero_le _, Nat.zero_le _⟩ (by have z9 := (hσ.1 k_a (by omega)).1; omega) (shU_p (hσ.1 k_a (by omega)).1) rfl rfl (rest := ([] : List Value)) rfl (Nat.le_of_ble_eq_true rfl) ?_
      refine bv_blk C frk_X6 csk_X6 1 25 rfl (L1 := ([(2, .int ((nI k_a) + Int32.ofInt 1)), (0, .ref 0), (1, .ref 22)] : Lc)) (st1 := ([] : List Value)) (w1 := (layT (cpR (cpR (cpR (cpR g g2 15 35) g2 35 55) g2 55 (55 + 6 * k_a)) g2 (55 + 6 * k_a) (55 + 6 * k_a + 6)) σ τ g2 σ2 τ2)) (by rfl) ?_
      rw [show ((nI k_a) + Int32.ofInt 1) = nI (k_a + 1) from (nIi rfl)]
      refine bv_goto (j := 12) C rfl rfl ?_
      refine bv_weq (show (layT (cpR (cpR (cpR (cpR g g2 15 35) g2 35 55) g2 55 (55 + 6 * k_a)) g2 (55 + 6 * k_a) (55 + 6 * k_a + 6)) σ τ g2 σ2 τ2) = (layT (cpR (cpR (cpR g g2 15 35) g2 35 55) g2 55 (55 + 6 * (k_a + 1))) σ τ g2 σ2 τ2) from by rw [cp_6]) ?_
      refine bv_sub [0, 1, 2] (by rfl) ?_
      exact ih (k_a + 1) (by omega) (by omega)
  refine bv_weq (show (layT (cpR (cpR g g2 15 35) g2 35 55) σ τ g2 σ2 τ2) = (layT (cpR (cpR (cpR g g2 15 35) g2 35 55) g2 55 (55 + 6 * 0)) σ τ g2 σ2 τ2) from by rw [show 55 + 6 * 0 = 55 from rfl, cpR_0]) ?_
  refine bv_sub [0, 1, 2] (by rfl) ?_
  exact lp_a (8 - 0) 0 (Nat.le_refl _) (by omega)
