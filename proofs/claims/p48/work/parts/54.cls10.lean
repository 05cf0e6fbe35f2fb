theorem cs_trackA0 {l : Launch} {D : va_G} {cA : FieldType → ClassId} {z0 : Nat} {SK : Nat → Nat} {SV : Nat → Int32} {ad : Nat → Nat} (hE : aD (fun q => z0 ≤ q) ad 26) (g : Nat → Nat → Int32) (σ τ : Nat → Nat) (hσ : pmK σ τ) (n : Nat) (S : Nat → Nat) (hi : invK g n S) (hu : g 1 0 = 1) : bF l D cA z0 SK SV ad shB 26 yX6_trackBeam cX6_trackBeam 10 none 4 [.ref 0, .int (0)] (layB g σ τ) none (layB (trkG 0 n S g) σ τ) := by
  rw [← trk_C0 hi.1.2.1 hi.2.1 (hi.2.2.2.2.2.2.2.2.1 hu).1]
  exact cs_trackBeam0 hE g σ τ hσ n hi.1.1 hi.1.2.2.1
theorem cs_sweepA0 {l : Launch} {D : va_G} {cA : FieldType → ClassId} {z0 : Nat} {SK : Nat → Nat} {SV : Nat → Int32} {ad : Nat → Nat} (hE : aD (fun q => z0 ≤ q) ad 26) (g : Nat → Nat → Int32) (σ τ : Nat → Nat) (hσ : pmK σ τ) (n : Nat) (S : Nat → Nat) (hi : invK g n S) : bF l D cA z0 SK SV ad shB 26 yX6_runSweep cX6_runSweep 5 (some .int) 5 [.ref 0, .int (0)] (layB g σ τ) (some (.int (phR 0 n S g))) (layB (dswG 0 n S g) σ τ) := by
  rw [← (rs_C0 hi.1.2.1 hi.2.1 hi.2.2.1).1, ← (rs_C0 hi.1.2.1 hi.2.1 hi.2.2.1).2]
  exact cs_runSweep0 hE g σ τ hσ n S hi.1.1 hi.1.2.1 hi.1.2.2.1
theorem cs_trackA1 {l : Launch} {D : va_G} {cA : FieldType → ClassId} {z0 : Nat} {SK : Nat → Nat} {SV : Nat → Int32} {ad : Nat → Nat} (hE : aD (fun q => z0 ≤ q) ad 26) (g : Nat → Nat → Int32) (σ τ : Nat → Nat) (hσ : pmK σ τ) (n : Nat) (S : Nat → Nat) (hi : invK g n S) (hu : g 1 0 = 1) : bF l D cA z0 SK SV ad shB 26 yX6_trackBeam cX6_trackBeam 10 none 4 [.ref 0, .int (1)] (layB g σ τ) none (layB (trkG 1 n S g) σ τ) := by
  rw [← trk_C1 hi.1.2.1 hi.2.1 (hi.2.2.2.2.2.2.2.2.1 hu).2]
  exact cs_trackBeam1 hE g σ τ hσ n hi.1.1 hi.1.2.2.1
theorem cs_sweepA1 {l : Launch} {D : va_G} {cA : FieldType → ClassId} {z0 : Nat} {SK : Nat → Nat} {SV : Nat → Int32} {ad : Nat → Nat} (hE : aD (fun q => z0 ≤ q) ad 26) (g : Nat → Nat → Int32) (σ τ : Nat → Nat) (hσ : pmK σ τ) (n : Nat) (S : Nat → Nat) (hi : invK g n S) : bF l D cA z0 SK SV ad shB 26 yX6_runSweep cX6_runSweep 5 (some .int) 5 [.ref 0, .int (1)] (layB g σ τ) (some (.int (phR 1 n S g))) (layB (dswG 1 n S g) σ τ) := by
  rw [← (rs_C1 hi.1.2.1 hi.2.1 hi.2.2.1).1, ← (rs_C1 hi.1.2.1 hi.2.1 hi.2.2.1).2]
  exact cs_runSweep1 hE g σ τ hσ n S hi.1.1 hi.1.2.1 hi.1.2.2.1
theorem cs_exchangeA {l : Launch} {D : va_G} {cA : FieldType → ClassId} {z0 : Nat} {SK : Nat → Nat} {SV : Nat → Int32} {ad : Nat → Nat} (hE : aD (fun q => z0 ≤ q) ad 26) (g : Nat → Nat → Int32) (σ τ : Nat → Nat) (hσ : pmK σ τ) (n : Nat) (S : Nat → Nat) (hi : invK g n S) : bF l D cA z0 SK SV ad shB 26 yX6_exchangeData cX6_exchangeData 3 none 5 [.ref 0] (layB g σ τ) none (layB (tlkG n g) σ τ) := by
  rw [← xc_C hi.2.1 hi.2.2.2.1]
  exact cs_exchange hE g σ τ hσ n hi.1.1 hi.1.2.2.1 hi.1.2.2.2
theorem b01_1 {x : Int32} (h : b01 x) (c : ¬ x = 0) : x = 1 := h.resolve_left c
theorem trk_0 {s n : Nat} {S : Nat → Nat} {g : Nat → Nat → Int32} (hs : s < 2) (hi : invK g n S) (k : Nat) (hk : frK k) (h1 : k < 112 ∨ 172 ≤ k) (h2 : k ≠ 14) : trkG s n S g 1 k = g 1 k := trk_at hs hi.1.2.2.1 k hk h1 h2
set_option maxRecDepth 100000 in
set_option maxHeartbeats 8000000 in
theorem cs_passInterval {l : Launch} {D : va_G} {cA : FieldType → ClassId} {z0 : Nat} {SK : Nat → Nat} {SV : Nat → Int32} {ad : Nat → Nat} (hE : aD (fun q => z0 ≤ q) ad 26) (g : Nat → Nat → Int32) (σ τ : Nat → Nat) (hσ : pmK σ τ) (n : Nat) (S : Nat → Nat) (hi : invK g n S) : bF l D cA z0 SK SV ad shB 26 yX6_passInterval cX6_passInterval 2 none 6 [.ref 0] (layB g σ τ) none (layB (pasG n S g) σ τ) := by
  refine bCT_intro (tb := tb_X6_passInterval) (own := RX6) hE pn_X6 rfl tk_X6_passInterval rfl (Nat.le_of_ble_eq_true rfl) ?_
  intro p e s0 m args below meth c C hr
  have hn8 := hi.1.1.2.1
  refine bv_blk C frk_X6 csk_X6 6 6 rfl (L1 := ([(0, .ref 0)] : Lc)) (st1 := ([] : List Value)) (w1 := up2 (layB g σ τ) 0 8 (.int ((g 1 2) + (1)))) (by rfl) ?_
  refine bv_w (lb_up (o := 0) (k := 8) (a := 1) (b := 2) hσ (by decide) (by decide) (by rfl) (by rfl)) ?_
  refine bv_blk C frk_X6 csk_X6 2 8 rfl (L1 := ([(1, .int (0)), (0, .ref 0)] : Lc)) (st1 := ([] : List Value)) (w1 := (layB (ug g 1 2 ((g 1 2) + (1))) σ τ)) (by rfl) ?_
  have lp_a : ∀ (n_a k_a : Nat), 0 ≤ k_a → k_a + n_a = n → bV p l e (bR 6) s0 m args below meth c D cA shB (adA ad 26) 2 tb_X6_passInterval (MQ below (bQ D cA ad shB 26 (fun r w1 => r = none ∧ w1 = (layB (pasG n S g) σ τ))) args s0 0 0 (adA ad 26)) ad 26 0 0 (layB (drfG (ug g 1 2 ((g 1 2) + (1))) k_a) σ τ) 8 ([(1, .int (nI k_a)), (0, .ref 0)] : Lc) ([] : List Value) := by
    intro n_a
    induction n_a with
    | zero =>
      intro k_a hs_a hk_a
      have hkB_a : k_a = n := by omega
      rw [hkB_a]
      refine bv_blk C frk_X6 csk_X6 3 11 rfl (L1 := ([(1, .int (nI n)), (0, .ref 0)] : Lc)) (st1 := ([.int ((drfG (ug g 1 2 ((g 1 2) + (1))) n) 1 12), .int (nI n)] : List Value)) (w1 := (layB (drfG (ug g 1 2 ((g 1 2) + (1))) n) σ τ)) (by rfl) ?_
      refine bv_icmp_ge (j := 22) C rfl rfl (fun _ => ?_) (fun h => absurd (by rw [show ((drfG (ug g 1 2 ((g 1 2) + (1))) n) 1 12) = nI n from ((drf_at _ _ 12 (by omega)).trans ((ug_ne (by omega)).trans hi.1.1.1))]; exact (nI_le (a := n) (b := n) (by omega) (by omega))) h)
      obtain ⟨v1, ev1⟩ : ∃ x : Nat → Nat → Int32, x = ps1 n g := ⟨_, rfl⟩
      refine bv_weq (show (layB (drfG (ug g 1 2 ((g 1 2) + (1))) n) σ τ) = (layB v1 σ τ) from by rw [ev1]; rfl) ?_
      have hi_v1 : invK v1 n S := by rw [ev1]; exact inv_ps1 hi
      refine bv_blk C frk_X6 csk_X6 2 24 rfl (L1 := ([(1, .int (nI n)), (0, .ref 0)] : Lc)) (st1 := ([.int (v1 1 0)] : List Value)) (w1 := (layB v1 σ τ)) (by rfl) ?_
      refine bv_if_eq (j := 34) C rfl rfl (fun c2 => ?_) (fun c2 => ?_)
      · refine bv_blk C frk_X6 csk_X6 2 36 rfl (L1 := ([(1, .int (nI n)), (0, .ref 0)] : Lc)) (st1 := ([.int (v1 1 0)] : List Value)) (w1 := (layB v1 σ τ)) (by rfl) ?_
        refine bv_if_eq (j := 39) C rfl rfl (fun _ => ?_) (fun h => absurd (c2) h)
        refine bv_blk C frk_X6 csk_X6 2 41 rfl (L1 := ([(1, .int (nI n)), (0, .ref 0)] : Lc)) (st1 := ([.int (v1 1 0)] : List Value)) (w1 := (layB v1 σ τ)) (by rfl) ?_
        refine bv_if_ne (j := 49) C rfl rfl (fun h => absurd (c2) h) (fun _ => ?_)
        refine bv_blk C frk_X6 csk_X6 2 44 rfl (L1 := ([(1, .int (nI n)), (0, .ref 0)] : Lc)) (st1 := ([.int (v1 1 11)] : List Value)) (w1 := (layB v1 σ τ)) (by rfl) ?_
        refine bv_if_eq (j := 49) C rfl rfl (fun c5 => ?_) (fun c5 => ?_)
        · exact bv_vret C rfl hr ⟨by (rfl), by (have hA : psA n S g = v1 := (by unfold psA; rw [← ev1, if_neg (fun z => absurd (c2.symm.trans z.1) (by decide))]); have hB : psB n S g = v1 := (by unfold psB; rw [hA, if_neg (fun z => absurd (c2.symm.trans z) (by decide))]); unfold pasG; rw [hB, if_neg (fun z => absurd (c5.symm.trans z.2) (by decide))])⟩
        · refine bv_blk C frk_X6 csk_X6 2 47 rfl (L1 := ([(1, .int (nI n)), (0, .ref 0)] : Lc)) (st1 := ([.int (0), .ref 0] : List Value)) (w1 := (layB v1 σ τ)) (by rfl) ?_
          refine bv_fV1 C rfl (cs_sweepA0 hE v1 σ τ hσ n S hi_v1) ml_X6_213 im_X6_runSweep sel_X6_runSweep ini_X6 cd_X6_runSweep ok_X6_runSweep rfl ⟨Nat.le_of_ble_eq_true rfl, Nat.le_of_ble_eq_true rfl⟩ ⟨Nat.zero_le _, Nat.zero_le _⟩ (by decide) rfl rfl rfl (rest := ([] : List Value)) rfl (Nat.le_of_ble_eq_true rfl) ?_
          obtain ⟨v2, ev2⟩ : ∃ x : Nat → Nat → Int32, x = (dswG 0 n S v1) := ⟨_, rfl⟩
          refine bv_weq (show (layB (dswG 0 n S v1) σ τ) = (layB v2 σ τ) from by rw [ev2]) ?_
          have hi_v2 : invK v2 n S := by rw [ev2]; exact inv_rs (by omega) hi_v1
          refine bv_blk C frk_X6 csk_X6 1 49 rfl (L1 := ([(1, .int (nI n)), (0, .ref 0)] : Lc)) (st1 := ([] : List Value)) (w1 := (layB v2 σ τ)) (by rfl) ?_
          exact bv_vret C rfl hr ⟨by (rfl), by (have hA : psA n S g = v1 := (by unfold psA; rw [← ev1, if_neg (fun z => absurd (c2.symm.trans z.1) (by decide))]); have hB : psB n S g = v1 := (by unfold psB; rw [hA, if_neg (fun z => absurd (c2.symm.trans z) (by decide))]); unfold pasG; rw [hB, if_pos ⟨c2, b01_1 hi_v1.2.2.2.2.2.2.1 c5⟩, ← ev2])⟩
      · refine bv_blk C frk_X6 csk_X6 2 27 rfl (L1 := ([(1, .int (nI n)), (0, .ref 0)] : Lc)) (st1 := ([.int (v1 1 8)] : List Value)) (w1 := (layB v1 σ τ)) (by rfl) ?_
        refine bv_if_eq (j := 34) C rfl rfl (fun c6 => ?_) (fun c6 => ?_)
        · refine bv_blk C frk_X6 csk_X6 2 36 rfl (L1 := ([(1, .int (nI n)), (0, .ref 0)] : Lc)) (st1 := ([.int (v1 1 0)] : List Value)) (w1 := (layB v1 σ τ)) (by rfl) ?_
          refine bv_if_eq (j := 39) C rfl rfl (fun h => absurd h (c2)) (fun _ => ?_)
          refine bv_blk C frk_X6 csk_X6 1 38 rfl (L1 := ([(1, .int (nI n)), (0, .ref 0)] : Lc)) (st1 := ([.ref 0] : List Value)) (w1 := (layB v1 σ τ)) (by rfl) ?_
          refine bv_fV0 C rfl (cs_exchangeA hE v1 σ τ hσ n S hi_v1) ml_X6_210 im_X6_exchangeData sel_X6_exchangeData ini_X6 cd_X6_exchangeData ok_X6_exchangeData rfl ⟨Nat.le_of_ble_eq_true rfl, Nat.le_of_ble_eq_true rfl⟩ ⟨Nat.zero_le _, Nat.zero_le _⟩ (by decide) rfl rfl rfl (rest := ([] : List Value)) rfl (Nat.le_of_ble_eq_true rfl) ?_
          obtain ⟨v3, ev3⟩ : ∃ x : Nat → Nat → Int32, x = (tlkG n v1) := ⟨_, rfl⟩
          refine bv_weq (show (layB (tlkG n v1) σ τ) = (layB v3 σ τ) from by rw [ev3]) ?_
          have hi_v3 : invK v3 n S := by rw [ev3]; exact inv_tlk hi_v1
          refine bv_blk C frk_X6 csk_X6 2 41 rfl (L1 := ([(1, .int (nI n)), (0, .ref 0)] : Lc)) (st1 := ([.int (v3 1 0)] : List Value)) (w1 := (layB v3 σ τ)) (by rfl) ?_
          refine bv_if_ne (j := 49) C rfl rfl (fun c8 => ?_) (fun c8 => ?_)
          · exact bv_vret C rfl hr ⟨by (rfl), by (have hA : psA n S g = v1 := (by unfold psA; rw [← ev1, if_neg (fun z => absurd (c6.symm.trans z.2) (by decide))]); have hB : psB n S g = v3 := (by unfold psB; rw [hA, if_pos (b01_1 hi_v1.2.2.2.2.1 c2), ← ev3]); unfold pasG; rw [hB, if_neg (fun z => c8 z.1)])⟩
          · refine bv_blk C frk_X6 csk_X6 2 44 rfl (L1 := ([(1, .int (nI n)), (0, .ref 0)] : Lc)) (st1 := ([.int (v3 1 11)] : List Value)) (w1 := (layB v3 σ τ)) (by rfl) ?_
            refine bv_if_eq (j := 49) C rfl rfl (fun c9 => ?_) (fun c9 => ?_)
            · exact bv_vret C rfl hr ⟨by (rfl), by (have hA : psA n S g = v1 := (by unfold psA; rw [← ev1, if_neg (fun z => absurd (c6.symm.trans z.2) (by decide))]); have hB : psB n S g = v3 := (by unfold psB; rw [hA, if_pos (b01_1 hi_v1.2.2.2.2.1 c2), ← ev3]); unfold pasG; rw [hB, if_neg (fun z => absurd (c9.symm.trans z.2) (by decide))])⟩
            · refine bv_blk C frk_X6 csk_X6 2 47 rfl (L1 := ([(1, .int (nI n)), (0, .ref 0)] : Lc)) (st1 := ([.int (0), .ref 0] : List Value)) (w1 := (layB v3 σ τ)) (by rfl) ?_
              refine bv_fV1 C rfl (cs_sweepA0 hE v3 σ τ hσ n S hi_v3) ml_X6_213 im_X6_runSweep sel_X6_runSweep ini_X6 cd_X6_runSweep ok_X6_runSweep rfl ⟨Nat.le_of_ble_eq_true rfl, Nat.le_of_ble_eq_true rfl⟩ ⟨Nat.zero_le _, Nat.zero_le _⟩ (by decide) rfl rfl rfl (rest := ([] : List Value)) rfl (Nat.le_of_ble_eq_true rfl) ?_
              obtain ⟨v4, ev4⟩ : ∃ x : Nat → Nat → Int32, x = (dswG 0 n S v3) := ⟨_, rfl⟩
              refine bv_weq (show (layB (dswG 0 n S v3) σ τ) = (layB v4 σ τ) from by rw [ev4]) ?_
              have hi_v4 : invK v4 n S := by rw [ev4]; exact inv_rs (by omega) hi_v3
              refine bv_blk C frk_X6 csk_X6 1 49 rfl (L1 := ([(1, .int (nI n)), (0, .ref 0)] : Lc)) (st1 := ([] : List Value)) (w1 := (layB v4 σ τ)) (by rfl) ?_
              exact bv_vret C rfl hr ⟨by (rfl), by (have hA : psA n S g = v1 := (by unfold psA; rw [← ev1, if_neg (fun z => absurd (c6.symm.trans z.2) (by decide))]); have hB : psB n S g = v3 := (by unfold psB; rw [hA, if_pos (b01_1 hi_v1.2.2.2.2.1 c2), ← ev3]); unfold pasG; rw [hB, if_pos ⟨c8, b01_1 hi_v3.2.2.2.2.2.2.1 c9⟩, ← ev4])⟩
        · refine bv_blk C frk_X6 csk_X6 2 30 rfl (L1 := ([(1, .int (nI n)), (0, .ref 0)] : Lc)) (st1 := ([.int (0), .ref 0] : List Value)) (w1 := (layB v1 σ τ)) (by rfl) ?_
          refine bv_fV0 C rfl (cs_trackA0 hE v1 σ τ hσ n S hi_v1 (b01_1 hi_v1.2.2.2.2.1 c2)) ml_X6_206 im_X6_trackBeam sel_X6_trackBeam ini_X6 cd_X6_trackBeam ok_X6_trackBeam rfl ⟨Nat.le_of_ble_eq_true rfl, Nat.le_of_ble_eq_true rfl⟩ ⟨Nat.zero_le _, Nat.zero_le _⟩ (by decide) rfl rfl rfl (rest := ([] : List Value)) rfl (Nat.le_of_ble_eq_true rfl) ?_
          obtain ⟨v5, ev5⟩ : ∃ x : Nat → Nat → Int32, x = (trkG 0 n S v1) := ⟨_, rfl⟩
          refine bv_weq (show (layB (trkG 0 n S v1) σ τ) = (layB v5 σ τ) from by rw [ev5]) ?_
          have hi_v5 : invK v5 n S := by rw [ev5]; exact inv_trk (by omega) hi_v1 (hi_v1.2.2.2.2.2.2.2.2.1 (b01_1 hi_v1.2.2.2.2.1 c2)).1
          have up_v5 : v5 1 0 = 1 := by rw [ev5, trk_0 (by omega) hi_v1 0 (by unfold frK; omega) (by omega) (by omega)]; exact (b01_1 hi_v1.2.2.2.2.1 c2)
          refine bv_blk C frk_X6 csk_X6 2 33 rfl (L1 := ([(1, .int (nI n)), (0, .ref 0)] : Lc)) (st1 := ([.int (1), .ref 0] : List Value)) (w1 := (layB v5 σ τ)) (by rfl) ?_
          refine bv_fV0 C rfl (cs_trackA1 hE v5 σ τ hσ n S hi_v5 up_v5) ml_X6_206 im_X6_trackBeam sel_X6_trackBeam ini_X6 cd_X6_trackBeam ok_X6_trackBeam rfl ⟨Nat.le_of_ble_eq_true rfl, Nat.le_of_ble_eq_true rfl⟩ ⟨Nat.zero_le _, Nat.zero_le _⟩ (by decide) rfl rfl rfl (rest := ([] : List Value)) rfl (Nat.le_of_ble_eq_true rfl) ?_
          obtain ⟨v6, ev6⟩ : ∃ x : Nat → Nat → Int32, x = (trkG 1 n S v5) := ⟨_, rfl⟩
          refine bv_weq (show (layB (trkG 1 n S v5) σ τ) = (layB v6 σ τ) from by rw [ev6]) ?_
          have hi_v6 : invK v6 n S := by rw [ev6]; exact inv_trk (by omega) hi_v5 (hi_v5.2.2.2.2.2.2.2.2.1 up_v5).2
          have up_v6 : v6 1 0 = 1 := by rw [ev6, trk_0 (by omega) hi_v5 0 (by unfold frK; omega) (by omega) (by omega)]; exact up_v5
          refine bv_blk C frk_X6 csk_X6 2 36 rfl (L1 := ([(1, .int (nI n)), (0, .ref 0)] : Lc)) (st1 := ([.int (v6 1 0)] : List Value)) (w1 := (layB v6 σ τ)) (by rfl) ?_
          refine bv_if_eq (j := 39) C rfl rfl (fun h => absurd h ((fun z => absurd (z.symm.trans up_v6) (by decide)))) (fun _ => ?_)
          refine bv_blk C frk_X6 csk_X6 1 38 rfl (L1 := ([(1, .int (nI n)), (0, .ref 0)] : Lc)) (st1 := ([.ref 0] : List Value)) (w1 := (layB v6 σ τ)) (by rfl) ?_
          refine bv_fV0 C rfl (cs_exchangeA hE v6 σ τ hσ n S hi_v6) ml_X6_210 im_X6_exchangeData sel_X6_exchangeData ini_X6 cd_X6_exchangeData ok_X6_exchangeData rfl ⟨Nat.le_of_ble_eq_true rfl, Nat.le_of_ble_eq_true rfl⟩ ⟨Nat.zero_le _, Nat.zero_le _⟩ (by decide) rfl rfl rfl (rest := ([] : List Value)) rfl (Nat.le_of_ble_eq_true rfl) ?_
          obtain ⟨v7, ev7⟩ : ∃ x : Nat → Nat → Int32, x = (tlkG n v6) := ⟨_, rfl⟩
          refine bv_weq (show (layB (tlkG n v6) σ τ) = (layB v7 σ τ) from by rw [ev7]) ?_
          have hi_v7 : invK v7 n S := by rw [ev7]; exact inv_tlk hi_v6
          refine bv_blk C frk_X6 csk_X6 2 41 rfl (L1 := ([(1, .int (nI n)), (0, .ref 0)] : Lc)) (st1 := ([.int (v7 1 0)] : List Value)) (w1 := (layB v7 σ τ)) (by rfl) ?_
          refine bv_if_ne (j := 49) C rfl rfl (fun c11 => ?_) (fun c11 => ?_)
          · exact bv_vret C rfl hr ⟨by (rfl), by (have hA : psA n S g = v6 := (by unfold psA; rw [← ev1, if_pos ⟨b01_1 hi_v1.2.2.2.2.1 c2, b01_1 hi_v1.2.2.2.2.2.1 c6⟩, ← ev5, ← ev6]); have hB : psB n S g = v7 := (by unfold psB; rw [hA, if_pos up_v6, ← ev7]); unfold pasG; rw [hB, if_neg (fun z => c11 z.1)])⟩
          · refine bv_blk C frk_X6 csk_X6 2 44 rfl (L1 := ([(1, .int (nI n)), (0, .ref 0)] : Lc)) (st1 := ([.int (v7 1 11)] : List Value)) (w1 := (layB v7 σ τ)) (by rfl) ?_
            refine bv_if_eq (j := 49) C rfl rfl (fun c12 => ?_) (fun c12 => ?_)
            · exact bv_vret C rfl hr ⟨by (rfl), by (have hA : psA n S g = v6 := (by unfold psA; rw [← ev1, if_pos ⟨b01_1 hi_v1.2.2.2.2.1 c2, b01_1 hi_v1.2.2.2.2.2.1 c6⟩, ← ev5, ← ev6]); have hB : psB n S g = v7 := (by unfold psB; rw [hA, if_pos up_v6, ← ev7]); unfold pasG; rw [hB, if_neg (fun z => absurd (c12.symm.trans z.2) (by decide))])⟩
            · refine bv_blk C frk_X6 csk_X6 2 47 rfl (L1 := ([(1, .int (nI n)), (0, .ref 0)] : Lc)) (st1 := ([.int (0), .ref 0] : List Value)) (w1 := (layB v7 σ τ)) (by rfl) ?_
              refine bv_fV1 C rfl (cs_sweepA0 hE v7 σ τ hσ n S hi_v7) ml_X6_213 im_X6_runSweep sel_X6_runSweep ini_X6 cd_X6_runSweep ok_X6_runSweep rfl ⟨Nat.le_of_ble_eq_true rfl, Nat.le_of_ble_eq_true rfl⟩ ⟨Nat.zero_le _, Nat.zero_le _⟩ (by decide) rfl rfl rfl (rest := ([] : List Value)) rfl (Nat.le_of_ble_eq_true rfl) ?_
              obtain ⟨v8, ev8⟩ : ∃ x : Nat → Nat → Int32, x = (dswG 0 n S v7) := ⟨_, rfl⟩
              refine bv_weq (show (layB (dswG 0 n S v7) σ τ) = (layB v8 σ τ) from by rw [ev8]) ?_
              have hi_v8 : invK v8 n S := by rw [ev8]; exact inv_rs (by omega) hi_v7
              refine bv_blk C frk_X6 csk_X6 1 49 rfl (L1 := ([(1, .int (nI n)), (0, .ref 0)] : Lc)) (st1 := ([] : List Value)) (w1 := (layB v8 σ τ)) (by rfl) ?_
              exact bv_vret C rfl hr ⟨by (rfl), by (have hA : psA n S g = v6 := (by unfold psA; rw [← ev1, if_pos ⟨b01_1 hi_v1.2.2.2.2.1 c2, b01_1 hi_v1.2.2.2.2.2.1 c6⟩, ← ev5, ← ev6]); have hB : psB n S g = v7 := (by unfold psB; rw [hA, if_pos up_v6, ← ev7]); unfold pasG; rw [hB, if_pos ⟨c11, b01_1 hi_v7.2.2.2.2.2.2.1 c12⟩, ← ev8])⟩
    | succ n_a ih =>
      intro k_a hs_a hk_a
      refine bv_blk C frk_X6 csk_X6 3 11 rfl (L1 := ([(1, .int (nI k_a)), (0, .ref 0)] : Lc)) (st1 := ([.int ((drfG (ug g 1 2 ((g 1 2) + (1))) k_a) 1 12), .int (nI k_a)] : List Value)) (w1 := (layB (drfG (ug g 1 2 ((g 1 2) + (1))) k_a) σ τ)) (by rfl) ?_
      refine bv_icmp_ge (j := 22) C rfl rfl (fun h => absurd h (by rw [show ((drfG (ug g 1 2 ((g 1 2) + (1))) k_a) 1 12) = nI n from ((drf_at _ _ 12 (by omega)).trans ((ug_ne (by omega)).trans hi.1.1.1))]; exact (nI_ge (a := k_a) (b := n) (by omega) (by omega)))) (fun _ => ?_)
      refine bv_blk C frk_X6 csk_X6 2 14 rfl (L1 := ([(1, .int (nI k_a)), (0, .ref 0)] : Lc)) (st1 := ([.int (8), .int (nI k_a)] : List Value)) (w1 := (layB (drfG (ug g 1 2 ((g 1 2) + (1))) k_a) σ τ)) (by rfl) ?_
      refine bv_icmp_ge (j := 22) C rfl rfl (fun h => absurd h (nI_ge (a := k_a) (b := 8) (by omega) (by omega))) (fun _ => ?_)
      refine bv_blk C frk_X6 csk_X6 3 18 rfl (L1 := ([(1, .int (nI k_a)), (0, .ref 0)] : Lc)) (st1 := ([.int (nI k_a), .ref 5] : List Value)) (w1 := (layB (drfG (ug g 1 2 ((g 1 2) + (1))) k_a) σ τ)) (by rfl) ?_
      refine bv_aaldPath (y := 6 + σ k_a) C rfl rfl (by decide) (j := k_a) (by exact rfl) (by first | decide | omega) (by decide) (by rfl) ?_
      refine bv_fV0 C rfl (cs_drift hE (drfG (ug g 1 2 ((g 1 2) + (1))) k_a) σ τ hσ k_a (by omega)) ml_X6_203 im_X3_drift sel_X3_drift ini_X3 cd_X3_drift ok_X3_drift rfl ⟨Nat.le_of_ble_eq_true rfl, Nat.le_of_ble_eq_true rfl⟩ ⟨Nat.zero_le _, Nat.zero_le _⟩ (by have q := (hσ.1 k_a (by omega)).1; omega) (shB_p (hσ.1 k_a (by omega)).1) rfl rfl (rest := ([] : List Value)) rfl (Nat.le_of_ble_eq_true rfl) ?_
      refine bv_blk C frk_X6 csk_X6 1 21 rfl (L1 := ([(1, .int ((nI k_a) + Int32.ofInt 1)), (0, .ref 0)] : Lc)) (st1 := ([] : List Value)) (w1 := (layB (drf1 (drfG (ug g 1 2 ((g 1 2) + (1))) k_a) k_a) σ τ)) (by rfl) ?_
      rw [show ((nI k_a) + Int32.ofInt 1) = nI (k_a + 1) from (nIi rfl)]
      refine bv_goto (j := 8) C rfl rfl ?_
      refine bv_weq (show (layB (drf1 (drfG (ug g 1 2 ((g 1 2) + (1))) k_a) k_a) σ τ) = (layB (drfG (ug g 1 2 ((g 1 2) + (1))) (k_a + 1)) σ τ) from by exact congrArg (fun x => layB x σ τ) (drf_s (ug g 1 2 ((g 1 2) + (1))) k_a)) ?_
      refine bv_sub [0, 1] (by rfl) ?_
      exact ih (k_a + 1) (by omega) (by omega)
  refine bv_weq (show (layB (ug g 1 2 ((g 1 2) + (1))) σ τ) = (layB (drfG (ug g 1 2 ((g 1 2) + (1))) 0) σ τ) from by rw [drf_0]) ?_
  refine bv_sub [0, 1] (by rfl) ?_
  exact lp_a (n - 0) 0 (Nat.le_refl _) (by omega)
