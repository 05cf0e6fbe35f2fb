theorem tk_sep {g : Nat → Nat → Int32} (h : tkI g) : tkI (sc_takeSeparator_w g) := by
  have h1 : tkI (sc_takeSeparator_v1 g) := tk_tw (k := 6) h
  unfold sc_takeSeparator_w
  split
  · exact tk_rj h1
  · exact h1
theorem kqS_sep {g : Nat → Nat → Int32} : kqS g (sc_takeSeparator_w g) := by
  have h1 : kqS g (sc_takeSeparator_v1 g) := kqS_tw (j := 6)
  unfold sc_takeSeparator_w
  split
  · exact kqS_tr h1 kqS_rj
  · exact h1
theorem nK_nx {g : Nat → Nat → Int32} (h : nK g) : nK (nxW g) := nK_kq kqS_nx h

theorem tk_item {g : Nat → Nat → Int32} (h : tkI g) : tkI (sc_takeItem_w g) := by
  unfold sc_takeItem_w
  exact (iteQ (P := tkI) (fun c1 => (iteQ (P := tkI) (fun c2 => (iteQ (P := tkI) (fun c3 => (iteQ (P := tkI) (fun c4 => (iteQ (P := tkI) (fun c5 => (tk_rj h)) (fun c5 => (tk_ug (by omega) (tk_tv (tk_nx h)))))) (fun c4 => (tk_ug (by omega) (tk_tv (tk_nx h)))))) (fun c3 => (tk_ug (by omega) (tk_ts (tk_nx h)))))) (fun c2 => (tk_tst (tk_nx h))))) (fun c1 => (iteQ (P := tkI) (fun c6 => (iteQ (P := tkI) (fun c7 => (iteQ (P := tkI) (fun c8 => (iteQ (P := tkI) (fun c9 => (iteQ (P := tkI) (fun c10 => (iteQ (P := tkI) (fun c11 => (tk_rj h)) (fun c11 => (tk_ug (by omega) (tk_tv (tk_nx h)))))) (fun c10 => (tk_ug (by omega) (tk_tv (tk_nx h)))))) (fun c9 => (tk_ug (by omega) (tk_ts (tk_nx h)))))) (fun c8 => (tk_tst (tk_nx h))))) (fun c7 => (tk_tp (tk_nx h))))) (fun c6 => (tk_rj h)))))
theorem nK_item {g : Nat → Nat → Int32} (h : nK g) : nK (sc_takeItem_w g) := by
  unfold sc_takeItem_w
  exact (iteQ (P := nK) (fun c1 => (iteQ (P := nK) (fun c2 => (iteQ (P := nK) (fun c3 => (iteQ (P := nK) (fun c4 => (iteQ (P := nK) (fun c5 => (nK_kq kqS_rj h)) (fun c5 => (nK_of ((ug_ne (by omega)).trans (kqS_tv 1 12 (by omega))) (nK_nx h))))) (fun c4 => (nK_of ((ug_ne (by omega)).trans (kqS_tv 1 12 (by omega))) (nK_nx h))))) (fun c3 => (nK_of ((ug_ne (by omega)).trans (kqS_ts 1 12 (by omega))) (nK_nx h))))) (fun c2 => (nK_tst (nK_nx h))))) (fun c1 => (iteQ (P := nK) (fun c6 => (iteQ (P := nK) (fun c7 => (iteQ (P := nK) (fun c8 => (iteQ (P := nK) (fun c9 => (iteQ (P := nK) (fun c10 => (iteQ (P := nK) (fun c11 => (nK_kq kqS_rj h)) (fun c11 => (nK_of ((ug_ne (by omega)).trans (kqS_tv 1 12 (by omega))) (nK_nx h))))) (fun c10 => (nK_of ((ug_ne (by omega)).trans (kqS_tv 1 12 (by omega))) (nK_nx h))))) (fun c9 => (nK_of ((ug_ne (by omega)).trans (kqS_ts 1 12 (by omega))) (nK_nx h))))) (fun c8 => (nK_tst (nK_nx h))))) (fun c7 => (nK_tp (nK_nx h) (nxl c6))))) (fun c6 => (nK_kq kqS_rj h)))))
/-- the class's reader goes on -/
def rsL : Nat → (Nat → Nat → Int32) → Nat → Nat → Int32
  | 0, g => g
  | q + 1, g => if g 0 20 = -100000 then (if b2i (decide (cl (g 0 4) ≤ cl (g 0 9))) = 0 then rsL q (sc_takeItem_w (sc_takeSeparator_w g)) else g) else g
theorem rsL_0 {g : Nat → Nat → Int32} : rsL 0 g = g := rfl
theorem rsL_f {q : Nat} {g : Nat → Nat → Int32} (h : ¬ g 0 20 = -100000) : rsL (q + 1) g = g := if_neg h
theorem rsL_e {q : Nat} {g : Nat → Nat → Int32} (h : g 0 20 = -100000) (h1 : ¬ b2i (decide (cl (g 0 4) ≤ cl (g 0 9))) = 0) : rsL (q + 1) g = g := (if_pos h).trans (if_neg h1)
theorem rsL_s {q : Nat} {g : Nat → Nat → Int32} (h : g 0 20 = -100000) (h1 : b2i (decide (cl (g 0 4) ≤ cl (g 0 9))) = 0) : rsL (q + 1) g = rsL q (sc_takeItem_w (sc_takeSeparator_w g)) := (if_pos h).trans (if_pos h1)
def rs0 (g : Nat → Nat → Int32) : Nat → Nat → Int32 := nxW (ug (ug (anewG g) 0 20 (-100000)) 0 10 0)
def rsZ (g : Nat → Nat → Int32) : Nat → Nat → Int32 := rsL 120 (sc_takeItem_w (rs0 g))
theorem an_0 {g : Nat → Nat → Int32} {k : Nat} : anewG g 0 k = g 0 k := rfl
theorem an_12 {g : Nat → Nat → Int32} : anewG g 1 12 = 0 := rfl
theorem nx_s0 {g : Nat → Nat → Int32} : rs0 g = ntG (cl (g 0 4)) 0 (ug (ug (anewG g) 0 20 (-100000)) 0 10 0) := by
  unfold rs0 nxW
  have e1 : (ug (ug (anewG g) 0 20 (-100000)) 0 10 0) 0 4 = g 0 4 := (ug_ne (by omega)).trans ((ug_ne (by omega)).trans an_0)
  have e2 : (ug (ug (anewG g) 0 20 (-100000)) 0 10 0) 0 10 = 0 := ug_same
  rw [e1, e2]
  rfl
theorem tk_s0 {g : Nat → Nat → Int32} (h : lnI g) : tkI (rs0 g) := by
  rw [nx_s0]
  exact ⟨_, _, _, tok_nt ((ug_ne (by omega)).trans ((ug_ne (by omega)).trans (an_0.trans h.1))) h.2 (Nat.zero_le _)⟩
theorem nK_s0 {g : Nat → Nat → Int32} : nK (rs0 g) := by
  have e : rs0 g 1 12 = 0 := (kqS_nx 1 12 (by omega)).trans ((ug_ne (by omega)).trans ((ug_ne (by omega)).trans an_12))
  unfold nK
  rw [e]
  exact ⟨rfl, by decide⟩
set_option maxRecDepth 100000 in
set_option maxHeartbeats 8000000 in
theorem sc_readInto {l : Launch} {D : va_G} {cA : FieldType → ClassId} {z0 : Nat} {SK SV : Nat → Nat} {ad : Nat → Nat} (hE : aD (fun q => z0 ≤ q) ad 26) (g : Nat → Nat → Int32) (σ τ : Nat → Nat) (hσ : pmK σ τ)  (hl : lnI g) (hK : adK ad SK SV) : bF l D cA z0 SK SV ad shB 26 yX5_readInto cX5_readInto 3 (some .int) 10 [.ref 24, .ref 0] (layB g σ τ) (some (.int ((rsZ g) 0 20))) (layB (rsZ g) σ τ) := by
  refine bCT_intro (tb := tb_X5_readInto) (own := RX5) hE pn_X5 rfl tk_X5_readInto rfl (Nat.le_of_ble_eq_true rfl) ?_
  intro p e s0 m args below meth c C hr
  refine bv_blk C frk_X5 csk_X5 1 1 rfl (L1 := ([(0, .ref 24), (1, .ref 0)] : Lc)) (st1 := ([.ref 0] : List Value)) (w1 := (layB g σ τ)) (by rfl) ?_
  refine bv_fV0 C rfl (cs_startAnew hE g σ τ hσ) ml_X5_30 im_X6_startAnew sel_X6_startAnew ini_X6 cd_X6_startAnew ok_X6_startAnew rfl ⟨Nat.le_of_ble_eq_true rfl, Nat.le_of_ble_eq_true rfl⟩ ⟨Nat.zero_le _, Nat.zero_le _⟩ (by decide) rfl rfl rfl (rest := ([] : List Value)) rfl (Nat.le_of_ble_eq_true rfl) ?_
  refine bv_blk C frk_X5 csk_X5 3 5 rfl (L1 := ([(0, .ref 24), (1, .ref 0)] : Lc)) (st1 := ([] : List Value)) (w1 := up2 (layB (anewG g) σ τ) 24 4 (.int (-100000))) (by rfl) ?_
  refine bv_w (lb_up (o := 24) (k := 4) (a := 0) (b := 20) hσ (by decide) (by decide) (by rfl) (by rfl)) ?_
  refine bv_blk C frk_X5 csk_X5 3 8 rfl (L1 := ([(0, .ref 24), (1, .ref 0)] : Lc)) (st1 := ([] : List Value)) (w1 := up2 (layB (ug (anewG g) 0 20 (-100000)) σ τ) 24 3 (.int (0))) (by rfl) ?_
  refine bv_w (lb_up (o := 24) (k := 3) (a := 0) (b := 10) hσ (by decide) (by decide) (by rfl) (by rfl)) ?_
  refine bv_blk C frk_X5 csk_X5 1 9 rfl (L1 := ([(0, .ref 24), (1, .ref 0)] : Lc)) (st1 := ([.ref 24] : List Value)) (w1 := (layB (ug (ug (anewG g) 0 20 (-100000)) 0 10 (0)) σ τ)) (by rfl) ?_
  refine bv_fV0 C rfl (sc_nextToken hE (ug (ug (anewG g) 0 20 (-100000)) 0 10 (0)) σ τ hσ (cl (g 0 4)) 0 ((ug_ne (by omega)).trans ((ug_ne (by omega)).trans (an_0.trans hl.1))) hl.2 ug_same (Nat.zero_le _)) ml_X5_35 im_X5_nextToken sel_X5_nextToken ini_X5 cd_X5_nextToken ok_X5_nextToken rfl ⟨Nat.le_of_ble_eq_true rfl, Nat.le_of_ble_eq_true rfl⟩ ⟨Nat.zero_le _, Nat.zero_le _⟩ (by decide) rfl rfl rfl (rest := ([] : List Value)) rfl (Nat.le_of_ble_eq_true rfl) ?_
  rw [← nx_s0]
  refine bv_blk C frk_X5 csk_X5 2 12 rfl (L1 := ([(0, .ref 24), (1, .ref 0)] : Lc)) (st1 := ([.ref 0, .ref 24] : List Value)) (w1 := (layB (rs0 g) σ τ)) (by rfl) ?_
  refine bv_fV0 C rfl (sc_takeItem hE (rs0 g) σ τ hσ (tk_s0 hl) hK nK_s0.1 nK_s0.2) ml_X5_38 im_X5_takeItem sel_X5_takeItem ini_X5 cd_X5_takeItem ok_X5_takeItem rfl ⟨Nat.le_of_ble_eq_true rfl, Nat.le_of_ble_eq_true rfl⟩ ⟨Nat.zero_le _, Nat.zero_le _⟩ (by decide) rfl rfl rfl (rest := ([] : List Value)) rfl (Nat.le_of_ble_eq_true rfl) ?_
  refine bv_blk C frk_X5 csk_X5 2 15 rfl (L1 := ([(2, .int (0)), (0, .ref 24), (1, .ref 0)] : Lc)) (st1 := ([] : List Value)) (w1 := (layB (sc_takeItem_w (rs0 g)) σ τ)) (by rfl) ?_
  have lp : ∀ (q j : Nat) (gg : Nat → Nat → Int32), j + q = 120 → tkI gg → nK gg → rsL q gg = rsZ g → bV p l e (bR 10) s0 m args below meth c D cA shB (adA ad 26) 3 tb_X5_readInto (MQ below (bQ D cA ad shB 26 (fun r w1 => r = (some (.int ((rsZ g) 0 20))) ∧ w1 = (layB (rsZ g) σ τ))) args s0 0 0 (adA ad 26)) ad 26 0 0 (layB gg σ τ) 15 ([(2, .int (nI j)), (0, .ref 24), (1, .ref 0)] : Lc) ([] : List Value) := by
    intro q
    induction q with
    | zero =>
      intro j gg hj htk hnk heq
      rw [rsL_0] at heq
      refine bv_blk C frk_X5 csk_X5 2 17 rfl (L1 := ([(2, .int (nI j)), (0, .ref 24), (1, .ref 0)] : Lc)) (st1 := ([.int (120), .int (nI j)] : List Value)) (w1 := (layB gg σ τ)) (by rfl) ?_
      refine bv_icmp_ge (j := 32) C rfl rfl (fun _ => ?_) (fun h => absurd (nI_le (a := 120) (b := j) (by omega) (by omega)) h)
      refine bv_blk C frk_X5 csk_X5 2 34 rfl (L1 := ([(2, .int (nI j)), (0, .ref 24), (1, .ref 0)] : Lc)) (st1 := ([.int (gg 0 20)] : List Value)) (w1 := (layB gg σ τ)) (by rfl) ?_
      exact bv_iret C rfl hr rfl ⟨by (rw [← heq]), by (rw [← heq])⟩
    | succ q ih =>
      intro j gg hj htk hnk heq
      refine bv_blk C frk_X5 csk_X5 2 17 rfl (L1 := ([(2, .int (nI j)), (0, .ref 24), (1, .ref 0)] : Lc)) (st1 := ([.int (120), .int (nI j)] : List Value)) (w1 := (layB gg σ τ)) (by rfl) ?_
      refine bv_icmp_ge (j := 32) C rfl rfl (fun h => absurd h (nI_ge (a := j) (b := 120) (by omega) (by omega))) (fun _ => ?_)
      refine bv_blk C frk_X5 csk_X5 3 21 rfl (L1 := ([(2, .int (nI j)), (0, .ref 24), (1, .ref 0)] : Lc)) (st1 := ([.int (-100000), .int (gg 0 20)] : List Value)) (w1 := (layB gg σ τ)) (by rfl) ?_
      refine bv_icmp_ne (j := 32) C rfl rfl (fun c3 => ?_) (fun c3 => ?_)
      · refine bv_blk C frk_X5 csk_X5 2 34 rfl (L1 := ([(2, .int (nI j)), (0, .ref 24), (1, .ref 0)] : Lc)) (st1 := ([.int (gg 0 20)] : List Value)) (w1 := (layB gg σ τ)) (by rfl) ?_
        exact bv_iret C rfl hr rfl ⟨by (rw [← heq, rsL_f c3]), by (rw [← heq, rsL_f c3])⟩
      · refine bv_blk C frk_X5 csk_X5 1 23 rfl (L1 := ([(2, .int (nI j)), (0, .ref 24), (1, .ref 0)] : Lc)) (st1 := ([.ref 24] : List Value)) (w1 := (layB gg σ τ)) (by rfl) ?_
        refine bv_fV1 C rfl (sd_atEnd hE gg σ τ hσ htk) ml_X5_42 im_X5_atEnd sel_X5_atEnd ini_X5 cd_X5_atEnd ok_X5_atEnd rfl ⟨Nat.le_of_ble_eq_true rfl, Nat.le_of_ble_eq_true rfl⟩ ⟨Nat.zero_le _, Nat.zero_le _⟩ (by decide) rfl rfl rfl (rest := ([] : List Value)) rfl (Nat.le_of_ble_eq_true rfl) ?_
        refine bv_if_ne (j := 32) C rfl rfl (fun c4 => ?_) (fun c4 => ?_)
        · refine bv_blk C frk_X5 csk_X5 2 34 rfl (L1 := ([(2, .int (nI j)), (0, .ref 24), (1, .ref 0)] : Lc)) (st1 := ([.int (gg 0 20)] : List Value)) (w1 := (layB gg σ τ)) (by rfl) ?_
          exact bv_iret C rfl hr rfl ⟨by (rw [← heq, rsL_e c3 c4]), by (rw [← heq, rsL_e c3 c4])⟩
        · refine bv_blk C frk_X5 csk_X5 1 26 rfl (L1 := ([(2, .int (nI j)), (0, .ref 24), (1, .ref 0)] : Lc)) (st1 := ([.ref 24] : List Value)) (w1 := (layB gg σ τ)) (by rfl) ?_
          refine bv_fV0 C rfl (sc_takeSeparator hE gg σ τ hσ htk hK) ml_X5_46 im_X5_takeSeparator sel_X5_takeSeparator ini_X5 cd_X5_takeSeparator ok_X5_takeSeparator rfl ⟨Nat.le_of_ble_eq_true rfl, Nat.le_of_ble_eq_true rfl⟩ ⟨Nat.zero_le _, Nat.zero_le _⟩ (by decide) rfl rfl rfl (rest := ([] : List Value)) rfl (Nat.le_of_ble_eq_true rfl) ?_
          refine bv_blk C frk_X5 csk_X5 2 29 rfl (L1 := ([(2, .int (nI j)), (0, .ref 24), (1, .ref 0)] : Lc)) (st1 := ([.ref 0, .ref 24] : List Value)) (w1 := (layB (sc_takeSeparator_w gg) σ τ)) (by rfl) ?_
          refine bv_fV0 C rfl (sc_takeItem hE (sc_takeSeparator_w gg) σ τ hσ (tk_sep htk) hK (nK_kq kqS_sep hnk).1 (nK_kq kqS_sep hnk).2) ml_X5_38 im_X5_takeItem sel_X5_takeItem ini_X5 cd_X5_takeItem ok_X5_takeItem rfl ⟨Nat.le_of_ble_eq_true rfl, Nat.le_of_ble_eq_true rfl⟩ ⟨Nat.zero_le _, Nat.zero_le _⟩ (by decide) rfl rfl rfl (rest := ([] : List Value)) rfl (Nat.le_of_ble_eq_true rfl) ?_
          refine bv_blk C frk_X5 csk_X5 1 31 rfl (L1 := ([(2, .int ((nI j) + Int32.ofInt 1)), (0, .ref 24), (1, .ref 0)] : Lc)) (st1 := ([] : List Value)) (w1 := (layB (sc_takeItem_w (sc_takeSeparator_w gg)) σ τ)) (by rfl) ?_
          rw [show ((nI j) + Int32.ofInt 1) = nI (j + 1) from (nIi rfl)]
          refine bv_goto (j := 15) C rfl rfl ?_
          refine bv_sub [0, 1, 2] (by rfl) ?_
          exact ih (j + 1) _ (by omega) (tk_item (tk_sep htk)) (nK_item (nK_kq kqS_sep hnk)) (by rw [← heq, rsL_s c3 c4])
  refine bv_sub [0, 1, 2] (by rfl) ?_
  exact lp 120 0 _ rfl (tk_item (tk_s0 hl)) (nK_item nK_s0) rfl
theorem ch_all2 : ∀ n, n < 256 → (Int32.toUInt32 (nI n) % 65536).toInt32 = nI n ∧ vp_nar .char (nI n) = nI n := by decide +kernel
def sc_append_r (n : Nat) (g : Nat → Nat → Int32) : Int32 := (if cl (g 0 4) < 120 then ((g 0 4) + (1)) else (-100004))
def sc_append_w (n : Nat) (g : Nat → Nat → Int32) : Nat → Nat → Int32 := (if cl (g 0 4) < 120 then (ug (ug g 3 ((cl (g 0 4))) (nI n)) 0 4 ((g 0 4) + (1))) else g)
set_option maxRecDepth 100000 in
set_option maxHeartbeats 8000000 in
theorem sc_append {l : Launch} {D : va_G} {cA : FieldType → ClassId} {z0 : Nat} {SK SV : Nat → Nat} {ad : Nat → Nat} (hE : aD (fun q => z0 ≤ q) ad 26) (g : Nat → Nat → Int32) (σ τ : Nat → Nat) (hσ : pmK σ τ) (n : Nat) (hl : lnI g) (hx : n < 256) : bF l D cA z0 SK SV ad shB 26 yX5_append cX5_append 2 (some .int) 0 [.ref 24, .int (nI n)] (layB g σ τ) (some (.int (sc_append_r n g))) (layB (sc_append_w n g) σ τ) := by
  refine bCT_intro (tb := tb_X5_append) (own := RX5) hE pn_X5 rfl tk_X5_append rfl (Nat.le_of_ble_eq_true rfl) ?_
  intro p e s0 m args below meth c C hr
  have hq0 := hl.2
  refine bv_blk C frk_X5 csk_X5 2 2 rfl (L1 := ([(0, .ref 24), (1, .int (nI n))] : Lc)) (st1 := ([.int (g 0 4)] : List Value)) (w1 := (layB g σ τ)) (by rfl) ?_
  refine bv_if_lt (j := 7) C rfl rfl (fun h => absurd h (by rw [show (g 0 4) = nI (cl (g 0 4)) from hl.1]; exact (nI_nlt (a := (cl (g 0 4))) (b := 0) (by omega) (by omega)))) (fun _ => ?_)
  refine bv_blk C frk_X5 csk_X5 3 6 rfl (L1 := ([(0, .ref 24), (1, .int (nI n))] : Lc)) (st1 := ([.int (120), .int (g 0 4)] : List Value)) (w1 := (layB g σ τ)) (by rfl) ?_
  by_cases c2 : cl (g 0 4) < 120
  · have hq := hl.2
    refine bv_icmp_lt (j := 9) C rfl rfl (fun _ => ?_) (fun h => absurd (by rw [show (g 0 4) = nI (cl (g 0 4)) from hl.1]; exact (nI_lt (a := (cl (g 0 4))) (b := 120) (by omega) (by omega))) h)
    refine bv_blk C frk_X5 csk_X5 6 15 rfl (L1 := ([(0, .ref 24), (1, .int (nI n))] : Lc)) (st1 := ([.int ((Int32.toUInt32 (nI n) % 65536).toInt32), .int (g 0 4), .ref 25] : List Value)) (w1 := (layB g σ τ)) (by rfl) ?_
    rw [(ch_all2 n hx).1]
    refine bv_cast C rfl rfl (by decide) (j := (cl (g 0 4))) (by exact hl.1) (by first | decide | omega) (by decide) (ch_all2 n hx).2 ?_
    refine bv_w (lb_up (o := 25) (k := (cl (g 0 4))) (a := 3) (b := ((cl (g 0 4)))) hσ (by decide) (show (cl (g 0 4)) < 120 by first | decide | omega) (by rfl) (by rfl)) ?_
    refine bv_blk C frk_X5 csk_X5 6 22 rfl (L1 := ([(0, .ref 24), (1, .int (nI n))] : Lc)) (st1 := ([] : List Value)) (w1 := up2 (layB (ug g 3 ((cl (g 0 4))) (nI n)) σ τ) 24 1 (.int ((g 0 4) + (1)))) (by rfl) ?_
    refine bv_w (lb_up (o := 24) (k := 1) (a := 0) (b := 4) hσ (by decide) (by decide) (by rfl) (by rfl)) ?_
    refine bv_blk C frk_X5 csk_X5 2 24 rfl (L1 := ([(0, .ref 24), (1, .int (nI n))] : Lc)) (st1 := ([.int ((g 0 4) + (1))] : List Value)) (w1 := (layB (ug (ug g 3 ((cl (g 0 4))) (nI n)) 0 4 ((g 0 4) + (1))) σ τ)) (by rfl) ?_
    exact bv_iret C rfl hr rfl ⟨by (exact congrArg (fun x => some (Value.int x)) (((if_pos c2).trans rfl)).symm), by (exact congrArg (fun x => (layB x σ τ)) (((if_pos c2).trans rfl)).symm)⟩
  · have hq := hl.2
    refine bv_icmp_lt (j := 9) C rfl rfl (fun h => absurd h (by rw [show (g 0 4) = nI (cl (g 0 4)) from hl.1]; exact (nI_nlt (a := (cl (g 0 4))) (b := 120) (by omega) (by omega)))) (fun _ => ?_)
    refine bv_blk C frk_X5 csk_X5 1 8 rfl (L1 := ([(0, .ref 24), (1, .int (nI n))] : Lc)) (st1 := ([.int (-100004)] : List Value)) (w1 := (layB g σ τ)) (by rfl) ?_
    exact bv_iret C rfl hr rfl ⟨by (exact congrArg (fun x => some (Value.int x)) (((if_neg c2).trans rfl)).symm), by (exact congrArg (fun x => (layB x σ τ)) (((if_neg c2).trans rfl)).symm)⟩
