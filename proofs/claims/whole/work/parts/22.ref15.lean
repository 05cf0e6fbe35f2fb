theorem bk_rcF {n : Nat} : ∀ (m b Bk : Nat) (g : Nat → Nat → Int32), g 1 13 = nI Bk → b + m = Bk → Bk ≤ 3 → evK g → bkK (rcF n m b g)
  | 0, b, Bk, g, h1, h2, h3, hE => ⟨Bk, (nte_13 13 (by omega) (by omega) (evK_at hE (ug_ne (by omega)))).trans ((ug_ne (by omega)).trans h1), h3⟩
  | m + 1, b, Bk, g, h1, h2, h3, hE => by
    unfold rcF
    split
    · have e1 : rcT n b g 1 13 = nI Bk := (kf_rcT (n := n) (b := b) (g := g) 13 (by unfold frK; omega)).trans h1
      have e2 : evK (rbG (rcT n b g) b) := evK_at hE ((kf_rb 14 (by omega) (by omega)).trans (kf_rcT (n := n) (b := b) 14 (by unfold frK; omega)))
      refine ⟨Bk - 1, (nte_13 13 (by omega) (by omega) e2).trans ?_, by omega⟩
      unfold rbG
      rw [ug_same]
      unfold shK
      rw [if_neg (by omega), e1]
      exact pk_sub (b := 1) (by omega)
    · exact bk_rcF m (b + 1) Bk _ ((kf_snt (kf_rf g) 13 (by unfold frK; omega)).trans h1) (by omega) h3 (evK_at hE (kf_snt (kf_rf g) 14 (by unfold frK; omega)))
theorem bk_tlk {n : Nat} {g : Nat → Nat → Int32} (hE : evK g) (hB : bkK g) : bkK (tlkG n g) := by
  have h2 : bkK (tk2 n g) := bkK_at hB (kf_tk2 13 (by unfold frK; omega))
  have hE2 : evK (tk2 n g) := evK_at hE (kf_tk2 14 (by unfold frK; omega))
  unfold tlkG
  split
  · exact bkK_at h2 (ug_ne (by omega))
  · unfold tkR
    split
    · exact bkK_at h2 (ug_ne (by omega))
    · obtain ⟨b, h3, h4⟩ := h2
      rw [ug_ne (by omega), h3, nI_clamp (by omega)]
      exact bk_rcF b 0 b _ ((ug_ne (by omega)).trans ((ug_ne (by omega)).trans h3)) (by omega) h4 (evK_at hE2 ((ug_ne (by omega)).trans (ug_ne (by omega))))
theorem bk_dsw {f n : Nat} {S : Nat → Nat} {g : Nat → Nat → Int32} (hf : f < 2) (hS : secK g S) (hE : evK g) (hB : bkK g) : bkK (dswG f n S g) := by
  have e : ∀ a b, evK (ug (ug (phW f n S g) 1 0 a) 1 1 b) := fun a b => evK_at hE ((ug_ne (by omega)).trans ((ug_ne (by omega)).trans (phW_at hf hS 14 (by unfold frK; omega))))
  have e2 : ∀ a b kd v, bkK (nteG (ug (ug (phW f n S g) 1 0 a) 1 1 b) kd v) := fun a b kd v => bkK_at hB ((nte_13 13 (by omega) (by omega) (e a b)).trans ((ug_ne (by omega)).trans ((ug_ne (by omega)).trans (phW_at hf hS 13 (by unfold frK; omega)))))
  unfold dswG
  split
  · exact e2 _ _ _ _
  · exact e2 _ _ _ _
/-- what every interval leaves as it must be -/
def goodR (g : Nat → Nat → Int32) (n : Nat) (S : Nat → Nat) : Prop := statR g n ∧ secK g S ∧ evK g ∧ bkK g
theorem gd_kp {g g' : Nat → Nat → Int32} {n : Nat} {S : Nat → Nat} (h : goodR g n S) (k : kept g g') (hE : evK g') (hB : bkK g') : goodR g' n S := ⟨st_same k h.1, secK_kp k h.2.1, hE, hB⟩
theorem gd_ps1 {g : Nat → Nat → Int32} {n : Nat} {S : Nat → Nat} (h : goodR g n S) : goodR (ps1 n g) n S := gd_kp h (kp_ps1 (kp_rf g)) (evK_at h.2.2.1 (ps1_at 14 (by omega) (by omega) h.1.2.1)) (bkK_at h.2.2.2 (ps1_at 13 (by omega) (by omega) h.1.2.1))
theorem gd_trk {g : Nat → Nat → Int32} {n s : Nat} {S : Nat → Nat} (hs : s < 2) (h : goodR g n S) : goodR (trkG s n S g) n S := gd_kp h (kp_trk hs (kp_rf g)) (ev_trk hs h.2.2.1) (bkK_at h.2.2.2 (trk_at hs h.2.2.1 13 (by unfold frK; omega) (by omega) (by omega)))
theorem gd_tlk {g : Nat → Nat → Int32} {n : Nat} {S : Nat → Nat} (h : goodR g n S) : goodR (tlkG n g) n S := gd_kp h (kp_tlk h.2.2.2 (kp_rf g)) (ev_tlk h.2.2.1) (bk_tlk h.2.2.1 h.2.2.2)
theorem gd_dsw {g : Nat → Nat → Int32} {n f : Nat} {S : Nat → Nat} (hf : f < 2) (h : goodR g n S) : goodR (dswG f n S g) n S := gd_kp h (kp_dsw hf h.2.1 (kp_rf g)) (ev_dsw hf h.2.1 h.2.2.1) (bk_dsw hf h.2.1 h.2.2.1 h.2.2.2)
theorem gd_pas {g : Nat → Nat → Int32} {n : Nat} {S : Nat → Nat} (h : goodR g n S) : goodR (pasG n S g) n S := by
  have a : goodR (psA n S g) n S := by
    unfold psA
    split
    · exact gd_trk (by omega) (gd_trk (by omega) (gd_ps1 h))
    · exact gd_ps1 h
  have b : goodR (psB n S g) n S := by
    unfold psB
    split
    · exact gd_tlk a
    · exact a
  unfold pasG
  split
  · exact gd_dsw (by omega) b
  · exact b
def pasN (n : Nat) (S : Nat → Nat) (g : Nat → Nat → Int32) : Nat → Nat → Nat → Int32
  | 0 => g
  | k + 1 => pasG n S (pasN n S g k)
theorem gd_pasN {g : Nat → Nat → Int32} {n : Nat} {S : Nat → Nat} (h : goodR g n S) : ∀ k, goodR (pasN n S g k) n S
  | 0 => h
  | k + 1 => gd_pas (gd_pasN h k)
theorem gd_sv {g : Nat → Nat → Int32} {n : Nat} {S : Nat → Nat} (h : goodR g n S) : goodR (svG g) n S := gd_kp h (kp_sv (kp_rf g)) (evK_at h.2.2.1 (sv_at 14 (by omega))) (bkK_at h.2.2.2 (sv_at 13 (by omega)))
theorem num_of {x : Int32} {m : Nat} (hm : m < 2 ^ 31) (h : (1 : Int32) ≤ x ∧ x ≤ nI m) : ∃ k : Nat, 1 ≤ k ∧ k ≤ m ∧ x = nI k := by
  have h0 : ¬ x < 0 := by
    rw [Int32.not_lt]
    exact Int32.le_trans (by decide) h.1
  obtain ⟨k, h1, rfl⟩ := nI_of h0
  refine ⟨k, ?_, (nI_leI h1 hm).mp h.2, rfl⟩
  exact (nI_leI (a := 1) (by omega) h1).mp h.1
set_option maxRecDepth 100000 in
set_option maxHeartbeats 4000000 in
theorem ct_pass {l : Launch} {D : va_G} {cA : FieldType → ClassId} {z0 : Nat} {SK SV : Nat → Nat} {ad : Nat → Nat} (hE : aD (fun q => z0 ≤ q) ad 9) (g : Nat → Nat → Int32) (h : Int64) (n : Nat) (S : Nat → Nat) (a : Int32) (hg : goodR g n S) (hv : svK g) : bF l D cA z0 SK SV ad shM 9 yX9_pass cX9_pass 3 (some .int) 12 [.ref 0, .int a] (layM g h) (some (.int (if ((1) ≤ a ∧ a ≤ (50)) then pasN n S (svG g) a.toNatClampNeg 1 0 else (-100002)))) (layM (if ((1) ≤ a ∧ a ≤ (50)) then pasN n S (svG g) a.toNatClampNeg else g) h) := by
  refine bCT_intro (tb := tb_X9_pass) (own := RX9) hE pn_X9 rfl tk_X9_pass rfl (Nat.le_of_ble_eq_true rfl) ?_
  intro p e s0 m args below meth c C hr
  refine bv_blk C frk_X9 csk_X9 4 4 rfl (L1 := ([(0, .ref 0), (1, .int a)] : Lc)) (st1 := ([.long (50), .long (1), .long (Int32.toInt64 a)] : List Value)) (w1 := (layM g h)) (by rfl) ?_
  by_cases c1 : ((1) ≤ a ∧ a ≤ (50))
  · refine bv_fS1 C rfl (ct_in_t hE _ (x := a) (lo := (1)) (hi := (50)) c1) ml_X9_65 st_X9_in ini_X9 cd_X9_in ok_X9_in rfl ⟨Nat.le_of_ble_eq_true rfl, Nat.le_of_ble_eq_true rfl⟩ ⟨Nat.zero_le _, Nat.zero_le _⟩ (rest := ([] : List Value)) rfl (Nat.le_of_ble_eq_true rfl) ?_
    refine bv_if_ne (j := 8) C rfl rfl (fun _ => ?_) (fun h => absurd h (by decide))
    obtain ⟨k1, hk1, hk2, rfl⟩ := num_of (m := 50) (by omega) c1
    refine bv_blk C frk_X9 csk_X9 1 9 rfl (L1 := ([(0, .ref 0), (1, .int (nI k1))] : Lc)) (st1 := ([.ref 0] : List Value)) (w1 := (layM g h)) (by rfl) ?_
    refine bv_fV0 C rfl (ct_savesA hE g _ hv) ml_X9_134 im_X9_saves sel_X9_saves ini_X9 cd_X9_saves ok_X9_saves rfl ⟨Nat.le_of_ble_eq_true rfl, Nat.le_of_ble_eq_true rfl⟩ ⟨Nat.zero_le _, Nat.zero_le _⟩ (by decide) rfl rfl rfl (rest := ([] : List Value)) rfl (Nat.le_of_ble_eq_true rfl) ?_
    obtain ⟨v1, ev1⟩ : ∃ x : Nat → Nat → Int32, x = (svG g) := ⟨_, rfl⟩
    have kp_v1 : kept g v1 := by rw [ev1]; exact (kp_sv (kp_rf _))
    refine bv_weq (show (layM (svG g) h) = (layM v1 h) from by rw [ev1]) ?_
    refine bv_blk C frk_X9 csk_X9 2 12 rfl (L1 := ([(2, .int (0)), (0, .ref 0), (1, .int (nI k1))] : Lc)) (st1 := ([] : List Value)) (w1 := (layM v1 h)) (by rfl) ?_
    have lp_p : ∀ (n_p k_p : Nat), 0 ≤ k_p → k_p + n_p = k1 → bV p l e (bR 12) s0 m args below meth c D cA shM (adA ad 9) 3 tb_X9_pass (MQ below (bQ D cA ad shM 9 (fun r w1 => r = (some (.int (if ((1) ≤ (nI k1) ∧ (nI k1) ≤ (50)) then pasN n S (svG g) (nI k1).toNatClampNeg 1 0 else (-100002)))) ∧ w1 = (layM (if ((1) ≤ (nI k1) ∧ (nI k1) ≤ (50)) then pasN n S (svG g) (nI k1).toNatClampNeg else g) h))) args s0 0 0 (adA ad 9)) ad 9 0 0 (layM (pasN n S v1 k_p) h) 12 ([(2, .int (nI k_p)), (0, .ref 0), (1, .int (nI k1))] : Lc) ([] : List Value) := by
      intro n_p
      induction n_p with
      | zero =>
        intro k_p hs_p hk_p
        have hkB_p : k_p = k1 := by omega
        rw [hkB_p]
        refine bv_blk C frk_X9 csk_X9 2 14 rfl (L1 := ([(2, .int (nI k1)), (0, .ref 0), (1, .int (nI k1))] : Lc)) (st1 := ([.int (nI k1), .int (nI k1)] : List Value)) (w1 := (layM (pasN n S v1 k1) h)) (by rfl) ?_
        refine bv_icmp_ge (j := 19) C rfl rfl (fun _ => ?_) (fun h => absurd (nI_le (a := k1) (b := k1) (by omega) (by omega)) h)
        refine bv_blk C frk_X9 csk_X9 3 22 rfl (L1 := ([(2, .int (nI k1)), (0, .ref 0), (1, .int (nI k1))] : Lc)) (st1 := ([.int (0), .ref 1] : List Value)) (w1 := (layM (pasN n S v1 k1) h)) (by rfl) ?_
        refine bv_iald C rfl rfl (by decide) (j := 0) (by exact rfl) (by first | decide | omega) (by decide) (y := ((pasN n S v1 k1) 1 0)) (by rfl) ?_
        exact bv_iret C rfl hr rfl ⟨by (subst ev1; simp only [ug_same, nI_clamp (show k1 < 2 ^ 31 by omega), c1, and_self, eq_self, or_true, true_or, not_true, not_false_iff, if_true, if_false, ↓reduceIte]), by (subst ev1; simp only [ug_same, nI_clamp (show k1 < 2 ^ 31 by omega), c1, and_self, eq_self, or_true, true_or, not_true, not_false_iff, if_true, if_false, ↓reduceIte])⟩
      | succ n_p ih =>
        intro k_p hs_p hk_p
        refine bv_blk C frk_X9 csk_X9 2 14 rfl (L1 := ([(2, .int (nI k_p)), (0, .ref 0), (1, .int (nI k1))] : Lc)) (st1 := ([.int (nI k1), .int (nI k_p)] : List Value)) (w1 := (layM (pasN n S v1 k_p) h)) (by rfl) ?_
        refine bv_icmp_ge (j := 19) C rfl rfl (fun h => absurd h (nI_ge (a := k_p) (b := k1) (by omega) (by omega))) (fun _ => ?_)
        refine bv_blk C frk_X9 csk_X9 1 16 rfl (L1 := ([(2, .int (nI k_p)), (0, .ref 0), (1, .int (nI k1))] : Lc)) (st1 := ([.ref 0] : List Value)) (w1 := (layM (pasN n S v1 k_p) h)) (by rfl) ?_
        refine bv_fV0 C rfl (ct_passes hE (pasN n S v1 k_p) _ n S (gd_pasN (show goodR v1 n S from by rw [ev1]; exact gd_sv hg) k_p).1 (gd_pasN (show goodR v1 n S from by rw [ev1]; exact gd_sv hg) k_p).2.1 (gd_pasN (show goodR v1 n S from by rw [ev1]; exact gd_sv hg) k_p).2.2.1 (gd_pasN (show goodR v1 n S from by rw [ev1]; exact gd_sv hg) k_p).2.2.2) ml_X9_184 im_X9_passes sel_X9_passes ini_X9 cd_X9_passes ok_X9_passes rfl ⟨Nat.le_of_ble_eq_true rfl, Nat.le_of_ble_eq_true rfl⟩ ⟨Nat.zero_le _, Nat.zero_le _⟩ (by decide) rfl rfl rfl (rest := ([] : List Value)) rfl (Nat.le_of_ble_eq_true rfl) ?_
        refine bv_blk C frk_X9 csk_X9 1 18 rfl (L1 := ([(2, .int ((nI k_p) + Int32.ofInt 1)), (0, .ref 0), (1, .int (nI k1))] : Lc)) (st1 := ([] : List Value)) (w1 := (layM (pasG n S (pasN n S v1 k_p)) h)) (by rfl) ?_
        rw [show ((nI k_p) + Int32.ofInt 1) = nI (k_p + 1) from (nIi rfl)]
        refine bv_goto (j := 12) C rfl rfl ?_
        refine bv_weq (show (layM (pasG n S (pasN n S v1 k_p)) h) = (layM (pasN n S v1 (k_p + 1)) h) from by rfl) ?_
        refine bv_sub [0, 1, 2] (by rfl) ?_
        exact ih (k_p + 1) (by omega) (by omega)
    refine bv_weq (show (layM v1 h) = (layM (pasN n S v1 0) h) from by rfl) ?_
    refine bv_sub [0, 1, 2] (by rfl) ?_
    exact lp_p (k1 - 0) 0 (Nat.le_refl _) (by omega)
  · refine bv_fS1 C rfl (ct_in_f hE _ (x := a) (lo := (1)) (hi := (50)) c1) ml_X9_65 st_X9_in ini_X9 cd_X9_in ok_X9_in rfl ⟨Nat.le_of_ble_eq_true rfl, Nat.le_of_ble_eq_true rfl⟩ ⟨Nat.zero_le _, Nat.zero_le _⟩ (rest := ([] : List Value)) rfl (Nat.le_of_ble_eq_true rfl) ?_
    refine bv_if_ne (j := 8) C rfl rfl (fun h => absurd h (by decide)) (fun _ => ?_)
    refine bv_blk C frk_X9 csk_X9 1 7 rfl (L1 := ([(0, .ref 0), (1, .int a)] : Lc)) (st1 := ([.int (-100002)] : List Value)) (w1 := (layM g h)) (by rfl) ?_
    exact bv_iret C rfl hr rfl ⟨by (simp only [ug_same, c1, and_self, eq_self, or_true, true_or, not_true, not_false_iff, if_true, if_false, ↓reduceIte]), by (simp only [ug_same, c1, and_self, eq_self, or_true, true_or, not_true, not_false_iff, if_true, if_false, ↓reduceIte])⟩
