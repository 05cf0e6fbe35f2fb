theorem bk_rcF {n : Nat} : ∀ (m b Bk : Nat) (g : Nat → Nat → Int32), g 1 13 = nI Bk → b + m = Bk → Bk ≤ 3 → evK g → bkK (rcF n m b g)
  | 0, b, Bk, g, h1, h2, h3, hE => ⟨Bk, (nte_13 13 (by omega) (by omega) (evK_at hE (ug_ne (by omega)))).trans ((ug_ne (by omega)).trans h1), h3⟩
  | m + 1, b, Bk, g, h1, h2, h3, hE => by
    unfold rcF
    split
    · have e1 : rcT n b g 1 13 = nI Bk := (kf_rcT (n := n) (b := b) (g := g) 13 (by unfold frK; omega)).trans h1
      have e2 : evK (rbG (rcT n b g) b) := evK_at hE ((kf_rb 14 (by omega) (by omega)).trans (kf_rcT (n := n) (b := b) 14 (by unfold frK; omega)))
      refine ⟨Bk - 1, (nte_13 13 (by omega) (by omega) e2).trans ?_, by omega⟩
      unfold rbG
      rw [ug_same]
      unfold shK
      rw [if_neg (by omega), e1]
      exact pk_sub (b := 1) (by omega)
    · exact bk_rcF m (b + 1) Bk _ ((kf_snt (kf_rf g) 13 (by unfold frK; omega)).trans h1) (by omega) h3 (evK_at hE (kf_snt (kf_rf g) 14 (by unfold frK; omega)))
theorem bk_tlk {n : Nat} {g : Nat → Nat → Int32} (hE : evK g) (hB : bkK g) : bkK (tlkG n g) := by
  have h2 : bkK (tk2 n g) := bkK_at hB (kf_tk2 13 (by unfold frK; omega))
  have hE2 : evK (tk2 n g) := evK_at hE (kf_tk2 14 (by unfold frK; omega))
  unfold tlkG
  split
  · exact bkK_at h2 (ug_ne (by omega))
  · unfold tkR
    split
    · exact bkK_at h2 (ug_ne (by omega))
    · obtain ⟨b, h3, h4⟩ := h2
      rw [ug_ne (by omega), h3, nI_clamp (by omega)]
      exact bk_rcF b 0 b _ ((ug_ne (by omega)).trans ((ug_ne (by omega)).trans h3)) (by omega) h4 (evK_at hE2 ((ug_ne (by omega)).trans (ug_ne (by omega))))
theorem bk_dsw {f n : Nat} {S : Nat → Nat} {g : Nat → Nat → Int32} (hf : f < 2) (hS : secK g S) (hE : evK g) (hB : bkK g) : bkK (dswG f n S g) := by
  have e : ∀ a b, evK (ug (ug (phW f n S g) 1 0 a) 1 1 b) := fun a b => evK_at hE ((ug_ne (by omega)).trans ((ug_ne (by omega)).trans (phW_at hf hS 14 (by unfold frK; omega))))
  have e2 : ∀ a b kd v, bkK (nteG (ug (ug (phW f n S g) 1 0 a) 1 1 b) kd v) := fun a b kd v => bkK_at hB ((nte_13 13 (by omega) (by omega) (e a b)).trans ((ug_ne (by omega)).trans ((ug_ne (by omega)).trans (phW_at hf hS 13 (by unfold frK; omega)))))
  unfold dswG
  split
  · exact e2 _ _ _ _
  · exact e2 _ _ _ _
/-- what every interval leaves as it must be -/
def goodR (g : Nat → Nat → Int32) (n : Nat) (S : Nat → Nat) : Prop := statR g n ∧ secK g S ∧ evK g ∧ bkK g
theorem gd_kp {g g' : Nat → Nat → Int32} {n : Nat} {S : Nat → Nat} (h : goodR g n S) (k : kept g g') (hE : evK g') (hB : bkK g') : goodR g' n S := ⟨st_same k h.1, secK_kp k h.2.1, hE, hB⟩
theorem gd_ps1 {g : Nat → Nat → Int32} {n : Nat} {S : Nat → Nat} (h : goodR g n S) : goodR (ps1 n g) n S := gd_kp h (kp_ps1 (kp_rf g)) (evK_at h.2.2.1 (ps1_at 14 (by omega) (by omega) h.1.2.1)) (bkK_at h.2.2.2 (ps1_at 13 (by omega) (by omega) h.1.2.1))
theorem gd_trk {g : Nat → Nat → Int32} {n s : Nat} {S : Nat → Nat} (hs : s < 2) (h : goodR g n S) : goodR (trkG s n S g) n S := gd_kp h (kp_trk hs (kp_rf g)) (ev_trk hs h.2.2.1) (bkK_at h.2.2.2 (trk_at hs h.2.2.1 13 (by unfold frK; omega) (by omega) (by omega)))
theorem gd_tlk {g : Nat → Nat → Int32} {n : Nat} {S : Nat → Nat} (h : goodR g n S) : goodR (tlkG n g) n S := gd_kp h (kp_tlk h.2.2.2 (kp_rf g)) (ev_tlk h.2.2.1) (bk_tlk h.2.2.1 h.2.2.2)
theorem gd_dsw {g : Nat → Nat → Int32} {n f : Nat} {S : Nat → Nat} (hf : f < 2) (h : goodR g n S) : goodR (dswG f n S g) n S := gd_kp h (kp_dsw hf h.2.1 (kp_rf g)) (ev_dsw hf h.2.1 h.2.2.1) (bk_dsw hf h.2.1 h.2.2.1 h.2.2.2)
theorem gd_pas {g : Nat → Nat → Int32} {n : Nat} {S : Nat → Nat} (h : goodR g n S) : goodR (pasG n S g) n S := by
  have a : goodR (psA n S g) n S := by
    unfold psA
    split
    · exact gd_trk (by omega) (gd_trk (by omega) (gd_ps1 h))
    · exact gd_ps1 h
  have b : goodR (psB n S g) n S := by
    unfold psB
    split
    · exact gd_tlk a
    · exact a
  unfold pasG
  split
  · exact gd_dsw (by omega) b
  · exact b
def pasN (n : Nat) (S : Nat → Nat) (g : Nat → Nat → Int32) : Nat → Nat → Nat → Int32
  | 0 => g
  | k + 1 => pasG n S (pasN n S g k)
theorem gd_pasN {g : Nat → Nat → Int32} {n : Nat} {S : Nat → Nat} (h : goodR g n S) : ∀ k, goodR (pasN n S g k) n S
  | 0 => h
  | k + 1 => gd_pas (gd_pasN h k)
theorem gd_sv {g : Nat → Nat → Int32} {n : Nat} {S : Nat → Nat} (h : goodR g n S) : goodR (svG g) n S := gd_kp h (kp_sv (kp_rf g)) (evK_at h.2.2.1 (sv_at 14 (by omega))) (bkK_at h.2.2.2 (sv_at 13 (by omega)))
theorem num_of {x : Int32} {m : Nat} (hm : m < 2 ^ 31) (h : (1 : Int32) ≤ x ∧ x ≤ nI m) : ∃ k : Nat, 1 ≤ k ∧ k ≤ m ∧ x = nI k := by
  have h0 : ¬ x < 0 := by
    rw [Int32.not_lt]
    exact Int32.le_trans (by decide) h.1
  obtain ⟨k, h1, rfl⟩ := nI_of h0
  refine ⟨k, ?_, (nI_leI h1 hm).mp h.2, rfl⟩
  exact (nI_leI (a := 1) (by omega) h1).mp h.1
