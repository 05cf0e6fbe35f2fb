/-! WHAT A RUN OF FRAMES CHANGES -/
/-- the frames and their time go up by q and t; what lies outside of P (and of the frames, the time and x) stays -/
def cR (P : Nat → Prop) (K : Nat) (g g' : Nat → Nat → Int32) : Prop := ∃ q t : Nat, q ≤ K ∧ 2 * q ≤ t ∧ t ≤ 16 * q ∧ g' 1 3 = g 1 3 + nI q ∧ g' 1 4 = g 1 4 + nI t ∧ ∀ k, ¬ P k → k ≠ 3 → k ≠ 4 → k ≠ 5 → g' 1 k = g 1 k
theorem aI_0 {x : Int32} : x + nI 0 = x := by
  rw [show nI 0 = (0 : Int32) from rfl, Int32.add_zero]
theorem cR_rf {P : Nat → Prop} {g : Nat → Nat → Int32} : cR P 0 g g := ⟨0, 0, by omega, by omega, by omega, aI_0.symm, aI_0.symm, fun _ _ _ _ _ => rfl⟩
theorem cR_tr {P : Nat → Prop} {K1 K2 : Nat} {a b c : Nat → Nat → Int32} (h1 : cR P K1 a b) (h2 : cR P K2 b c) : cR P (K1 + K2) a c := by
  obtain ⟨q1, t1, a1, a2, a3, a4, a5, a6⟩ := h1
  obtain ⟨q2, t2, b1, b2, b3, b4, b5, b6⟩ := h2
  refine ⟨q1 + q2, t1 + t2, by omega, by omega, by omega, ?_, ?_, fun k h h3 h4 h5 => (b6 k h h3 h4 h5).trans (a6 k h h3 h4 h5)⟩
  · rw [b4, a4, Int32.add_assoc, nI_add]
  · rw [b5, a5, Int32.add_assoc, nI_add]
theorem cR_mn {P P' : Nat → Prop} {K K' : Nat} {a b : Nat → Nat → Int32} (h : cR P K a b) (hK : K ≤ K') (hP : ∀ k, P k → P' k) : cR P' K' a b := by
  obtain ⟨q, t, a1, a2, a3, a4, a5, a6⟩ := h
  exact ⟨q, t, by omega, a2, a3, a4, a5, fun k h => a6 k fun z => h (hP k z)⟩
theorem cR_k {P : Nat → Prop} {K K' : Nat} {a b : Nat → Nat → Int32} (h : cR P K a b) (hK : K ≤ K') : cR P K' a b := cR_mn h hK fun _ z => z
theorem cR_at {P : Nat → Prop} {K : Nat} {a b : Nat → Nat → Int32} (h : cR P K a b) (k : Nat) (hk : ¬ P k) (h3 : k ≠ 3) (h4 : k ≠ 4) (h5 : k ≠ 5) : b 1 k = a 1 k := by
  obtain ⟨q, t, a1, a2, a3, a4, a5, a6⟩ := h
  exact a6 k hk h3 h4 h5
theorem cR_snt {P : Nat → Prop} {g : Nat → Nat → Int32} {fr n : Nat} {b0 b1 x : Int32} (d : Nat) (hx : x = nI d) (hd : 2 ≤ d ∧ d ≤ 16) : cR P 1 g (sntG g fr b0 b1 x n) := by
  subst hx
  refine ⟨1, d, by omega, by omega, by omega, ?_, ?_, fun k _ h3 h4 h5 => ?_⟩
  · unfold sntG
    rw [ug_ne (by omega), ug_ne (by omega), ug_same]; rfl
  · unfold sntG
    rw [ug_ne (by omega), ug_same]
  · unfold sntG
    rw [ug_ne (by omega), ug_ne (by omega), ug_ne (by omega), ug_ne (by omega)]
theorem cR_ug {P : Nat → Prop} {K k : Nat} {x : Int32} {a b : Nat → Nat → Int32} (h : cR P K a b) (hk : P k) (h3 : k ≠ 3) (h4 : k ≠ 4) : cR P K a (ug b 1 k x) := by
  obtain ⟨q, t, a1, a2, a3, a4, a5, a6⟩ := h
  refine ⟨q, t, a1, a2, a3, (ug_ne (by omega)).trans a4, (ug_ne (by omega)).trans a5, fun j hj j3 j4 j5 => ?_⟩
  rw [ug_ne (fun z => hj (by rw [z.2]; exact hk))]
  exact a6 j hj j3 j4 j5
/-- a change of x -/
theorem cR_u5 {P : Nat → Prop} {K : Nat} {x : Int32} {a b : Nat → Nat → Int32} (h : cR P K a b) : cR P K a (ug b 1 5 x) := by
  obtain ⟨q, t, a1, a2, a3, a4, a5, a6⟩ := h
  exact ⟨q, t, a1, a2, a3, (ug_ne (by omega)).trans a4, (ug_ne (by omega)).trans a5, fun j hj j3 j4 j5 => (ug_ne (by omega)).trans (a6 j hj j3 j4 j5)⟩
/-- a change outside of the row -/
theorem cR_e {P : Nat → Prop} {K : Nat} {a b b' : Nat → Nat → Int32} (h : cR P K a b) (e : ∀ k, b' 1 k = b 1 k) : cR P K a b' := by
  obtain ⟨q, t, a1, a2, a3, a4, a5, a6⟩ := h
  exact ⟨q, t, a1, a2, a3, (e 3).trans a4, (e 4).trans a5, fun j hj j3 j4 j5 => (e j).trans (a6 j hj j3 j4 j5)⟩
theorem cR_u0 {P : Nat → Prop} {K i k : Nat} {x : Int32} {a b : Nat → Nat → Int32} (h : cR P K a b) (hi : i ≠ 1) : cR P K a (ug b i k x) := cR_e h fun j => ug_ne (by omega)
theorem cR_fill {P : Nat → Prop} {K lo n : Nat} {v : Int32} {a b : Nat → Nat → Int32} (h : cR P K a b) (h5 : 6 ≤ lo) (hP : ∀ k, lo ≤ k → k < lo + n → P k) : cR P K a (fillG b lo n v) := by
  obtain ⟨q, t, a1, a2, a3, a4, a5, a6⟩ := h
  have e : ∀ k, ¬ (lo ≤ k ∧ k < lo + n) → fillG b lo n v 1 k = b 1 k := fun k hk => if_neg (fun z => hk z.2)
  exact ⟨q, t, a1, a2, a3, (e 3 (by omega)).trans a4, (e 4 (by omega)).trans a5, fun j hj j3 j4 j5 => (e j (fun z => hj (hP j z.1 z.2))).trans (a6 j hj j3 j4 j5)⟩
theorem cR_nte {P : Nat → Prop} {K : Nat} {kd v : Int32} {a b : Nat → Nat → Int32} (h : cR P K a b) (hE : evK b) (h14 : P 14) (hP : ∀ k, 112 ≤ k → P k) : cR P K a (nteG b kd v) := by
  obtain ⟨q, t, a1, a2, a3, a4, a5, a6⟩ := h
  refine ⟨q, t, a1, a2, a3, (nte_13 3 (by omega) (by omega) hE).trans a4, (nte_13 4 (by omega) (by omega) hE).trans a5, fun j hj j3 j4 j5 => ?_⟩
  have h1 : j < 112 := Nat.lt_of_not_le fun z => hj (hP j z)
  exact (nte_13 j (Or.inl h1) (fun z => hj (by rw [z]; exact h14)) hE).trans (a6 j hj j3 j4 j5)
theorem cR_swpS {P : Nat → Prop} {fr n k : Nat} {g : Nat → Nat → Int32} (hP : ∀ k, 19 + 20 * (1 - fr) ≤ k → k < 35 + 20 * (1 - fr) → P k) (hk : k < 16) : cR P 1 g (swpS fr n g k) := by
  have h := cR_snt (P := P) (g := g) (fr := fr) (n := n) (b0 := b0W fr (nI k) (-1)) (b1 := b1W fr (nI k) (-1)) (x := 16) 16 rfl (by omega)
  unfold swpS
  split
  · exact cR_ug h (hP _ (by omega) (by omega)) (by omega) (by omega)
  · exact h
theorem cR_swpG {P : Nat → Prop} {fr n : Nat} (hP : ∀ k, 19 + 20 * (1 - fr) ≤ k → k < 35 + 20 * (1 - fr) → P k) : ∀ (k : Nat) {g : Nat → Nat → Int32}, k ≤ 16 → cR P k g (swpG fr n k g)
  | 0, g, _ => cR_rf
  | k + 1, g, hk => by
    have h := cR_tr (cR_swpS (n := n) (g := g) hP (by omega : k < 16)) (cR_swpG (n := n) hP k (g := swpS fr n g k) (by omega))
    exact cR_k h (by omega)
/-- the places that a sweep may change -/
def pS (k : Nat) : Prop := k = 0 ∨ k = 1 ∨ k = 14 ∨ k = 18 ∨ k = 38 ∨ (19 ≤ k ∧ k < 35) ∨ (39 ≤ k ∧ k < 55) ∨ 112 ≤ k
/-- the tables, and the present beams -/
def pT (k : Nat) : Prop := k = 18 ∨ k = 38 ∨ (19 ≤ k ∧ k < 35) ∨ (39 ≤ k ∧ k < 55)
theorem pT_S {k : Nat} (h : pT k) : pS k := by unfold pT at h; unfold pS; omega
section SW
variable {f n : Nat} {S : Nat → Nat} {g : Nat → Nat → Int32}
theorem cR_p1 (hf : f < 2) (hS : S f ≤ 16) : cR pT (S f) g (phg1 f n S g) :=
  cR_k (cR_tr (cR_fill (lo := 19 + 20 * (1 - f)) (n := 16) (v := -100000) (cR_rf (g := g)) (by omega) (fun k h1 h2 => by unfold pT; omega)) (cR_swpG (P := pT) (fr := f) (n := n) (fun k h1 h2 => by unfold pT; omega) (S f) hS)) (by omega)
theorem cR_p2 (hf : f < 2) (hS : S f ≤ 16) (hS2 : S (1 - f) ≤ 16) : cR pT (S f + S (1 - f)) g (phg2 f n S g) := by
  have h := cR_fill (lo := 19 + 20 * f) (n := 16) (v := -100000) (cR_p1 (n := n) (g := g) hf hS) (by omega) (fun k h1 h2 => by unfold pT; omega)
  exact cR_tr h (cR_swpG (P := pT) (fr := 1 - f) (n := n) (fun k h1 h2 => by unfold pT; omega) (S (1 - f)) hS2)
theorem cR_p3 (hf : f < 2) (hS : S f ≤ 16) (hS2 : S (1 - f) ≤ 16) : cR pT (S f + S (1 - f)) g (phg3 f n S g) := cR_ug (cR_p2 hf hS hS2) (by unfold pT; omega) (by omega) (by omega)
theorem cR_p4 (hf : f < 2) (hS : S f ≤ 16) (hS2 : S (1 - f) ≤ 16) : cR pT (S f + S (1 - f) + 1) g (phg4 f n S g) := cR_tr (cR_p3 hf hS hS2) (cR_snt (x := 9) 9 rfl (by omega))
theorem cR_p5 (hf : f < 2) (hS : S f ≤ 16) (hS2 : S (1 - f) ≤ 16) : cR pT (S f + S (1 - f) + 1) g (phg5 f n S g) := cR_ug (cR_p4 hf hS hS2) (by unfold pT; omega) (by omega) (by omega)
theorem cR_p6 (hf : f < 2) (hS : S f ≤ 16) (hS2 : S (1 - f) ≤ 16) : cR pT (S f + S (1 - f) + 1 + 1) g (phg6 f n S g) := cR_tr (cR_p5 hf hS hS2) (cR_snt (x := 9) 9 rfl (by omega))
theorem cR_pW (hf : f < 2) (hS : S f ≤ 16) (hS2 : S (1 - f) ≤ 16) : cR pT 34 g (phW f n S g) := by
  unfold phW
  split
  · exact cR_k (cR_p1 hf hS) (by omega)
  · split
    · exact cR_k (cR_p2 hf hS hS2) (by omega)
    · split
      · exact cR_k (cR_p4 hf hS hS2) (by omega)
      · exact cR_k (cR_p6 hf hS hS2) (by omega)
theorem pW_ev (hf : f < 2) (hS : S f ≤ 16) (hS2 : S (1 - f) ≤ 16) (hE : evK g) : evK (phW f n S g) := evK_at hE (cR_at (cR_pW hf hS hS2) 14 (by unfold pT; omega) (by omega) (by omega) (by omega))
theorem cR_dsw (hf : f < 2) (hS : S f ≤ 16) (hS2 : S (1 - f) ≤ 16) (hE : evK g) : cR pS 34 g (dswG f n S g) := by
  have h : cR pS 34 g (phW f n S g) := cR_mn (cR_pW hf hS hS2) (Nat.le_refl _) fun k => pT_S
  have hE2 := pW_ev (n := n) hf hS hS2 hE
  have u : ∀ (x kd v : Int32), cR pS 34 g (nteG (ug (ug (phW f n S g) 1 0 x) 1 1 0) kd v) := fun x kd v =>
    cR_nte (cR_ug (cR_ug h (by unfold pS; omega) (by omega) (by omega)) (by unfold pS; omega) (by omega) (by omega)) (evK_at hE2 (by rw [ug_ne (by omega), ug_ne (by omega)])) (by unfold pS; omega) (fun k hk => by unfold pS; omega)
  unfold dswG
  split
  · exact u 1 1 (nI f)
  · exact u 0 5 _
end SW
