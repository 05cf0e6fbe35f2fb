theorem stat_of {x : Int32} (h : 0 ≤ x ∧ x ≤ 1) : ∃ s : Nat, s < 2 ∧ x = nI s := by
  obtain ⟨j, h1, h2⟩ := nI_of2 (M := 1) (n := 1) rfl (by rw [Int32.not_lt]; exact h.1) h.2
  exact ⟨j, by omega, h2⟩
theorem path_of {x y : Int32} {n : Nat} (hy : y = nI n) (hn : n < 2 ^ 30) (h : 0 ≤ x ∧ x ≤ y - 1) : ∃ s : Nat, s < n ∧ x = nI s := by
  obtain ⟨j, h1, h2⟩ := nI_of (x := x) (by rw [Int32.not_lt]; exact h.1)
  refine ⟨j, ?_, h2⟩
  have h3 := h.2
  rw [hy, h2, Int32.le_iff_toInt_le, nI_toInt h1, show (1 : Int32) = nI 1 from rfl, pk_sub_toInt hn (by omega)] at h3
  omega
