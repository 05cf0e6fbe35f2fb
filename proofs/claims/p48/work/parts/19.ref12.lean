theorem stat_of {x : Int32} (h : 0 ≤ x ∧ x ≤ 1) : ∃ s : Nat, s < 2 ∧ x = nI s := by
  obtain ⟨j, h1, h2⟩ := nI_of2 (M := 1) (n := 1) rfl (by rw [Int32.not_lt]; exact h.1) h.2
  exact ⟨j, by omega, h2⟩
