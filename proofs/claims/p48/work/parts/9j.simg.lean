section KQ
variable {d : Int32} {c r : Nat → Nat → Int32}
theorem TR.n8 (h : TR d c r) : cl (r 0 11) ≤ 8 := by
  obtain ⟨-, -, -, -, -, n, S, h6, h7, -⟩ := h
  have := inv_n8 h6
  rw [h7, show cl (nI n) = n from nI_clamp (by omega)]
  exact this
end KQ
/-! a new state -/
def bgV (k : Nat) : Int32 := if k = 5 then 1 else if k = 9 then 4 else if k = 10 then 2 else if k = 15 then 8 else if k = 17 then 40 else if k = 35 then 8 else if k = 37 then 40 else if 18 ≤ k ∧ k < 35 then -100000 else if 38 ≤ k ∧ k < 55 then -100000 else 0
theorem an_k {g : Nat → Nat → Int32} : ∀ k, k < 55 → anewG g 1 k = bgV k
  | 0, _ => rfl
  | 1, _ => rfl
  | 2, _ => rfl
  | 3, _ => rfl
  | 4, _ => rfl
  | 5, _ => rfl
  | 6, _ => rfl
  | 7, _ => rfl
  | 8, _ => rfl
  | 9, _ => rfl
  | 10, _ => rfl
  | 11, _ => rfl
  | 12, _ => rfl
  | 13, _ => rfl
  | 14, _ => rfl
  | 15, _ => rfl
  | 16, _ => rfl
  | 17, _ => rfl
  | 18, _ => rfl
  | 19, _ => rfl
  | 20, _ => rfl
  | 21, _ => rfl
  | 22, _ => rfl
  | 23, _ => rfl
  | 24, _ => rfl
  | 25, _ => rfl
  | 26, _ => rfl
  | 27, _ => rfl
  | 28, _ => rfl
  | 29, _ => rfl
  | 30, _ => rfl
  | 31, _ => rfl
  | 32, _ => rfl
  | 33, _ => rfl
  | 34, _ => rfl
  | 35, _ => rfl
  | 36, _ => rfl
  | 37, _ => rfl
  | 38, _ => rfl
  | 39, _ => rfl
  | 40, _ => rfl
  | 41, _ => rfl
  | 42, _ => rfl
  | 43, _ => rfl
  | 44, _ => rfl
  | 45, _ => rfl
  | 46, _ => rfl
  | 47, _ => rfl
  | 48, _ => rfl
  | 49, _ => rfl
  | 50, _ => rfl
  | 51, _ => rfl
  | 52, _ => rfl
  | 53, _ => rfl
  | 54, _ => rfl
  | n + 55, h => absurd h (by omega)
theorem bgV_t : ∀ k, k < 55 → (18 ≤ k ∧ k < 35) ∨ 38 ≤ k → bgV k = -100000 := by decide
theorem inv_new {g : Nat → Nat → Int32} (h : ∀ k, k < 55 → g 1 k = bgV k) : invK g 0 (fun _ => 8) ∧ frsh g := by
  have e : ∀ k, k < 55 → g 1 k = bgV k := h
  refine ⟨⟨⟨⟨e 12 (by omega), by omega, ⟨0, e 7 (by omega), by omega⟩, ⟨8, e 15 (by omega), by omega⟩, ⟨8, e 35 (by omega), by omega⟩, ⟨40, e 17 (by omega), by omega⟩, ⟨40, e 37 (by omega), by omega⟩, fun z hz => absurd hz (Nat.not_lt_zero z)⟩, ⟨e 15 (by omega), e 35 (by omega), by decide, by decide, by decide, by decide⟩, ⟨0, e 14 (by omega), by omega⟩, ⟨0, e 13 (by omega), by omega⟩⟩, ?_, fun fr hf k h1 h2 => ?_, ?_, Or.inl (e 0 (by omega)), Or.inl (e 8 (by omega)), Or.inl (e 11 (by omega)), ⟨Or.inl (e 18 (by omega)), Or.inl (e 38 (by omega))⟩, ?_, fun B hB b hb hB3 => ?_⟩, e 0 (by omega), e 13 (by omega), e 14 (by omega), fun k a b => (e k (by omega)).trans (bgV_t k (by omega) (by omega)), fun k a b => (e k (by omega)).trans (bgV_t k (by omega) (by omega))⟩
  · unfold thrK
    rw [e 6 (by omega)]
    decide
  · have z : ¬ fr = 2 := by omega
    have hk8 : 8 ≤ k := h1
    rw [e _ (by omega)]
    exact bgV_t _ (by omega) (by omega)
  · rw [e 10 (by omega)]; decide
  · unfold bmU
    rw [e 0 (by omega)]
    exact fun z => absurd z (by decide)
  · rw [e 13 (by omega)] at hB
    have := nIij (a := 0) (b := B) (by omega) (by omega) hB
    omega
