def fillG (g : Nat → Nat → Int32) (lo n : Nat) (v : Int32) : Nat → Nat → Int32 := fun i k => if i = 1 ∧ lo ≤ k ∧ k < lo + n then v else g i k
theorem fill_0 (g : Nat → Nat → Int32) (lo : Nat) (v : Int32) : fillG g lo 0 v = g := by
  funext i k
  unfold fillG
  rw [if_neg (by omega)]
theorem fill_s (g : Nat → Nat → Int32) (lo n : Nat) (v : Int32) : ug (fillG g lo n v) 1 (lo + n) v = fillG g lo (n + 1) v := by
  funext i k
  unfold ug fillG
  by_cases h1 : i = 1
  · by_cases h2 : k = lo + n
    · rw [if_pos h1, if_pos h2, if_pos (by omega)]
    · rw [if_pos h1, if_neg h2]
      by_cases h3 : lo ≤ k ∧ k < lo + n
      · rw [if_pos ⟨h1, h3⟩, if_pos ⟨h1, by omega⟩]
      · rw [if_neg (fun z => h3 z.2), if_neg (fun z => h3 ⟨z.2.1, by omega⟩)]
  · rw [if_neg h1, if_neg (fun z => h1 z.1), if_neg (fun z => h1 z.1)]
