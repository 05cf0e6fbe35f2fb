def shK (g : Nat → Nat → Int32) (lo hi : Nat) : Nat → Nat → Int32 := fun i j => if i = 1 ∧ lo ≤ j ∧ j < hi then g 1 (j + 3) else g i j
theorem shK_0 (g : Nat → Nat → Int32) (lo : Nat) : shK g lo lo = g := by
  funext i k
  unfold shK
  rw [if_neg (by omega)]
theorem shK_s (g : Nat → Nat → Int32) (lo n : Nat) (h : lo ≤ n) : ug (shK g lo n) 1 n (shK g lo n 1 (n + 3)) = shK g lo (n + 1) := by
  have e : shK g lo n 1 (n + 3) = g 1 (n + 3) := by
    unfold shK
    rw [if_neg (by omega)]
  rw [e]
  funext i k
  unfold ug shK
  by_cases h1 : i = 1
  · by_cases h2 : k = n
    · rw [if_pos h1, if_pos h2, if_pos (by omega), h2]
    · rw [if_pos h1, if_neg h2]
      by_cases h3 : lo ≤ k ∧ k < n
      · rw [if_pos ⟨h1, h3⟩, if_pos ⟨h1, by omega⟩]
      · rw [if_neg (fun z => h3 z.2), if_neg (fun z => h3 ⟨z.2.1, by omega⟩)]
  · rw [if_neg h1, if_neg (fun z => h1 z.1), if_neg (fun z => h1 z.1)]
def rbG (g : Nat → Nat → Int32) (b : Nat) : Nat → Nat → Int32 := ug (shK g (103 + 3 * b) 109) 1 13 (shK g (103 + 3 * b) 109 1 13 - 1)
theorem kf_rb {g : Nat → Nat → Int32} {b : Nat} (k : Nat) (h : k < 103 ∨ 109 ≤ k) (h2 : k ≠ 13) : rbG g b 1 k = g 1 k := by
  unfold rbG
  rw [ug_ne (by omega)]
  unfold shK
  rw [if_neg (by omega)]
theorem kp_rb {g g0 : Nat → Nat → Int32} {b : Nat} (h : kept g0 g) : kept g0 (rbG g b) := kp_tr h (fun k hk => by
  unfold stK at hk
  exact kf_rb k (by omega) (by omega))
def rcS (n b : Nat) (g : Nat → Nat → Int32) : Nat → Nat → Int32 := sntG g 0 (g 1 (103 + (3 * b))) (g 1 (103 + (3 * b) + 1)) 4 n
def rcT (n b : Nat) (g : Nat → Nat → Int32) : Nat → Nat → Int32 := ug (ug (rcS n b g) 1 18 (rcS n b g 1 (103 + (3 * b)))) 1 38 (ug (rcS n b g) 1 18 (rcS n b g 1 (103 + (3 * b))) 1 (103 + (3 * b) + 1))
def rcF (n : Nat) : Nat → Nat → (Nat → Nat → Int32) → Nat → Nat → Int32
  | 0, _, g => nteG (ug g 1 0 0) 2 0
  | m + 1, b, g => if hrdG g 0 (g 1 (103 + (3 * b))) (g 1 (103 + (3 * b) + 1)) n = true then nteG (rbG (rcT n b g) b) 3 (nI b) else rcF n m (b + 1) (rcS n b g)
theorem kf_rcT {n b : Nat} {g : Nat → Nat → Int32} : keptF g (rcT n b g) := kf_ug (by omega) (kf_ug (by omega) (kf_snt (kf_rf g)))
