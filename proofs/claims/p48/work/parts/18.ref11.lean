def drfG (g : Nat → Nat → Int32) (n : Nat) : Nat → Nat → Int32 := fun i k => if i = 1 ∧ 55 ≤ k ∧ k < 55 + 6 * n ∧ (k - 55) % 6 < 2 then arI (g 1 k + g 1 (k + 4)) 64 else g i k
theorem drf_0 (g : Nat → Nat → Int32) : drfG g 0 = g := by
  funext i k
  unfold drfG
  rw [if_neg (by omega)]
theorem drf_at (g : Nat → Nat → Int32) (p k : Nat) (h : k < 55 ∨ 55 + 6 * p ≤ k ∨ 2 ≤ (k - 55) % 6) : drfG g p 1 k = g 1 k := by
  unfold drfG
  rw [if_neg (by omega)]
theorem drf_s (g : Nat → Nat → Int32) (p : Nat) : ug (ug (drfG g p) 1 (55 + 6 * p + 0) (arI (drfG g p 1 (55 + 6 * p + 0) + drfG g p 1 (55 + 6 * p + 4)) 64)) 1 (55 + 6 * p + 1) (arI (ug (drfG g p) 1 (55 + 6 * p + 0) (arI (drfG g p 1 (55 + 6 * p + 0) + drfG g p 1 (55 + 6 * p + 4)) 64) 1 (55 + 6 * p + 1) + ug (drfG g p) 1 (55 + 6 * p + 0) (arI (drfG g p 1 (55 + 6 * p + 0) + drfG g p 1 (55 + 6 * p + 4)) 64) 1 (55 + 6 * p + 5)) 64) = drfG g (p + 1) := by
  rw [ug_ne (by omega), ug_ne (by omega), drf_at g p _ (by omega), drf_at g p _ (by omega), drf_at g p _ (by omega), drf_at g p _ (by omega)]
  funext i k
  unfold ug drfG
  by_cases h1 : i = 1
  · by_cases h2 : k = 55 + 6 * p + 1
    · rw [if_pos h1, if_pos h2, if_pos (by omega), h2]
    · rw [if_pos h1, if_neg h2, if_pos h1]
      by_cases h3 : k = 55 + 6 * p + 0
      · rw [if_pos h3, if_pos (by omega), h3]
      · rw [if_neg h3]
        by_cases h4 : 55 ≤ k ∧ k < 55 + 6 * p ∧ (k - 55) % 6 < 2
        · rw [if_pos ⟨h1, h4⟩, if_pos (by omega)]
        · rw [if_neg (fun z => h4 z.2), if_neg (by omega)]
  · rw [if_neg h1, if_neg h1, if_neg (fun z => h1 z.1), if_neg (fun z => h1 z.1)]
theorem kp_drf {g g0 : Nat → Nat → Int32} {p : Nat} (h : kept g0 g) : kept g0 (drfG g p) := kp_tr h (fun k hk => drf_at g p k (by unfold stK at hk; omega))
def ps1 (n : Nat) (g : Nat → Nat → Int32) : Nat → Nat → Int32 := drfG (ug g 1 2 (g 1 2 + 1)) n
theorem ps1_at {n : Nat} {g : Nat → Nat → Int32} (k : Nat) (h : k < 55 ∨ 103 ≤ k) (h2 : k ≠ 2) (hn : n ≤ 8) : ps1 n g 1 k = g 1 k := by
  unfold ps1
  rw [drf_at _ _ _ (by omega), ug_ne (by omega)]
theorem kp_ps1 {g g0 : Nat → Nat → Int32} {n : Nat} (h : kept g0 g) : kept g0 (ps1 n g) := kp_drf (kp_ug (by omega) h)
def psA (n : Nat) (S : Nat → Nat) (g : Nat → Nat → Int32) : Nat → Nat → Int32 := if ps1 n g 1 0 = 1 ∧ ps1 n g 1 8 = 1 then trkG 1 n S (trkG 0 n S (ps1 n g)) else ps1 n g
def psB (n : Nat) (S : Nat → Nat) (g : Nat → Nat → Int32) : Nat → Nat → Int32 := if psA n S g 1 0 = 1 then tlkG n (psA n S g) else psA n S g
def pasG (n : Nat) (S : Nat → Nat) (g : Nat → Nat → Int32) : Nat → Nat → Int32 := if psB n S g 1 0 = 0 ∧ psB n S g 1 11 = 1 then dswG 0 n S (psB n S g) else psB n S g
