section AB
variable {g : Nat → Nat → Int32} {sep : Int32} {b S0 S1 : Nat}
end AB
/-! one backup more -/
def bkG (b : Nat) (x y z : Int32) (g : Nat → Nat → Int32) : Nat → Nat → Int32 := ug (ug (ug (ug g 1 (103 + 3 * b) x) 1 (103 + 3 * b + 1) y) 1 (103 + 3 * b + 2) z) 1 13 (nI (b + 1))
theorem bkG_at {b k : Nat} {x y z : Int32} {g : Nat → Nat → Int32} (h : k ≠ 13) (h2 : k < 103 + 3 * b ∨ 106 + 3 * b ≤ k) : bkG b x y z g 1 k = g 1 k := by
  unfold bkG
  rw [ug_ne (by omega), ug_ne (by omega), ug_ne (by omega), ug_ne (by omega)]
theorem bkG_0 {b : Nat} {x y z : Int32} {g : Nat → Nat → Int32} : bkG b x y z g 1 (103 + 3 * b) = x := by
  unfold bkG
  rw [ug_ne (by omega), ug_ne (by omega), ug_ne (by omega), ug_same]
theorem bkG_1 {b : Nat} {x y z : Int32} {g : Nat → Nat → Int32} : bkG b x y z g 1 (103 + 3 * b + 1) = y := by
  unfold bkG
  rw [ug_ne (by omega), ug_ne (by omega), ug_same]
