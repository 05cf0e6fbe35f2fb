/-! THE TEXT ALIKE: tokens and words -/
def tkJ (g : Nat → Nat → Int32) : Prop := tkI g ∧ cl (g 0 10) = ntB (g 3) (cl (g 0 4)) (cl (g 0 9))
/-! the relation -/
def frsh (g : Nat → Nat → Int32) : Prop := g 1 0 = 0 ∧ g 1 13 = 0 ∧ g 1 14 = 0 ∧ (∀ k, 18 ≤ k → k < 35 → g 1 k = -100000) ∧ ∀ k, 38 ≤ k → k < 55 → g 1 k = -100000
def TR (d : Int32) (c r : Nat → Nat → Int32) : Prop := c 0 20 = -100000 ∧ tkJ c ∧ (∀ k, (k = 4 ∨ k = 9 ∨ k = 10) → r 0 k = c 0 k) ∧ (∀ k, r 3 k = c 3 k) ∧ r 0 12 = d ∧ ∃ (n : Nat) (S : Nat → Nat), invK c n S ∧ r 0 11 = nI n ∧ (d ≠ 0 → leG n c r) ∧ frsh c
section TX
variable {d : Int32} {c r c' r' : Nat → Nat → Int32}
end TX
