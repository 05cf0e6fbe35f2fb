def smB (x : Int32) : Bool := decide ((97 : Int32) ≤ x ∧ x ≤ 122)
def dgB (x : Int32) : Bool := decide ((48 : Int32) ≤ x ∧ x ≤ 57)
def skF (t : Nat → Int32) : Nat → Nat → Nat
  | 0, f => f
  | q + 1, f => if t f = 32 then skF t q (f + 1) else f
def exC (t : Nat → Int32) (f b : Nat) : Bool := (smB (t f) && smB (t b)) || (dgB (t f) && dgB (t b))
def exF (t : Nat → Int32) (f : Nat) : Nat → Nat → Nat
  | 0, b => b
  | q + 1, b => if exC t f b = true then exF t f q (b + 1) else b
def ntF (t : Nat → Int32) (Ln b0 : Nat) : Nat := skF t (Ln - b0) b0
def ntB (t : Nat → Int32) (Ln f : Nat) : Nat := if f < Ln then exF t f (Ln - (f + 1)) (f + 1) else f
def ntG (Ln b0 : Nat) (g : Nat → Nat → Int32) : Nat → Nat → Int32 := ug (ug g 0 9 (nI (ntF (g 3) Ln b0))) 0 10 (nI (ntB (g 3) Ln (ntF (g 3) Ln b0)))
