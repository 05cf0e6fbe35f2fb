def tsA (s n : Nat) (g : Nat → Nat → Int32) (b : Int32) : Nat → Nat → Int32 := sntG g s (b0W s b (g 1 (18 + 20 * (1 - s)))) (b1W s b (g 1 (18 + 20 * (1 - s)))) 4 n
def tsH (s n : Nat) (g : Nat → Nat → Int32) (b : Int32) : Bool := hrdG g s (b0W s b (g 1 (18 + 20 * (1 - s)))) (b1W s b (g 1 (18 + 20 * (1 - s)))) n
def tstG (s n : Nat) (g : Nat → Nat → Int32) (b : Int32) : Nat → Nat → Int32 := if tsH s n g b = true ∧ (tsA s n g b 0 6 = -100000 ∨ ¬ tsA s n g b 0 5 ≤ tsA s n g b 0 7) then ug (ug (tsA s n g b) 0 6 b) 0 7 (tsA s n g b 0 5) else tsA s n g b
