def rtI (f n : Nat) (many k near : Int32) : Nat → Nat → (Nat → Nat → Int32) → Nat → Nat → Int32
  | 0, _, g => g
  | q + 1, i, g => rtI f n many k near q (i + 1) (tstG f n g (many + 5 * arI (k + near) many + nI i))
def rtO (f n : Nat) (many k : Int32) : Nat → Nat → (Nat → Nat → Int32) → Nat → Nat → Int32
  | 0, _, g => g
  | r + 1, j, g => rtO f n many k r (j + 1) (rtI f n many k (nI j - 1) 5 0 g)
def rtZ (f n : Nat) (g : Nat → Nat → Int32) : Nat → Nat → Int32 := tstG f n (ug g 0 6 (-100000)) (g 1 (18 + 20 * f))
def rtR (f n : Nat) (g : Nat → Nat → Int32) : Nat → Nat → Int32 := if g 1 (15 + 20 * f) = 2 then rtO f n (g 1 (15 + 20 * f)) (secI (g 1 (15 + 20 * f)) (g 1 (18 + 20 * f))) 2 0 (rtZ f n g) else rtO f n (g 1 (15 + 20 * f)) (secI (g 1 (15 + 20 * f)) (g 1 (18 + 20 * f))) 3 0 (rtZ f n g)
