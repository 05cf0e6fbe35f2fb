theorem kp_tst {s n : Nat} {g g0 : Nat → Nat → Int32} {b : Int32} (h : kept g0 g) : kept g0 (tstG s n g b) := by
  have h1 : kept g0 (tsA s n g b) := kp_snt h
  unfold tstG
  split
  · exact kp_ug (by omega) (kp_ug (by omega) h1)
  · exact h1
def rfb (many k near f : Int32) : Int32 := many + 5 * arI (k + near) many + f
def tst5 (s n : Nat) (many k near : Int32) (g : Nat → Nat → Int32) : Nat → Nat → Int32 := tstG s n (tstG s n (tstG s n (tstG s n (tstG s n g (rfb many k near 0)) (rfb many k near 1)) (rfb many k near 2)) (rfb many k near 3)) (rfb many k near 4)
def rfB0 (n : Nat) (g : Nat → Nat → Int32) : Nat → Nat → Int32 := if g 1 15 = 2 then tst5 0 n (g 1 15) (secI (g 1 15) (g 1 18)) 0 (tst5 0 n (g 1 15) (secI (g 1 15) (g 1 18)) (-1) (tstG 0 n (ug g 0 6 (-100000)) (g 1 18))) else tst5 0 n (g 1 15) (secI (g 1 15) (g 1 18)) 1 (tst5 0 n (g 1 15) (secI (g 1 15) (g 1 18)) 0 (tst5 0 n (g 1 15) (secI (g 1 15) (g 1 18)) (-1) (tstG 0 n (ug g 0 6 (-100000)) (g 1 18))))
def rfB1 (n : Nat) (g : Nat → Nat → Int32) : Nat → Nat → Int32 := if g 1 35 = 2 then tst5 1 n (g 1 35) (secI (g 1 35) (g 1 38)) 0 (tst5 1 n (g 1 35) (secI (g 1 35) (g 1 38)) (-1) (tstG 1 n (ug g 0 6 (-100000)) (g 1 38))) else tst5 1 n (g 1 35) (secI (g 1 35) (g 1 38)) 1 (tst5 1 n (g 1 35) (secI (g 1 35) (g 1 38)) 0 (tst5 1 n (g 1 35) (secI (g 1 35) (g 1 38)) (-1) (tstG 1 n (ug g 0 6 (-100000)) (g 1 38))))
