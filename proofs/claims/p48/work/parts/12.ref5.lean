def qsI (s : UInt32) : Nat → Int32 → Int32 → Int32
  | 0, lo, _ => lo
  | f + 1, lo, hi => if hi - lo ≤ 1 then lo else if (0 : Int32) < Op.cmpValue (FP.fcmp (powF ((lo + hi) >>> (1 &&& 31))) s) .g then qsI s f lo ((lo + hi) >>> (1 &&& 31)) else qsI s f ((lo + hi) >>> (1 &&& 31)) hi
theorem qs_mid {lo hi : Int32} (h1 : -700 ≤ lo.toInt) (h2 : lo.toInt < hi.toInt) (h3 : hi.toInt ≤ 400) : ((lo + hi) >>> (1 &&& 31)).toInt = (lo.toInt + hi.toInt) / 2 := by
  rw [pk_shr _ _ 1 (by decide), Int32.toInt_add, Int.shiftRight_eq_div_pow, Int.bmod_def]
  omega
def quaG (g : Nat → Nat → Int32) (fr : Nat) (b0 b1 : Int32) (n : Nat) : Int32 := if n = 0 then -100000 else qsI (recG g fr b0 b1 n) 11 (-700) 400
theorem levG_same {g g0 : Nat → Nat → Int32} (ha : ∀ k, 12 ≤ k → g 1 k = g0 1 k) (fr : Nat) (b0 b1 : Int32) (p : Nat) : levG g fr b0 b1 p = levG g0 fr b0 b1 p := by
  unfold levG
  rw [ha _ (by omega), ha _ (by omega), ha _ (by omega), ha _ (by omega), ha _ (by omega), ha _ (by omega), ha _ (by omega), ha _ (by omega), ha _ (by omega)]
theorem recG_same {g g0 : Nat → Nat → Int32} (ha : ∀ k, 12 ≤ k → g 1 k = g0 1 k) (fr : Nat) (b0 b1 : Int32) : ∀ n, recG g fr b0 b1 n = recG g0 fr b0 b1 n
  | 0 => rfl
  | n + 1 => by unfold recG; rw [recG_same ha fr b0 b1 n, levG_same ha]
def fadeG (g : Nat → Nat → Int32) : Int32 := remI (Int32.toUInt32 (g 1 5 * 1664525 + 1013904223) >>> (Int32.toUInt32 8 &&& Int32.toUInt32 31)).toInt32 (g 1 7 + 1)
/-- the measured quality of the next frame -/
def msrG (g : Nat → Nat → Int32) (fr : Nat) (b0 b1 : Int32) (n : Nat) : Int32 := if n = 0 then -100000 else quaG g fr b0 b1 n - fadeG g
/-- whether it is heard -/
def hrdG (g : Nat → Nat → Int32) (fr : Nat) (b0 b1 : Int32) (n : Nat) : Bool := if n = 0 then false else decide (¬ msrG g fr b0 b1 n < g 1 6)
/-- behind it -/
def sntG (g : Nat → Nat → Int32) (fr : Nat) (b0 b1 t : Int32) (n : Nat) : Nat → Nat → Int32 := ug (ug (ug (ug g 1 5 (g 1 5 * 1664525 + 1013904223)) 1 3 (g 1 3 + 1)) 1 4 (g 1 4 + t)) 0 5 (msrG g fr b0 b1 n)
