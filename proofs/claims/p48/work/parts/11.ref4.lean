def dblN (v : UInt32) : Nat → UInt32
  | 0 => v
  | n + 1 => FP.fmul (dblN v n) FP.fconst2
def hlfN (v : UInt32) : Nat → UInt32
  | 0 => v
  | n + 1 => FP.fmul (hlfN v n) 1056964608
def powF (q : Int32) : UInt32 := if 0 ≤ (q - arI q 12) / 12 then dblN (partT (arI q 12).toNatClampNeg) ((q - arI q 12) / 12).toNatClampNeg else hlfN (partT (arI q 12).toNatClampNeg) (-((q - arI q 12) / 12)).toNatClampNeg
def qOK (q : Int32) : Prop := ∃ m : Nat, m < 1101 ∧ q = nI m - 700
def chkQ (q : Int32) : Bool := Nat.blt (arI q 12).toNatClampNeg 12 && (arI q 12 == nI (arI q 12).toNatClampNeg) && (if 0 ≤ (q - arI q 12) / 12 then ((q - arI q 12) / 12 == nI ((q - arI q 12) / 12).toNatClampNeg) && Nat.ble ((q - arI q 12) / 12).toNatClampNeg 34 else ((q - arI q 12) / 12 == -(nI (-((q - arI q 12) / 12)).toNatClampNeg)) && Nat.ble 1 (-((q - arI q 12) / 12)).toNatClampNeg && Nat.ble (-((q - arI q 12) / 12)).toNatClampNeg 60)
theorem chkQ_all : ∀ m, m < 1101 → chkQ (nI m - 700) = true := by decide +kernel
theorem nn_dbl : ∀ p, p < 12 → ∀ n, n < 36 → vf_n32 (dblN (partT p) n) := (by decide +kernel : ∀ p, p < 12 → ∀ n, n < 36 → (dblN (partT p) n) &&& 0x7fffffff ≤ 0x7f800000)
theorem nn_hlf : ∀ p, p < 12 → ∀ n, n < 62 → vf_n32 (hlfN (partT p) n) := (by decide +kernel : ∀ p, p < 12 → ∀ n, n < 62 → (hlfN (partT p) n) &&& 0x7fffffff ≤ 0x7f800000)
def levG (g : Nat → Nat → Int32) (fr : Nat) (b0 b1 : Int32) (p : Nat) : Int32 := g 1 (15 + 20 * fr + 2) + gaI (g 1 15) (g 1 16) b0 (g 1 (55 + 6 * p + 0)) + gaI (g 1 35) (g 1 36) b1 (g 1 (55 + 6 * p + 1)) - g 1 (55 + 6 * p + 2) - g 1 (55 + 6 * p + 3)
def recG (g : Nat → Nat → Int32) (fr : Nat) (b0 b1 : Int32) : Nat → UInt32
  | 0 => FP.fconst0
  | p + 1 => FP.fadd (recG g fr b0 b1 p) (powF (levG g fr b0 b1 p))
/-- what received and quality ask: the levels are in the table of powers, no sum is a NaN -/
def okQ (g : Nat → Nat → Int32) (fr : Nat) (b0 b1 : Int32) (n : Nat) : Prop := g 1 12 = nI n ∧ n ≤ 8 ∧ (¬ g 1 15 = 0) ∧ (¬ g 1 35 = 0) ∧ (∀ p, p < n → qOK (levG g fr b0 b1 p)) ∧ ∀ p, p < n → vf_n32 (FP.fadd (recG g fr b0 b1 p) (powF (levG g fr b0 b1 p)))
