def letT (k : Nat) : Int32 := if k < 32 then lettT k else restT (k - 32)
def bgN (k : Nat) : Nat := [0, 7, 11, 16, 25, 29, 37].getD k 0
def wdL (t : Nat → Int32) (f o : Nat) : Nat → Nat → Bool
  | 0, _ => true
  | q + 1, j => if t (f + j) = letT (o + j) then wdL t f o q (j + 1) else false
def wdB (t : Nat → Int32) (w f b : Nat) : Bool := if b - f = bgN (w + 1) - bgN w then wdL t f (bgN w) (b - f) 0 else false
def tokI (g : Nat → Nat → Int32) (Ln f b : Nat) : Prop := g 0 4 = nI Ln ∧ Ln ≤ 120 ∧ g 0 9 = nI f ∧ g 0 10 = nI b ∧ f ≤ b ∧ b ≤ Ln ∧ (f < Ln → f < b)
def nmF (t : Nat → Int32) : Nat → Nat → Int32 → Int32
  | 0, _, v => v
  | q + 1, k, v => nmF t q (k + 1) (10 * v + t k - 48)
def rdB (t : Nat → Int32) (lo hi sg : Int32) (Ln f b : Nat) : Bool := if f = Ln then false else if dgB (t f) = false then false else if 3 < b - f then false else decide (lo ≤ sg * nmF t (b - f) f 0 ∧ sg * nmF t (b - f) f 0 ≤ hi)
def rdG (g : Nat → Nat → Int32) (lo hi sg : Int32) (Ln f b : Nat) : Nat → Nat → Int32 := if rdB (g 3) lo hi sg Ln f b = true then ntG Ln b (ug g 0 16 (sg * nmF (g 3) (b - f) f 0)) else g
