def bi (o : Option Nat) : Int32 := match o with
  | none => -1
  | some b => nI b
def bstS (t : Nat → Int32) (k : Nat) (o : Option Nat) : Option Nat := if t k = -100000 then o else match o with
  | none => some k
  | some b => if t k < t b then some b else some k
def bstF (t : Nat → Int32) : Nat → Nat → Option Nat → Option Nat
  | 0, _, o => o
  | n + 1, k, o => bstF t n (k + 1) (bstS t k o)
def nte1 (g : Nat → Nat → Int32) (E : Nat) (kd v : Int32) : Nat → Nat → Int32 :=
  ug (ug (ug (ug g 1 (112 + 3 * E) kd) 1 (112 + 3 * E + 1) v) 1 (112 + 3 * E + 2) ((ug (ug g 1 (112 + 3 * E) kd) 1 (112 + 3 * E + 1) v) 1 2)) 1 14 ((ug (ug (ug g 1 (112 + 3 * E) kd) 1 (112 + 3 * E + 1) v) 1 (112 + 3 * E + 2) ((ug (ug g 1 (112 + 3 * E) kd) 1 (112 + 3 * E + 1) v) 1 2)) 1 14 + 1)
def shE (g : Nat → Nat → Int32) (n : Nat) : Nat → Nat → Int32 := fun i k => if i = 1 ∧ 112 ≤ k ∧ k < 112 + n then g 1 (k + 3) else g i k
theorem shE_0 (g : Nat → Nat → Int32) : shE g 0 = g := by
  funext i k
  unfold shE
  rw [if_neg (by omega)]
theorem shE_s (g : Nat → Nat → Int32) (n : Nat) : ug (shE g n) 1 (112 + n) (shE g n 1 (112 + n + 3)) = shE g (n + 1) := by
  have e : shE g n 1 (112 + n + 3) = g 1 (112 + n + 3) := by
    unfold shE
    rw [if_neg (by omega)]
  rw [e]
  funext i k
  unfold ug shE
  by_cases h1 : i = 1
  · by_cases h2 : k = 112 + n
    · rw [if_pos h1, if_pos h2, if_pos (by omega), h2]
    · rw [if_pos h1, if_neg h2]
      by_cases h3 : 112 ≤ k ∧ k < 112 + n
      · rw [if_pos ⟨h1, h3⟩, if_pos ⟨h1, by omega⟩]
      · rw [if_neg (fun z => h3 z.2), if_neg (fun z => h3 ⟨z.2.1, by omega⟩)]
  · rw [if_neg h1, if_neg (fun z => h1 z.1), if_neg (fun z => h1 z.1)]
def nteG (g : Nat → Nat → Int32) (kd v : Int32) : Nat → Nat → Int32 := if g 1 14 = 20 then nte1 (ug (shE g 57) 1 14 19) 19 kd v else nte1 g (g 1 14).toNatClampNeg kd v
def phg1 (f n : Nat) (S : Nat → Nat) (g : Nat → Nat → Int32) : Nat → Nat → Int32 := swpG f n (S f) (fillG g (19 + 20 * (1 - f)) 16 (-100000))
def pha1 (f n : Nat) (S : Nat → Nat) (g : Nat → Nat → Int32) : Bool := swpA f n (S f) (fillG g (19 + 20 * (1 - f)) 16 (-100000)) false
def phg2 (f n : Nat) (S : Nat → Nat) (g : Nat → Nat → Int32) : Nat → Nat → Int32 := swpG (1 - f) n (S (1 - f)) (fillG (phg1 f n S g) (19 + 20 * f) 16 (-100000))
def pha2 (f n : Nat) (S : Nat → Nat) (g : Nat → Nat → Int32) : Bool := swpA (1 - f) n (S (1 - f)) (fillG (phg1 f n S g) (19 + 20 * f) 16 (-100000)) false
def phb3 (f n : Nat) (S : Nat → Nat) (g : Nat → Nat → Int32) : Int32 := bi (bstF (fun k => phg2 f n S g 1 (15 + 20 * (1 - f) + (4 + k))) (S f) 0 none)
def phg3 (f n : Nat) (S : Nat → Nat) (g : Nat → Nat → Int32) : Nat → Nat → Int32 := ug (phg2 f n S g) 1 (18 + 20 * f) (phb3 f n S g)
def phh3 (f n : Nat) (S : Nat → Nat) (g : Nat → Nat → Int32) : Bool := hrdG (phg3 f n S g) f (b0W f (phb3 f n S g) (-1)) (b1W f (phb3 f n S g) (-1)) n
def phg4 (f n : Nat) (S : Nat → Nat) (g : Nat → Nat → Int32) : Nat → Nat → Int32 := sntG (phg3 f n S g) f (b0W f (phb3 f n S g) (-1)) (b1W f (phb3 f n S g) (-1)) 9 n
def phb5 (f n : Nat) (S : Nat → Nat) (g : Nat → Nat → Int32) : Int32 := bi (bstF (fun k => phg4 f n S g 1 (15 + 20 * f + (4 + k))) (S (1 - f)) 0 none)
def phg5 (f n : Nat) (S : Nat → Nat) (g : Nat → Nat → Int32) : Nat → Nat → Int32 := ug (phg4 f n S g) 1 (18 + 20 * (1 - f)) (phb5 f n S g)
def phh5 (f n : Nat) (S : Nat → Nat) (g : Nat → Nat → Int32) : Bool := hrdG (phg5 f n S g) (1 - f) (b0W (1 - f) (phb5 f n S g) (-1)) (b1W (1 - f) (phb5 f n S g) (-1)) n
def phg6 (f n : Nat) (S : Nat → Nat) (g : Nat → Nat → Int32) : Nat → Nat → Int32 := sntG (phg5 f n S g) (1 - f) (b0W (1 - f) (phb5 f n S g) (-1)) (b1W (1 - f) (phb5 f n S g) (-1)) 9 n
def phR (f n : Nat) (S : Nat → Nat) (g : Nat → Nat → Int32) : Int32 := if pha1 f n S g = false then 1 else if pha2 f n S g = false then 2 else if phh3 f n S g = false then 3 else if phh5 f n S g = false then 4 else 0
def phW (f n : Nat) (S : Nat → Nat) (g : Nat → Nat → Int32) : Nat → Nat → Int32 := if pha1 f n S g = false then phg1 f n S g else if pha2 f n S g = false then phg2 f n S g else if phh3 f n S g = false then phg4 f n S g else phg6 f n S g
def secK (g : Nat → Nat → Int32) (S : Nat → Nat) : Prop := g 1 15 = nI (S 0) ∧ g 1 35 = nI (S 1) ∧ 2 ≤ S 0 ∧ S 0 ≤ 16 ∧ 2 ≤ S 1 ∧ S 1 ≤ 16
theorem secK_kp {g g' : Nat → Nat → Int32} {S : Nat → Nat} (h : kept g g') (hS : secK g S) : secK g' S := ⟨(h 15 (by unfold stK; omega)).trans hS.1, (h 35 (by unfold stK; omega)).trans hS.2.1, hS.2.2⟩
