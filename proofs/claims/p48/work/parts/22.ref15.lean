/-- what every interval leaves as it must be -/
def goodR (g : Nat → Nat → Int32) (n : Nat) (S : Nat → Nat) : Prop := statR g n ∧ secK g S ∧ evK g ∧ bkK g
theorem gd_kp {g g' : Nat → Nat → Int32} {n : Nat} {S : Nat → Nat} (h : goodR g n S) (k : kept g g') (hE : evK g') (hB : bkK g') : goodR g' n S := ⟨st_same k h.1, secK_kp k h.2.1, hE, hB⟩
theorem gd_ps1 {g : Nat → Nat → Int32} {n : Nat} {S : Nat → Nat} (h : goodR g n S) : goodR (ps1 n g) n S := gd_kp h (kp_ps1 (kp_rf g)) (evK_at h.2.2.1 (ps1_at 14 (by omega) (by omega) h.1.2.1)) (bkK_at h.2.2.2 (ps1_at 13 (by omega) (by omega) h.1.2.1))
def pasN (n : Nat) (S : Nat → Nat) (g : Nat → Nat → Int32) : Nat → Nat → Nat → Int32
  | 0 => g
  | k + 1 => pasG n S (pasN n S g k)
