section SIS
variable {g s gr g' gr' : Nat → Nat → Int32} {σ τ σ' τ' : Nat → Nat → Nat} {ρ : Nat → Nat} {c9 : Nat}
end SIS
/-! the two ways of asking whether a number lies within -/
theorem lp {x y : Int32} {n : Nat} (hy : y = nI n) (hn : n < 2 ^ 30) : (0 ≤ x ∧ x ≤ y - 1) ↔ (¬ x < 0 ∧ ¬ y ≤ x) := by
  rw [Int32.not_lt, Int32.not_le, hy, show (1 : Int32) = nI 1 from rfl, Int32.le_iff_toInt_le (x := x), Int32.lt_iff_toInt_lt, pk_sub_toInt hn (by omega), nI_toInt (by omega)]
  exact ⟨fun h => ⟨h.1, by have := h.2; omega⟩, fun h => ⟨h.1, by have := h.2; omega⟩⟩
section SMI
variable {l : Launch} {D : va_G} {cA : FieldType → ClassId} {z0 : Nat} {SK : Nat → Nat} {SV : Nat → Int32} {ad am : Nat → Nat} {y : MethodName} {by1 : ByteArray} {mL d : Nat} {y2 : MethodName} {by2 : ByteArray} {mL2 d2 : Nat} {As : List Value} {g s g1 s1 : Nat → Nat → Int32} {σ τ σ1 τ1 : Nat → Nat → Nat} {ρ ρ1 : Nat → Nat} {c9 c1 : Nat} {gr gr1 : Nat → Nat → Int32} {h h1 : Int64} {v v2 : Int32} {w w2 : Wd}
end SMI
