theorem nIij {a b : Nat} (ha : a < 2 ^ 31) (hb : b < 2 ^ 31) (z : nI a = nI b) : a = b := by
  have h := congrArg Int32.toInt z
  rw [nI_toInt ha, nI_toInt hb] at h
  omega
theorem inv_bo {g : Nat → Nat → Int32} {n : Nat} {S : Nat → Nat} (h : invK g n S) : bo3 (g 1) := by
  obtain ⟨-, -, -, -, h5, h6, h7, -⟩ := h
  intro k hk
  rcases hk with rfl | rfl | rfl
  · exact h5
  · exact h6
  · exact h7
theorem inv_le {g : Nat → Nat → Int32} {n : Nat} {S : Nat → Nat} (h : invK g n S) {g' : Nat → Nat → Int32} (e : ∀ k, k < 172 → g' 1 k = g 1 k) : invK g' n S :=
  inv_eq h (fun k _ h2 _ => e k (by omega)) (evK_at h.1.2.2.1 (e 14 (by omega))) (e 0 (by omega))
theorem inv_n8 {g : Nat → Nat → Int32} {n : Nat} {S : Nat → Nat} (h : invK g n S) : n ≤ 8 := h.1.1.2.1
theorem inv_ev {g : Nat → Nat → Int32} {n : Nat} {S : Nat → Nat} (h : invK g n S) : evK g := h.1.2.2.1
theorem inv_bk {g : Nat → Nat → Int32} {n : Nat} {S : Nat → Nat} (h : invK g n S) : bkK g := h.1.2.2.2
theorem inv_sec {g : Nat → Nat → Int32} {n : Nat} {S : Nat → Nat} (h : invK g n S) : secK g S := h.1.2.1
theorem inv_st {g : Nat → Nat → Int32} {n : Nat} {S : Nat → Nat} (h : invK g n S) : statR g n := h.1.1
section SIS
variable {g s gr g' gr' : Nat → Nat → Int32} {σ τ σ' τ' : Nat → Nat → Nat} {ρ : Nat → Nat} {c9 : Nat}
end SIS
/-! the two ways of asking whether a number lies within -/
theorem lp {x y : Int32} {n : Nat} (hy : y = nI n) (hn : n < 2 ^ 30) : (0 ≤ x ∧ x ≤ y - 1) ↔ (¬ x < 0 ∧ ¬ y ≤ x) := by
  rw [Int32.not_lt, Int32.not_le, hy, show (1 : Int32) = nI 1 from rfl, Int32.le_iff_toInt_le (x := x), Int32.lt_iff_toInt_lt, pk_sub_toInt hn (by omega), nI_toInt (by omega)]
  exact ⟨fun h => ⟨h.1, by have := h.2; omega⟩, fun h => ⟨h.1, by have := h.2; omega⟩⟩
theorem wnI_0 {x a b : Int32} : (wnI x a b = 0) = ¬ (a ≤ x ∧ x ≤ b) := by
  unfold wnI
  apply propext
  rw [← Int32.not_lt, ← Int32.not_lt]
  by_cases h1 : x < a
  · rw [if_pos h1]; exact ⟨fun _ h => h.1 h1, fun _ => rfl⟩
  · rw [if_neg h1]
    by_cases h2 : b < x
    · rw [if_pos h2]; exact ⟨fun _ h => h.2 h2, fun _ => rfl⟩
    · rw [if_neg h2]; exact ⟨fun h => absurd h (by decide), fun h => absurd ⟨h1, h2⟩ h⟩
theorem isI_0 {x : Int32} : (isI x = 0) = ¬ (0 ≤ x ∧ x ≤ 1) := by
  unfold isI
  apply propext
  by_cases h0 : x = 0
  · subst h0; decide
  · rw [if_neg h0]
    by_cases h1 : x = 1
    · subst h1; decide
    · rw [if_neg h1]
      refine ⟨fun _ h => ?_, fun _ => rfl⟩
      obtain ⟨s, h2, rfl⟩ := stat_of h
      rcases (show s = 0 ∨ s = 1 by omega) with rfl | rfl
      · exact h0 rfl
      · exact h1 rfl
theorem if3 {P Q : Prop} [Decidable P] [Decidable Q] : ((if P then (0 : Int32) else if Q then 0 else 1) = 0) = ¬ (¬ P ∧ ¬ Q) := by
  apply propext
  by_cases h1 : P
  · rw [if_pos h1]; exact ⟨fun _ h => h.1 h1, fun _ => rfl⟩
  · rw [if_neg h1]
    by_cases h2 : Q
    · rw [if_pos h2]; exact ⟨fun _ h => h.2 h2, fun _ => rfl⟩
    · rw [if_neg h2]; exact ⟨fun h => absurd h (by decide), fun h => absurd ⟨h1, h2⟩ h⟩
theorem hsC_0 {x y : Int32} {n : Nat} (hy : y = nI n) (hn : n < 2 ^ 30) : (hsC y x = 0) = ¬ (0 ≤ x ∧ x ≤ y - 1) := by
  unfold hsC
  rw [if3, lp hy hn]
theorem hbC_0 {x y : Int32} {n : Nat} (hy : y = nI n) (hn : n ≤ 16) : (hbC y x = 0) = ¬ (0 ≤ x ∧ x ≤ 6 * y - 1) := by
  unfold hbC
  rw [if3, lp (n := 6 * n) (by rw [hy, show (6 : Int32) = nI 6 from rfl, pk_mul]) (by omega)]
theorem has_x {x y : Int32} {n N : Nat} {Nl : Int32} (hy : y = nI n) (hn : n ≤ N) (hN : N < 2 ^ 30) (hNl : Nl = nI N) (h : ¬ (0 ≤ x ∧ x ≤ y - 1)) : (if x < 0 then (0 : Int32) else (if y ≤ x then (0) else (if Nl ≤ x then (0) else (1)))) = 0 := by
  rw [lp hy (by omega)] at h
  split
  · rfl
  · next h1 =>
    split
    · rfl
    · next h2 => exact absurd ⟨h1, h2⟩ h
theorem hp_x {x : Int32} {n : Nat} {g : Nat → Nat → Int32} (hy : g 1 12 = nI n) (hn : n ≤ 8) (h : ¬ (0 ≤ x ∧ x ≤ g 1 12 - 1)) : cs_hasPath_r x g = 0 := has_x (N := 8) hy hn (by omega) rfl h
theorem hb_x {x : Int32} {n : Nat} {g : Nat → Nat → Int32} (hy : g 1 13 = nI n) (hn : n ≤ 3) (h : ¬ (0 ≤ x ∧ x ≤ g 1 13 - 1)) : cs_bhas_r x g = 0 := has_x (N := 3) hy hn (by omega) rfl h
theorem he_x {x : Int32} {n : Nat} {g : Nat → Nat → Int32} (hy : g 1 14 = nI n) (hn : n ≤ 20) (h : ¬ (0 ≤ x ∧ x ≤ g 1 14 - 1)) : cs_ehas_r x g = 0 := by
  rw [lp hy (by omega)] at h
  unfold cs_ehas_r
  split
  · rfl
  · next h1 =>
    split
    · rfl
    · next h2 => exact absurd ⟨h1, h2⟩ h
section SMI
variable {l : Launch} {D : va_G} {cA : FieldType → ClassId} {z0 : Nat} {SK : Nat → Nat} {SV : Nat → Int32} {ad am : Nat → Nat} {y : MethodName} {by1 : ByteArray} {mL d : Nat} {y2 : MethodName} {by2 : ByteArray} {mL2 d2 : Nat} {As : List Value} {g s g1 s1 : Nat → Nat → Int32} {σ τ σ1 τ1 : Nat → Nat → Nat} {ρ ρ1 : Nat → Nat} {c9 c1 : Nat} {gr gr1 : Nat → Nat → Int32} {h h1 : Int64} {v v2 : Int32} {w w2 : Wd}
end SMI
