/-! THE SURVEY ALIKE: the greedy choice -/
theorem le_tr {x y z : Int32} (h1 : x ≤ y) (h2 : y ≤ z) : x ≤ z := Int32.le_trans h1 h2
theorem lt_le {x y z : Int32} (h1 : x < y) (h2 : y ≤ z) : x < z := by
  rw [Int32.lt_iff_toInt_lt] at *
  rw [Int32.le_iff_toInt_le] at h2
  omega
theorem le_lt {x y z : Int32} (h1 : x ≤ y) (h2 : y < z) : x < z := by
  rw [Int32.lt_iff_toInt_lt] at *
  rw [Int32.le_iff_toInt_le] at h1
  omega
/-- the first of the largest -/
theorem blF_mx {t : Nat → Int32} : ∀ (q k : Nat) (o : Option Nat), (∀ b, o = some b → b < k ∧ t b ≠ -100000 ∧ ∀ x, x < k → t x ≠ -100000 → t x ≤ t b ∧ (x < b → t x < t b)) → (o = none → ∀ x, x < k → t x = -100000) →
    (∀ b, blF t q k o = some b → b < k + q ∧ t b ≠ -100000 ∧ ∀ x, x < k + q → t x ≠ -100000 → t x ≤ t b ∧ (x < b → t x < t b)) ∧ (blF t q k o = none → ∀ x, x < k + q → t x = -100000)
  | 0, k, o, h1, h2 => ⟨h1, h2⟩
  | q + 1, k, o, h1, h2 => by
    unfold blF
    rw [show k + (q + 1) = k + 1 + q by omega]
    refine blF_mx q (k + 1) _ (fun b hb => ?_) (fun hn x hx => ?_)
    · unfold blS at hb
      by_cases c : t k = -100000
      · rw [if_pos c] at hb
        obtain ⟨z1, z2, z3⟩ := h1 b hb
        refine ⟨by omega, z2, fun x hx hx2 => ?_⟩
        by_cases cx : x = k
        · subst cx; exact absurd c hx2
        · exact z3 x (by omega) hx2
      · rw [if_neg c] at hb
        cases o with
        | none =>
          cases hb
          refine ⟨by omega, c, fun x hx hx2 => ?_⟩
          by_cases cx : x = k
          · subst cx; exact ⟨Int32.le_refl _, fun z => absurd z (by omega)⟩
          · exact absurd (h2 rfl x (by omega)) hx2
        | some p0 =>
          obtain ⟨z1, z2, z3⟩ := h1 p0 rfl
          by_cases c2 : t k ≤ t p0
          · simp only [c2, if_true, ↓reduceIte] at hb
            cases hb
            refine ⟨by omega, z2, fun x hx hx2 => ?_⟩
            by_cases cx : x = k
            · subst cx; exact ⟨c2, fun z => absurd z (by omega)⟩
            · exact z3 x (by omega) hx2
          · simp only [c2, if_false, ↓reduceIte] at hb
            cases hb
            rw [Int32.not_le] at c2
            refine ⟨by omega, c, fun x hx hx2 => ?_⟩
            by_cases cx : x = k
            · subst cx; exact ⟨Int32.le_refl _, fun z => absurd z (by omega)⟩
            · have z4 := (z3 x (by omega) hx2).1
              exact ⟨Int32.le_of_lt (le_lt z4 c2), fun _ => le_lt z4 c2⟩
    · unfold blS at hn
      by_cases c : t k = -100000
      · rw [if_pos c] at hn
        by_cases cx : x = k
        · subst cx; exact c
        · exact h2 hn x (by omega)
      · rw [if_neg c] at hn
        cases o with
        | none => cases hn
        | some p0 =>
          exfalso
          by_cases c2 : t k ≤ t p0
          · simp only [c2, if_true, ↓reduceIte] at hn; cases hn
          · simp only [c2, if_false, ↓reduceIte] at hn; cases hn
/-- how many places are left -/
def cnt9 (t : Nat → Int32) : Nat → Nat
  | 0 => 0
  | n + 1 => cnt9 t n + if t n = -100000 then 0 else 1
theorem cnt9_le {t : Nat → Int32} : ∀ n, cnt9 t n ≤ n
  | 0 => Nat.le_refl 0
  | n + 1 => by
    unfold cnt9
    have := cnt9_le (t := t) n
    split <;> omega
theorem cnt9_cg {t u : Nat → Int32} : ∀ n, (∀ k, k < n → u k = t k) → cnt9 u n = cnt9 t n
  | 0, _ => rfl
  | n + 1, h => by
    unfold cnt9
    rw [cnt9_cg n (fun k hk => h k (by omega)), h n (by omega)]
theorem cnt9_dn {t u : Nat → Int32} {x : Nat} (hx : t x ≠ -100000) (hu : u x = -100000) (he : ∀ k, k ≠ x → u k = t k) : ∀ n, x < n → cnt9 u n + 1 = cnt9 t n
  | 0, h => absurd h (Nat.not_lt_zero x)
  | n + 1, h => by
    unfold cnt9
    by_cases c : x = n
    · subst c
      rw [hu, if_pos rfl, if_neg hx, cnt9_cg x (fun k hk => he k (by omega))]
    · have ih := cnt9_dn hx hu he n (by omega)
      rw [he n (fun z => c z.symm)]
      omega
/-! the class's search -/
section AB
variable {g : Nat → Nat → Int32} {sep : Int32} {b S0 S1 : Nat}
theorem abI_hi {i : Nat} (h0 : ¬ g 1 15 ≤ 0) (h1 : ¬ g 1 35 ≤ 0) : ∀ (q j : Nat) (t : P3), (∀ x, j ≤ x → x < j + q → FB g sep b i x → g 4 (16 * i + x) ≤ t.2.2) → abI g sep b i q j t = t
  | 0, _, _, _ => rfl
  | q + 1, j, t, h => by
    unfold abI
    have e : (if g 4 (16 * i + j) ≤ t.2.2 then t else if iaT g (nI i) (nI j) sep b = 0 then t else (nI i, nI j, g 4 (16 * i + j))) = t := by
      by_cases c : g 4 (16 * i + j) ≤ t.2.2
      · rw [if_pos c]
      · rw [if_neg c]
        by_cases c2 : iaT g (nI i) (nI j) sep b = 0
        · rw [if_pos c2]
        · have c3 := c2
          rw [show (¬ iaT g (nI i) (nI j) sep b = 0) = FB g sep b i j from iaT_eq h0 h1] at c3
          exact absurd (h j (by omega) (by omega) c3) c
    rw [e]
    exact abI_hi h0 h1 q (j + 1) t (fun x h2 h3 => h x (by omega) (by omega))
theorem abI_lo {i : Nat} {v : Int32} (h0 : ¬ g 1 15 ≤ 0) (h1 : ¬ g 1 35 ≤ 0) : ∀ (q j : Nat) (t : P3), t.2.2 < v → (∀ x, j ≤ x → x < j + q → FB g sep b i x → g 4 (16 * i + x) < v) → (abI g sep b i q j t).2.2 < v
  | 0, _, _, ht, _ => ht
  | q + 1, j, t, ht, h => by
    unfold abI
    refine abI_lo h0 h1 q (j + 1) _ ?_ (fun x h2 h3 => h x (by omega) (by omega))
    by_cases c : g 4 (16 * i + j) ≤ t.2.2
    · rw [if_pos c]; exact ht
    · rw [if_neg c]
      by_cases c2 : iaT g (nI i) (nI j) sep b = 0
      · rw [if_pos c2]; exact ht
      · have c3 := c2
        rw [show (¬ iaT g (nI i) (nI j) sep b = 0) = FB g sep b i j from iaT_eq h0 h1] at c3
        rw [if_neg c2]
        exact h j (by omega) (by omega) c3
theorem abI_at {i x9 : Nat} (h0 : ¬ g 1 15 ≤ 0) (h1 : ¬ g 1 35 ≤ 0) (hf : FB g sep b i x9) : ∀ (q j : Nat) (t : P3), j ≤ x9 → x9 < j + q → t.2.2 < g 4 (16 * i + x9) → (∀ x, x < x9 → j ≤ x → FB g sep b i x → g 4 (16 * i + x) < g 4 (16 * i + x9)) → (∀ x, x9 ≤ x → x < j + q → FB g sep b i x → g 4 (16 * i + x) ≤ g 4 (16 * i + x9)) → abI g sep b i q j t = (nI i, nI x9, g 4 (16 * i + x9))
  | 0, j, t, a1, a2, _, _, _ => by omega
  | q + 1, j, t, a1, a2, ht, hl, hh => by
    unfold abI
    by_cases c : j = x9
    · subst c
      have c1 : ¬ g 4 (16 * i + j) ≤ t.2.2 := by rw [Int32.not_le]; exact ht
      have c2 : ¬ iaT g (nI i) (nI j) sep b = 0 := by
        rw [show (¬ iaT g (nI i) (nI j) sep b = 0) = FB g sep b i j from iaT_eq h0 h1]; exact hf
      rw [if_neg c1, if_neg c2]
      exact abI_hi h0 h1 q (j + 1) _ (fun x h2 h3 hx => hh x (by omega) (by omega) hx)
    · refine abI_at h0 h1 hf q (j + 1) _ (by omega) (by omega) ?_ (fun x h2 h3 => hl x h2 (by omega)) (fun x h2 h3 => hh x h2 (by omega))
      by_cases c1 : g 4 (16 * i + j) ≤ t.2.2
      · rw [if_pos c1]; exact ht
      · rw [if_neg c1]
        by_cases c2 : iaT g (nI i) (nI j) sep b = 0
        · rw [if_pos c2]; exact ht
        · have c3 := c2
          rw [show (¬ iaT g (nI i) (nI j) sep b = 0) = FB g sep b i j from iaT_eq h0 h1] at c3
          rw [if_neg c2]
          exact hl j (by omega) (by omega) c3
theorem abO_hi (h0 : ¬ g 1 15 ≤ 0) (h1 : ¬ g 1 35 ≤ 0) : ∀ (r i : Nat) (t : P3), (∀ y x, i ≤ y → y < i + r → x < S1 → FB g sep b y x → g 4 (16 * y + x) ≤ t.2.2) → abO g sep b S1 r i t = t
  | 0, _, _, _ => rfl
  | r + 1, i, t, h => by
    unfold abO
    rw [abI_hi h0 h1 S1 0 t (fun x _ h3 hx => h i x (by omega) (by omega) (by omega) hx)]
    exact abO_hi h0 h1 r (i + 1) t (fun y x h2 h3 => h y x (by omega) (by omega))
theorem abO_at {i9 x9 : Nat} (h0 : ¬ g 1 15 ≤ 0) (h1 : ¬ g 1 35 ≤ 0) (hf : FB g sep b i9 x9) (hx9 : x9 < S1) : ∀ (r i : Nat) (t : P3), i ≤ i9 → i9 < i + r → t.2.2 < g 4 (16 * i9 + x9) → (∀ y x, i ≤ y → (y < i9 ∨ (y = i9 ∧ x < x9)) → x < S1 → FB g sep b y x → g 4 (16 * y + x) < g 4 (16 * i9 + x9)) → (∀ y x, y < i + r → (i9 < y ∨ (y = i9 ∧ x9 ≤ x)) → x < S1 → FB g sep b y x → g 4 (16 * y + x) ≤ g 4 (16 * i9 + x9)) → abO g sep b S1 r i t = (nI i9, nI x9, g 4 (16 * i9 + x9))
  | 0, i, t, a1, a2, _, _, _ => by omega
  | r + 1, i, t, a1, a2, ht, hl, hh => by
    unfold abO
    by_cases c : i = i9
    · subst c
      rw [abI_at h0 h1 hf S1 0 t (by omega) (by omega) ht (fun x h2 _ hx => hl i x (by omega) (Or.inr ⟨rfl, h2⟩) (by omega) hx) (fun x h2 h3 hx => hh i x (by omega) (Or.inr ⟨rfl, h2⟩) (by omega) hx)]
      exact abO_hi h0 h1 r (i + 1) _ (fun y x h2 h3 hx1 hx => hh y x (by omega) (Or.inl (by omega)) hx1 hx)
    · refine abO_at h0 h1 hf hx9 r (i + 1) _ (by omega) (by omega) ?_ (fun y x h2 => hl y x (by omega)) (fun y x h2 => hh y x (by omega))
      exact abI_lo h0 h1 S1 0 t ht (fun x _ h3 hx => hl i x (by omega) (Or.inl (by omega)) (by omega) hx)
end AB
/-! one backup more -/
def bkG (b : Nat) (x y z : Int32) (g : Nat → Nat → Int32) : Nat → Nat → Int32 := ug (ug (ug (ug g 1 (103 + 3 * b) x) 1 (103 + 3 * b + 1) y) 1 (103 + 3 * b + 2) z) 1 13 (nI (b + 1))
theorem bkG_c {b : Nat} {x y z : Int32} {g : Nat → Nat → Int32} (h : g 1 13 = nI b) : cs_badd_w b x y z g = bkG b x y z g := by
  unfold cs_badd_w bkG
  rw [ug_ne (g := ug (ug g 1 (103 + 3 * b) x) 1 (103 + 3 * b + 1) y) (by omega), ug_ne (g := ug g 1 (103 + 3 * b) x) (by omega), ug_ne (g := g) (by omega), h, nI_1]
theorem bkG_at {b k : Nat} {x y z : Int32} {g : Nat → Nat → Int32} (h : k ≠ 13) (h2 : k < 103 + 3 * b ∨ 106 + 3 * b ≤ k) : bkG b x y z g 1 k = g 1 k := by
  unfold bkG
  rw [ug_ne (by omega), ug_ne (by omega), ug_ne (by omega), ug_ne (by omega)]
theorem bkG_0 {b : Nat} {x y z : Int32} {g : Nat → Nat → Int32} : bkG b x y z g 1 (103 + 3 * b) = x := by
  unfold bkG
  rw [ug_ne (by omega), ug_ne (by omega), ug_ne (by omega), ug_same]
theorem bkG_1 {b : Nat} {x y z : Int32} {g : Nat → Nat → Int32} : bkG b x y z g 1 (103 + 3 * b + 1) = y := by
  unfold bkG
  rw [ug_ne (by omega), ug_ne (by omega), ug_same]
theorem bkG_2 {b : Nat} {x y z : Int32} {g : Nat → Nat → Int32} : bkG b x y z g 1 (103 + 3 * b + 2) = z := by
  unfold bkG
  rw [ug_ne (by omega), ug_same]
theorem bkG_4 {b k : Nat} {x y z : Int32} {g : Nat → Nat → Int32} : bkG b x y z g 4 k = g 4 k := by
  unfold bkG
  rw [ug_ne (by omega), ug_ne (by omega), ug_ne (by omega), ug_ne (by omega)]
theorem keG_bk {b : Nat} {x y z : Int32} {a g : Nat → Nat → Int32} (hb : b < 3) (h : keG a g) : keG a (bkG b x y z g) := by
  unfold bkG
  exact keG_ug (Or.inl ⟨rfl, by omega⟩) (keG_ug (Or.inl ⟨rfl, by omega⟩) (keG_ug (Or.inl ⟨rfl, by omega⟩) (keG_ug (Or.inl ⟨rfl, by omega⟩) h)))
theorem rl_bkG {n b : Nat} {a0 b0 g gr : Nat → Nat → Int32} {x y z : Int32} (hb : b < 3) (hB : g 1 13 = nI b) (h : rlG n a0 b0 g gr) : rlG n a0 b0 (bkG b x y z g) (bkG b x y z gr) := by
  have h8 := h.n8
  refine ⟨h8, ⟨fun j hj => ?_, fun j h1 h2 => ?_, fun j h1 h2 => ?_⟩, keG_bk hb h.ka, keG_bk hb h.kb, evK_at h.ev (bkG_at (by omega) (by omega)), ⟨b + 1, ug_same, by omega⟩⟩
  · by_cases c : j = 13
    · rw [c]
      unfold bkG
      rw [ug_same, ug_same]
    · rw [bkG_at c (by omega), bkG_at c (by omega)]; exact h.le.1 j hj
  · have h3 : j < 103 + 3 * (b + 1) := by
      rw [show bkG b x y z g 1 13 = nI (b + 1) from ug_same, nI_clamp (by omega)] at h2
      exact h2
    by_cases c1 : j < 103 + 3 * b
    · rw [bkG_at (by omega) (by omega), bkG_at (by omega) (by omega)]
      exact h.le.2.1 j h1 (by rw [hB, nI_clamp (by omega)]; exact c1)
    · rcases (show j = 103 + 3 * b ∨ j = 103 + 3 * b + 1 ∨ j = 103 + 3 * b + 2 by omega) with e | e | e
      · rw [e, bkG_0, bkG_0]
      · rw [e, bkG_1, bkG_1]
      · rw [e, bkG_2, bkG_2]
  · rw [bkG_at (by omega) (by omega)] at h2
    rw [bkG_at (by omega) (by omega), bkG_at (by omega) (by omega)]
    exact h.le.2.2 j h1 h2
theorem k16 : ∀ k, k < 256 → nI k / 16 = nI (k / 16) ∧ nI k - nI k / 16 * 16 = nI (k % 16) := by decide +kernel
theorem apI_self {many o x : Int32} {sep : Int32} (hs : 1 ≤ sep) (hx : x ≠ -100000) : apI many o x x sep = false := by
  unfold apI
  have e : angI (ptI many o x) (ptI many o x) = 0 := by
    unfold angI
    rw [Int32.sub_self]
    decide
  rw [e]
  have e2 : (0 : Int32) < sep := pos_of1 hs
  simp [hx, e2]
