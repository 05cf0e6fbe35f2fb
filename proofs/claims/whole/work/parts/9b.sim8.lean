/-! THE SURVEY ALIKE: the table -/
def tQ (P : Nat → Prop) (a b : Nat → Nat → Int32) : Prop := ∀ k, k < 256 → (P k → b 4 k = a 4 k ∧ (a 4 k = -100000 ∨ -100000 < a 4 k)) ∧ (¬ P k → b 4 k = -100000)
theorem tQ_cg {P Q : Nat → Prop} {a b : Nat → Nat → Int32} (h : tQ P a b) (e : ∀ k, k < 256 → (P k ↔ Q k)) : tQ Q a b := fun k hk => ⟨fun z => (h k hk).1 ((e k hk).mpr z), fun z => (h k hk).2 (fun z2 => z ((e k hk).mp z2))⟩
theorem rl_u4 {n : Nat} {a0 b0 a b : Nat → Nat → Int32} (h : rlG n a0 b0 a b) {k k' : Nat} {x y : Int32} : rlG n a0 b0 (ug a 4 k x) (ug b 4 k' y) := by
  refine ⟨h.n8, ⟨fun j hj => ?_, fun j h1 h2 => ?_, fun j h1 h2 => ?_⟩, keG_ug (Or.inr (Or.inr rfl)) h.ka, keG_ug (Or.inr (Or.inr rfl)) h.kb, evK_at h.ev (ug_ne (by omega)), bkK_at h.bk (ug_ne (by omega))⟩
  · rw [ug_ne (by omega), ug_ne (by omega)]; exact h.le.1 j hj
  · rw [ug_ne (by omega)] at h2
    rw [ug_ne (by omega), ug_ne (by omega)]; exact h.le.2.1 j h1 h2
  · rw [ug_ne (by omega)] at h2
    rw [ug_ne (by omega), ug_ne (by omega)]; exact h.le.2.2 j h1 h2
theorem rl_r4 {n : Nat} {a0 b0 a b : Nat → Nat → Int32} (h : rlG n a0 b0 a b) {k : Nat} {y : Int32} : rlG n a0 b0 a (ug b 4 k y) := by
  refine ⟨h.n8, ⟨fun j hj => ?_, fun j h1 h2 => ?_, fun j h1 h2 => ?_⟩, h.ka, keG_ug (Or.inr (Or.inr rfl)) h.kb, h.ev, h.bk⟩
  · rw [ug_ne (by omega)]; exact h.le.1 j hj
  · rw [ug_ne (by omega)]; exact h.le.2.1 j h1 h2
  · rw [ug_ne (by omega)]; exact h.le.2.2 j h1 h2
section SV
variable {n : Nat} {a0 b0 : Nat → Nat → Int32}
theorem snt_4 {g : Nat → Nat → Int32} {fr : Nat} {x y t : Int32} {k : Nat} : sntG g fr x y t n 4 k = g 4 k := by
  unfold sntG
  rw [ug_ne (by omega), ug_ne (by omega), ug_ne (by omega), ug_ne (by omega)]
theorem snt_6 {g : Nat → Nat → Int32} {fr : Nat} {x y t : Int32} {k : Nat} (h : 6 ≤ k) : sntG g fr x y t n 1 k = g 1 k := by
  unfold sntG
  rw [ug_ne (by omega), ug_ne (by omega), ug_ne (by omega), ug_ne (by omega)]
theorem rl_trn {a b : Nat → Nat → Int32} (h : rlG n a0 b0 a b) {fr : Nat} {x y : Int32} (hf : fr < 2) : trnG b fr x y n = trnG a fr x y n := by
  unfold trnG
  rw [rl_hrd h hf, rl_msr h hf]
theorem trn_ok {g : Nat → Nat → Int32} {fr : Nat} {x y : Int32} (ht : thrK g) : trnG g fr x y n = -100000 ∨ -100000 < trnG g fr x y n := by
  cases z : hrdG g fr x y n
  · exact Or.inl (trn_ff z)
  · rw [trn_tt z]; exact Or.inr (hr_ms ht z)
theorem fbS_rl {P : Nat → Prop} {a b : Nat → Nat → Int32} {i j : Nat} (hi : i < 16) (hj : j < 16) (ht : thrK a) (h : rlG n a0 b0 a b) (q : tQ P a b) : rlG n a0 b0 (fbS n a i j) (fbS n b i j) ∧ thrK (fbS n a i j) ∧ tQ (fun k => P k ∨ k = 16 * i + j) (fbS n a i j) (fbS n b i j) := by
  unfold fbS
  refine ⟨rl_u4 (rl_snt h), thr_at ht (by rw [ug_ne (by omega)]; exact snt_6 (by omega)), fun k hk => ?_⟩
  by_cases c : k = 16 * i + j
  · subst c
    rw [ug_same, ug_same]
    exact ⟨fun _ => ⟨rl_trn h (by omega), trn_ok ht⟩, fun z => absurd (Or.inr rfl) z⟩
  · rw [ug_ne (by omega), ug_ne (by omega), snt_4, snt_4]
    exact ⟨fun z => (q k hk).1 (z.resolve_right c), fun z => (q k hk).2 (fun z2 => z (Or.inl z2))⟩
theorem fbI_rl {i : Nat} (hi : i < 16) : ∀ (q j : Nat) {P : Nat → Prop} {a b : Nat → Nat → Int32}, j + q ≤ 16 → thrK a → rlG n a0 b0 a b → tQ P a b → rlG n a0 b0 (fbI n i q j a) (fbI n i q j b) ∧ thrK (fbI n i q j a) ∧ tQ (fun k => P k ∨ (k / 16 = i ∧ j ≤ k % 16 ∧ k % 16 < j + q)) (fbI n i q j a) (fbI n i q j b)
  | 0, j, P, a, b, _, ht, h, qq => ⟨h, ht, tQ_cg qq (fun k _ => ⟨Or.inl, fun z => z.elim id (fun z => by omega)⟩)⟩
  | q + 1, j, P, a, b, hj, ht, h, qq => by
    obtain ⟨h1, h2, h3⟩ := fbS_rl hi (show j < 16 by omega) ht h qq
    have r := fbI_rl hi q (j + 1) (by omega) h2 h1 h3
    unfold fbI
    refine ⟨r.1, r.2.1, tQ_cg r.2.2 (fun k hk => ?_)⟩
    constructor
    · rintro ((z | z) | z)
      · exact Or.inl z
      · exact Or.inr (by omega)
      · exact Or.inr (by omega)
    · rintro (z | z)
      · exact Or.inl (Or.inl z)
      · by_cases c : k % 16 = j
        · exact Or.inl (Or.inr (by omega))
        · exact Or.inr (by omega)
theorem fbO_rl {S1 : Nat} (h16 : S1 ≤ 16) : ∀ (r i : Nat) {P : Nat → Prop} {a b : Nat → Nat → Int32}, i + r ≤ 16 → thrK a → rlG n a0 b0 a b → tQ P a b → rlG n a0 b0 (fbO n S1 r i a) (fbO n S1 r i b) ∧ thrK (fbO n S1 r i a) ∧ tQ (fun k => P k ∨ (i ≤ k / 16 ∧ k / 16 < i + r ∧ k % 16 < S1)) (fbO n S1 r i a) (fbO n S1 r i b)
  | 0, i, P, a, b, _, ht, h, qq => ⟨h, ht, tQ_cg qq (fun k _ => ⟨Or.inl, fun z => z.elim id (fun z => by omega)⟩)⟩
  | r + 1, i, P, a, b, hi, ht, h, qq => by
    obtain ⟨h1, h2, h3⟩ := fbI_rl (show i < 16 by omega) S1 0 (by omega) ht h qq
    have r9 := fbO_rl h16 r (i + 1) (by omega) h2 h1 h3
    unfold fbO
    refine ⟨r9.1, r9.2.1, tQ_cg r9.2.2 (fun k hk => ?_)⟩
    constructor
    · rintro ((z | z) | z)
      · exact Or.inl z
      · exact Or.inr (by omega)
      · exact Or.inr (by omega)
    · rintro (z | z)
      · exact Or.inl (Or.inl z)
      · by_cases c : k / 16 = i
        · exact Or.inl (Or.inr (by omega))
        · exact Or.inr (by omega)
/-! whether a pair is free -/
def FB (g : Nat → Nat → Int32) (sep : Int32) (b i j : Nat) : Prop := frA g (nI i) (nI j) sep (g 1 18) (g 1 38) = true ∧ ∀ x, x < b → frA g (nI i) (nI j) sep (g 1 (103 + 3 * x)) (g 1 (103 + 3 * x + 1)) = true
theorem frF_all {g : Nat → Nat → Int32} {i j sep : Int32} : ∀ (q b : Nat) (a : Bool), (frF g i j sep q b a = true) = (a = true ∧ ∀ x, b ≤ x → x < b + q → frA g i j sep (g 1 (103 + 3 * x)) (g 1 (103 + 3 * x + 1)) = true)
  | 0, b, a => by
    unfold frF
    exact propext ⟨fun z => ⟨z, fun x h1 h2 => by omega⟩, fun z => z.1⟩
  | q + 1, b, a => by
    unfold frF
    rw [frF_all q (b + 1), Bool.and_eq_true]
    apply propext
    constructor
    · rintro ⟨⟨z1, z2⟩, z3⟩
      refine ⟨z1, fun x h1 h2 => ?_⟩
      by_cases c : x = b
      · subst c; exact z2
      · exact z3 x (by omega) (by omega)
    · rintro ⟨z1, z2⟩
      exact ⟨⟨z1, z2 b (by omega) (by omega)⟩, fun x h1 h2 => z2 x (by omega) (by omega)⟩
theorem iFC_eq {many o x y sep : Int32} (h : ¬ many ≤ 0) : iFC many o x y sep = if apI many o x y sep = true then 1 else 0 := by
  unfold iFC apI
  by_cases c : y = -100000
  · rw [if_pos c]
    simp [c]
  · rw [if_neg c, pt_C h, pt_C h]
    have e : ∀ p q, angI p q = agC p q := fun p q => by
      unfold angI agC
      rw [ar64]
    rw [e]
    by_cases c2 : agC (ptC many o x) (ptC many o y) < sep
    · rw [if_pos c2]; simp [c, c2]
    · rw [if_neg c2]; simp [c, c2]
theorem iaF_eq {g : Nat → Nat → Int32} {i j sep : Int32} (h0 : ¬ g 1 15 ≤ 0) (h1 : ¬ g 1 35 ≤ 0) : ∀ (q b : Nat), (¬ iaF g i j sep q b = 0) = ∀ x, b ≤ x → x < b + q → frA g i j sep (g 1 (103 + 3 * x)) (g 1 (103 + 3 * x + 1)) = true
  | 0, b => by
    unfold iaF
    exact propext ⟨fun _ x h1 h2 => by omega, fun _ => by decide⟩
  | q + 1, b => by
    unfold iaF
    rw [iFC_eq h0, iFC_eq h1]
    have ih := iaF_eq h0 h1 (i := i) (j := j) (sep := sep) q (b + 1)
    apply propext
    constructor
    · intro z x h2 h3
      by_cases c : x = b
      · subst c
        unfold frA
        rw [Bool.and_eq_true]
        by_cases c1 : apI (g 1 15) (g 1 16) i (g 1 (103 + 3 * x)) sep = true
        · by_cases c2 : apI (g 1 35) (g 1 36) j (g 1 (103 + 3 * x + 1)) sep = true
          · exact ⟨c1, c2⟩
          · simp [c1, c2] at z
        · simp [c1] at z
      · have z2 : ¬ iaF g i j sep q (b + 1) = 0 := by
          intro e
          rw [e] at z
          apply z
          simp only [ite_self]
        rw [ih] at z2
        exact z2 x (by omega) (by omega)
    · intro z
      have z1 := z b (by omega) (by omega)
      unfold frA at z1
      rw [Bool.and_eq_true] at z1
      have z2 : ¬ iaF g i j sep q (b + 1) = 0 := by
        rw [ih]
        exact fun x h2 h3 => z x (by omega) (by omega)
      rw [z1.1, z1.2]
      exact z2
theorem iaT_eq {g : Nat → Nat → Int32} {sep : Int32} {i j b : Nat} (h0 : ¬ g 1 15 ≤ 0) (h1 : ¬ g 1 35 ≤ 0) : (¬ iaT g (nI i) (nI j) sep b = 0) = FB g sep b i j := by
  unfold iaT FB
  rw [iFC_eq h0, iFC_eq h1]
  have ih := iaF_eq h0 h1 (i := nI i) (j := nI j) (sep := sep) b 0
  apply propext
  constructor
  · intro z
    have z2 : ¬ iaF g (nI i) (nI j) sep b 0 = 0 := by
      intro e
      rw [e] at z
      apply z
      simp only [ite_self]
    rw [ih] at z2
    refine ⟨?_, fun x hx => z2 x (by omega) (by omega)⟩
    unfold frA
    rw [Bool.and_eq_true]
    by_cases c1 : apI (g 1 15) (g 1 16) (nI i) (g 1 18) sep = true
    · by_cases c2 : apI (g 1 35) (g 1 36) (nI j) (g 1 38) sep = true
      · exact ⟨c1, c2⟩
      · simp [c1, c2] at z
    · simp [c1] at z
  · rintro ⟨z1, z2⟩
    unfold frA at z1
    rw [Bool.and_eq_true] at z1
    rw [z1.1, z1.2]
    have z3 : ¬ iaF g (nI i) (nI j) sep b 0 = 0 := by
      rw [ih]
      exact fun x _ h3 => z2 x (by omega)
    exact z3
end SV
