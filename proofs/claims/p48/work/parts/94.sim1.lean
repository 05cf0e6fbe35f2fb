/-! what each change keeps -/
theorem inv_x {g g' : Nat → Nat → Int32} {n n' : Nat} {S : Nat → Nat} (h : invK g n S) (hst : statR g' n') (e : ∀ k, k < 172 → ¬ (5 ≤ k ∧ k ≤ 12) → k ≠ 16 → k ≠ 36 → ¬ (55 ≤ k ∧ k < 103) → g' 1 k = g 1 k) (ht : thrK g') (h10' : 0 < g' 1 10) (h8' : b01 (g' 1 8)) (h11' : b01 (g' 1 11)) : invK g' n' S := by
  obtain ⟨h1, h2, h3, h4, h5, h6, h7, h8, h9, h10⟩ := h
  have e0 := e 0 (by omega) (by omega) (by omega) (by omega) (by omega)
  have e13 := e 13 (by omega) (by omega) (by omega) (by omega) (by omega)
  have e18 := e 18 (by omega) (by omega) (by omega) (by omega) (by omega)
  have e38 := e 38 (by omega) (by omega) (by omega) (by omega) (by omega)
  refine ⟨⟨hst, ⟨(e 15 (by omega) (by omega) (by omega) (by omega) (by omega)).trans h1.2.1.1, (e 35 (by omega) (by omega) (by omega) (by omega) (by omega)).trans h1.2.1.2.1, h1.2.1.2.2⟩, evK_at h1.2.2.1 (e 14 (by omega) (by omega) (by omega) (by omega) (by omega)), bkK_at h1.2.2.2 e13⟩, ht, fun fr hf k h1 h2 => ?_, h10', by rw [e0]; exact h5, h8', h11', ?_, ?_, fun B hB b hb hB3 => ?_⟩
  · rw [e _ (by omega) (by omega) (by omega) (by omega) (by omega)]; exact h3 fr hf k h1 h2
  · unfold bmN at h8 ⊢
    rw [e18, e38]; exact h8
  · unfold bmU at h9 ⊢
    rw [e0, e18, e38]; exact h9
  · rw [e13] at hB
    rw [e _ (by omega) (by omega) (by omega) (by omega) (by omega), e _ (by omega) (by omega) (by omega) (by omega) (by omega)]
    exact h10 B hB b hb hB3
/-- a place that neither the levels nor the bounds rest on -/
theorem inv_u {g : Nat → Nat → Int32} {n k : Nat} {S : Nat → Nat} {x : Int32} (h : invK g n S) (hk : k = 5 ∨ k = 9 ∨ k = 16 ∨ k = 36) : invK (ug g 1 k x) n S :=
  inv_x h (st_ug (by omega) (inv_st h)) (fun j _ _ _ _ _ => ug_ne (by omega)) (thr_at h.2.1 (ug_ne (by omega))) (by rw [ug_ne (by omega)]; exact h.2.2.2.1) (by rw [ug_ne (by omega)]; exact h.2.2.2.2.2.1) (by rw [ug_ne (by omega)]; exact h.2.2.2.2.2.2.1)
theorem inv_6 {g : Nat → Nat → Int32} {n : Nat} {S : Nat → Nat} {x : Int32} (h : invK g n S) (hx : -200 ≤ x) : invK (ug g 1 6 x) n S :=
  inv_x h (st_ug (by omega) (inv_st h)) (fun j _ _ _ _ _ => ug_ne (by omega)) (by unfold thrK; rw [ug_same]; exact hx) (by rw [ug_ne (by omega)]; exact h.2.2.2.1) (by rw [ug_ne (by omega)]; exact h.2.2.2.2.2.1) (by rw [ug_ne (by omega)]; exact h.2.2.2.2.2.2.1)
theorem inv_8 {g : Nat → Nat → Int32} {n : Nat} {S : Nat → Nat} {x : Int32} (h : invK g n S) (hx : b01 x) : invK (ug g 1 8 x) n S :=
  inv_x h (st_ug (by omega) (inv_st h)) (fun j _ _ _ _ _ => ug_ne (by omega)) (thr_at h.2.1 (ug_ne (by omega))) (by rw [ug_ne (by omega)]; exact h.2.2.2.1) (by rw [ug_same]; exact hx) (by rw [ug_ne (by omega)]; exact h.2.2.2.2.2.2.1)
theorem inv_10 {g : Nat → Nat → Int32} {n : Nat} {S : Nat → Nat} {x : Int32} (h : invK g n S) (hx : 0 < x) : invK (ug g 1 10 x) n S :=
  inv_x h (st_ug (by omega) (inv_st h)) (fun j _ _ _ _ _ => ug_ne (by omega)) (thr_at h.2.1 (ug_ne (by omega))) (by rw [ug_same]; exact hx) (by rw [ug_ne (by omega)]; exact h.2.2.2.2.2.1) (by rw [ug_ne (by omega)]; exact h.2.2.2.2.2.2.1)
theorem inv_11 {g : Nat → Nat → Int32} {n : Nat} {S : Nat → Nat} {x : Int32} (h : invK g n S) (hx : b01 x) : invK (ug g 1 11 x) n S :=
  inv_x h (st_ug (by omega) (inv_st h)) (fun j _ _ _ _ _ => ug_ne (by omega)) (thr_at h.2.1 (ug_ne (by omega))) (by rw [ug_ne (by omega)]; exact h.2.2.2.1) (by rw [ug_ne (by omega)]; exact h.2.2.2.2.2.1) (by rw [ug_same]; exact hx)
theorem inv_7 {g : Nat → Nat → Int32} {n : Nat} {S : Nat → Nat} {x : Int32} (h : invK g n S) (hx : ∃ a : Nat, x = nI a ∧ a ≤ 60) : invK (ug g 1 7 x) n S := by
  obtain ⟨s1, s2, s3, s4, s5, s6, s7, s8⟩ := inv_st h
  refine inv_x h ⟨?_, s2, ?_, ?_, ?_, ?_, ?_, fun z hz => ?_⟩ (fun j _ _ _ _ _ => ug_ne (by omega)) (thr_at h.2.1 (ug_ne (by omega))) (by rw [ug_ne (by omega)]; exact h.2.2.2.1) (by rw [ug_ne (by omega)]; exact h.2.2.2.2.2.1) (by rw [ug_ne (by omega)]; exact h.2.2.2.2.2.2.1)
  · rw [ug_ne (by omega)]; exact s1
  · rw [ug_same]; exact hx
  · rw [ug_ne (by omega)]; exact s4
  · rw [ug_ne (by omega)]; exact s5
  · rw [ug_ne (by omega)]; exact s6
  · rw [ug_ne (by omega)]; exact s7
  · rw [ug_ne (by omega), ug_ne (by omega)]; exact s8 z hz
/-- a path's direction, block or drift -/
theorem inv_pth {g : Nat → Nat → Int32} {n q r : Nat} {S : Nat → Nat} {x : Int32} (h : invK g n S) (hq : q < n) (hr : r < 6) (hx : r = 2 → ∃ a : Nat, x = nI a ∧ a ≤ 300) (hx3 : r = 3 → ∃ a : Nat, x = nI a ∧ a ≤ 200) : invK (ug g 1 (55 + 6 * q + r) x) n S := by
  obtain ⟨s1, s2, s3, s4, s5, s6, s7, s8⟩ := inv_st h
  refine inv_x h ⟨?_, s2, ?_, ?_, ?_, ?_, ?_, fun z hz => ⟨?_, ?_⟩⟩ (fun j _ _ _ _ _ => ug_ne (by omega)) (thr_at h.2.1 (ug_ne (by omega))) (by rw [ug_ne (by omega)]; exact h.2.2.2.1) (by rw [ug_ne (by omega)]; exact h.2.2.2.2.2.1) (by rw [ug_ne (by omega)]; exact h.2.2.2.2.2.2.1)
  · rw [ug_ne (by omega)]; exact s1
  · rw [ug_ne (by omega)]; exact s3
  · rw [ug_ne (by omega)]; exact s4
  · rw [ug_ne (by omega)]; exact s5
  · rw [ug_ne (by omega)]; exact s6
  · rw [ug_ne (by omega)]; exact s7
  · by_cases c : 57 + 6 * z = 55 + 6 * q + r
    · rw [c, ug_same]; exact hx (by omega)
    · rw [ug_ne (by omega)]; exact (s8 z hz).1
  · by_cases c : 58 + 6 * z = 55 + 6 * q + r
    · rw [c, ug_same]; exact hx3 (by omega)
    · rw [ug_ne (by omega)]; exact (s8 z hz).2
theorem st2 {x : Int32} (h : 0 ≤ x ∧ x ≤ 1) : x = 0 ∨ x = 1 := by
  obtain ⟨s, h2, rfl⟩ := stat_of h
  rcases (show s = 0 ∨ s = 1 by omega) with rfl | rfl
  · exact Or.inl rfl
  · exact Or.inr rfl
theorem nI_rg {x b : Int32} {N : Nat} (hb : b.toInt = N) (h : 0 ≤ x ∧ x ≤ b) : ∃ a : Nat, x = nI a ∧ a ≤ N := by
  obtain ⟨j, h1, h2⟩ := nI_of2 (M := b) (n := N) hb (by rw [Int32.not_lt]; exact h.1) h.2
  exact ⟨j, h2, h1⟩
theorem btI_b {x : Int32} (h : b01 x) : btI x = x := by
  rcases h with rfl | rfl <;> rfl
theorem b01_id {x : Int32} (h : x = 0 ∨ x = 1) : (if x = 0 then (0 : Int32) else 1) = x := by
  rcases h with rfl | rfl <;> rfl
section RL4
variable {n : Nat} {a0 b0 a b : Nat → Nat → Int32}
end RL4
/-- a station set up anew -/
theorem inv_st0 {g : Nat → Nat → Int32} {n X Z : Nat} {S : Nat → Nat} {y : Int32} (h : invK g n S) (hX : 2 ≤ X ∧ X ≤ 16) (hZ : Z ≤ 100) : invK (setG0 (nI X) y (nI Z) g) n (fun i => if i = 0 then X else S i) := by
  obtain ⟨h1, h2, h3, h4, h5, h6, h7, h8, h9, h10⟩ := h
  obtain ⟨s1, s2, s3, s4, s5, s6, s7, s8⟩ := h1.1
  have hS := h1.2.1
  have at_ : ∀ k, k ≠ 0 → k ≠ 13 → ¬ (15 ≤ k ∧ k < 35) → ¬ (39 ≤ k ∧ k < 55) → setG0 (nI X) y (nI Z) g 1 k = g 1 k := fun k a b d e => by
    unfold setG0
    rw [ug_ne (by omega), ug_ne (by omega), fill_at (by omega), fill_at (by omega), ug_ne (by omega), ug_ne (by omega), ug_ne (by omega), ug_ne (by omega)]
  have e0 : setG0 (nI X) y (nI Z) g 1 0 = 0 := ug_same
  have e13 : setG0 (nI X) y (nI Z) g 1 13 = 0 := by
    unfold setG0
    rw [ug_ne (by omega), ug_same]
  have e15 : setG0 (nI X) y (nI Z) g 1 15 = nI X := by
    unfold setG0
    rw [ug_ne (by omega), ug_ne (by omega), fill_at (by omega), fill_at (by omega), ug_ne (by omega), ug_ne (by omega), ug_ne (by omega), ug_same]
  have e17 : setG0 (nI X) y (nI Z) g 1 17 = nI Z := by
    unfold setG0
    rw [ug_ne (by omega), ug_ne (by omega), fill_at (by omega), fill_at (by omega), ug_ne (by omega), ug_same]
  have e18 : setG0 (nI X) y (nI Z) g 1 18 = -100000 := by
    unfold setG0
    rw [ug_ne (by omega), ug_ne (by omega), fill_at (by omega), fill_at (by omega), ug_same]
  have eT : ∀ k, (19 ≤ k ∧ k < 35) ∨ (39 ≤ k ∧ k < 55) → setG0 (nI X) y (nI Z) g 1 k = -100000 := fun k hk => by
    unfold setG0
    rw [ug_ne (by omega), ug_ne (by omega)]
    unfold fillG
    split
    · rfl
    · rw [if_pos (by omega)]
  refine ⟨⟨⟨(at_ 12 (by omega) (by omega) (by omega) (by omega)).trans s1, s2, ?_, ⟨X, e15, hX⟩, ?_, ⟨Z, e17, hZ⟩, ?_, fun z hz => ?_⟩, ⟨e15, ?_, hX.1, hX.2, hS.2.2.2.2⟩, evK_at h1.2.2.1 (at_ 14 (by omega) (by omega) (by omega) (by omega)), ⟨0, e13, by omega⟩⟩, thr_at h2 (at_ 6 (by omega) (by omega) (by omega) (by omega)), fun fr hf k _ hk => eT _ (by omega), ?_, Or.inl e0, ?_, ?_, ⟨Or.inl e18, ?_⟩, ?_, fun B hB b hb hB3 => ?_⟩
  · rw [at_ 7 (by omega) (by omega) (by omega) (by omega)]; exact s3
  · rw [at_ 35 (by omega) (by omega) (by omega) (by omega)]; exact s5
  · rw [at_ 37 (by omega) (by omega) (by omega) (by omega)]; exact s7
  · rw [at_ _ (by omega) (by omega) (by omega) (by omega), at_ _ (by omega) (by omega) (by omega) (by omega)]; exact s8 z hz
  · rw [at_ 35 (by omega) (by omega) (by omega) (by omega)]; exact hS.2.1
  · rw [at_ 10 (by omega) (by omega) (by omega) (by omega)]; exact h4
  · rw [at_ 8 (by omega) (by omega) (by omega) (by omega)]; exact h6
  · rw [at_ 11 (by omega) (by omega) (by omega) (by omega)]; exact h7
  · rw [at_ 38 (by omega) (by omega) (by omega) (by omega)]; exact h8.2
  · unfold bmU
    rw [e0]
    exact fun z => absurd z (by decide)
  · rw [e13] at hB
    have := nIij (a := 0) (b := B) (by omega) (by omega) hB
    omega
theorem inv_st1 {g : Nat → Nat → Int32} {n X Z : Nat} {S : Nat → Nat} {y : Int32} (h : invK g n S) (hX : 2 ≤ X ∧ X ≤ 16) (hZ : Z ≤ 100) : invK (setG1 (nI X) y (nI Z) g) n (fun i => if i = 1 then X else S i) := by
  obtain ⟨h1, h2, h3, h4, h5, h6, h7, h8, h9, h10⟩ := h
  obtain ⟨s1, s2, s3, s4, s5, s6, s7, s8⟩ := h1.1
  have hS := h1.2.1
  have at_ : ∀ k, k ≠ 0 → k ≠ 13 → ¬ (19 ≤ k ∧ k < 35) → ¬ (35 ≤ k ∧ k < 55) → setG1 (nI X) y (nI Z) g 1 k = g 1 k := fun k a b d e => by
    unfold setG1
    rw [ug_ne (by omega), ug_ne (by omega), fill_at (by omega), fill_at (by omega), ug_ne (by omega), ug_ne (by omega), ug_ne (by omega), ug_ne (by omega)]
  have e0 : setG1 (nI X) y (nI Z) g 1 0 = 0 := ug_same
  have e13 : setG1 (nI X) y (nI Z) g 1 13 = 0 := by
    unfold setG1
    rw [ug_ne (by omega), ug_same]
  have e15 : setG1 (nI X) y (nI Z) g 1 35 = nI X := by
    unfold setG1
    rw [ug_ne (by omega), ug_ne (by omega), fill_at (by omega), fill_at (by omega), ug_ne (by omega), ug_ne (by omega), ug_ne (by omega), ug_same]
  have e17 : setG1 (nI X) y (nI Z) g 1 37 = nI Z := by
    unfold setG1
    rw [ug_ne (by omega), ug_ne (by omega), fill_at (by omega), fill_at (by omega), ug_ne (by omega), ug_same]
  have e18 : setG1 (nI X) y (nI Z) g 1 38 = -100000 := by
    unfold setG1
    rw [ug_ne (by omega), ug_ne (by omega), fill_at (by omega), fill_at (by omega), ug_same]
  have eT : ∀ k, (19 ≤ k ∧ k < 35) ∨ (39 ≤ k ∧ k < 55) → setG1 (nI X) y (nI Z) g 1 k = -100000 := fun k hk => by
    unfold setG1
    rw [ug_ne (by omega), ug_ne (by omega)]
    unfold fillG
    split
    · rfl
    · rw [if_pos (by omega)]
  refine ⟨⟨⟨(at_ 12 (by omega) (by omega) (by omega) (by omega)).trans s1, s2, ?_, ?_, ⟨X, e15, hX⟩, ?_, ⟨Z, e17, hZ⟩, fun z hz => ?_⟩, ⟨?_, e15, hS.2.2.1, hS.2.2.2.1, hX.1, hX.2⟩, evK_at h1.2.2.1 (at_ 14 (by omega) (by omega) (by omega) (by omega)), ⟨0, e13, by omega⟩⟩, thr_at h2 (at_ 6 (by omega) (by omega) (by omega) (by omega)), fun fr hf k _ hk => eT _ (by omega), ?_, Or.inl e0, ?_, ?_, ⟨?_, Or.inl e18⟩, ?_, fun B hB b hb hB3 => ?_⟩
  · rw [at_ 7 (by omega) (by omega) (by omega) (by omega)]; exact s3
  · rw [at_ 15 (by omega) (by omega) (by omega) (by omega)]; exact s4
  · rw [at_ 17 (by omega) (by omega) (by omega) (by omega)]; exact s6
  · rw [at_ _ (by omega) (by omega) (by omega) (by omega), at_ _ (by omega) (by omega) (by omega) (by omega)]; exact s8 z hz
  · rw [at_ 15 (by omega) (by omega) (by omega) (by omega)]; exact hS.1
  · rw [at_ 10 (by omega) (by omega) (by omega) (by omega)]; exact h4
  · rw [at_ 8 (by omega) (by omega) (by omega) (by omega)]; exact h6
  · rw [at_ 11 (by omega) (by omega) (by omega) (by omega)]; exact h7
  · rw [at_ 18 (by omega) (by omega) (by omega) (by omega)]; exact h8.1
  · unfold bmU
    rw [e0]
    exact fun z => absurd z (by decide)
  · rw [e13] at hB
    have := nIij (a := 0) (b := B) (by omega) (by omega) hB
    omega
