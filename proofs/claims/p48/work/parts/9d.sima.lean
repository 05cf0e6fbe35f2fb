theorem inv_bkG {g : Nat → Nat → Int32} {n b i j : Nat} {S : Nat → Nat} {z : Int32} (h : invK g n S) (hb : b < 3) (hB : g 1 13 = nI b) (hi : i < S 0) (hj : j < S 1) : invK (bkG b (nI i) (nI j) z g) n S := by
  obtain ⟨h1, h2, h3, h4, h5, h6, h7, h8, h9, h10⟩ := h
  have e : ∀ k, k ≠ 13 → (k < 103 ∨ 112 ≤ k) → bkG b (nI i) (nI j) z g 1 k = g 1 k := fun k a c => bkG_at a (by omega)
  have e13 : bkG b (nI i) (nI j) z g 1 13 = nI (b + 1) := ug_same
  refine ⟨⟨st_same (fun k hk => e k (by unfold stK at hk; omega) (by unfold stK at hk; omega)) h1.1, ⟨(e 15 (by omega) (by omega)).trans h1.2.1.1, (e 35 (by omega) (by omega)).trans h1.2.1.2.1, h1.2.1.2.2⟩, evK_at h1.2.2.1 (e 14 (by omega) (by omega)), ⟨b + 1, e13, by omega⟩⟩, thr_at h2 (e 6 (by omega) (by omega)), fun fr hf k a1 a2 => ?_, ?_, ?_, ?_, ?_, ?_, ?_, fun B hB2 b9 hb9 hB3 => ?_⟩
  · rw [e _ (by omega) (by omega)]; exact h3 fr hf k a1 a2
  · rw [e _ (by omega) (by omega)]; exact h4
  · rw [e _ (by omega) (by omega)]; exact h5
  · rw [e _ (by omega) (by omega)]; exact h6
  · rw [e _ (by omega) (by omega)]; exact h7
  · unfold bmN at h8 ⊢
    rw [e _ (by omega) (by omega), e _ (by omega) (by omega)]; exact h8
  · unfold bmU at h9 ⊢
    rw [e _ (by omega) (by omega), e _ (by omega) (by omega), e _ (by omega) (by omega)]; exact h9
  · rw [e13] at hB2
    have e9 := nIij (by omega) (by omega) hB2
    by_cases c : b9 = b
    · subst c
      exact ⟨⟨i, hi, bkG_0⟩, ⟨j, hj, bkG_1⟩⟩
    · rw [bkG_at (by omega) (by omega), bkG_at (by omega) (by omega)]
      exact h10 b hB b9 (by omega) (by omega)
theorem inv_fbO {n S1 : Nat} {S : Nat → Nat} : ∀ (r i : Nat) {g : Nat → Nat → Int32}, invK g n S → invK (fbO n S1 r i g) n S := by
  have st : ∀ {g : Nat → Nat → Int32} {i j : Nat}, invK g n S → invK (fbS n g i j) n S := fun {g i j} h => inv_le (inv_snt (fr := 0) (b0 := nI i) (b1 := nI j) (t := 4) (m := n) h) (fun k _ => ug_ne (by omega))
  have rowI : ∀ (q j i : Nat) {g : Nat → Nat → Int32}, invK g n S → invK (fbI n i q j g) n S := by
    intro q
    induction q with
    | zero => exact fun _ _ _ h => h
    | succ q ih =>
      intro j i g h
      unfold fbI
      exact ih (j + 1) i (st h)
  intro r
  induction r with
  | zero => exact fun _ _ h => h
  | succ r ih =>
    intro i g h
    unfold fbO
    exact ih (i + 1) (rowI S1 0 i h)
theorem inv_b0 {g : Nat → Nat → Int32} {n : Nat} {S : Nat → Nat} (h : invK g n S) : invK (ug g 1 13 0) n S := by
  obtain ⟨h1, h2, h3, h4, h5, h6, h7, h8, h9, h10⟩ := h
  refine ⟨⟨st_ug (by omega) h1.1, ⟨(ug_ne (by omega)).trans h1.2.1.1, (ug_ne (by omega)).trans h1.2.1.2.1, h1.2.1.2.2⟩, evK_at h1.2.2.1 (ug_ne (by omega)), ⟨0, ug_same, by omega⟩⟩, thr_at h2 (ug_ne (by omega)), fun fr hf k a1 a2 => ?_, ?_, ?_, ?_, ?_, ?_, ?_, fun B hB b9 hb9 hB3 => ?_⟩
  · rw [ug_ne (by omega)]; exact h3 fr hf k a1 a2
  · rw [ug_ne (by omega)]; exact h4
  · rw [ug_ne (by omega)]; exact h5
  · rw [ug_ne (by omega)]; exact h6
  · rw [ug_ne (by omega)]; exact h7
  · unfold bmN at h8 ⊢
    rw [ug_ne (by omega), ug_ne (by omega)]; exact h8
  · unfold bmU at h9 ⊢
    rw [ug_ne (by omega), ug_ne (by omega), ug_ne (by omega)]; exact h9
  · rw [ug_same] at hB
    have := nIij (a := 0) (b := B) (by omega) (by omega) hB
    omega
