/-! a path more -/
theorem ap_12 {n : Nat} {x y z : Int32} {g : Nat → Nat → Int32} : appG n x y z 0 0 g 1 12 = g 1 12 + 1 := by
  unfold appG
  rw [ug_same, ug_ne (by omega), ug_ne (by omega), ug_ne (by omega), ug_ne (by omega), ug_ne (by omega), ug_ne (by omega)]
theorem ap_at {n k : Nat} {x y z : Int32} {g : Nat → Nat → Int32} (h : k ≠ 12) (h2 : k < 55 + 6 * n ∨ 61 + 6 * n ≤ k) : appG n x y z 0 0 g 1 k = g 1 k := by
  unfold appG
  rw [ug_ne (by omega), ug_ne (by omega), ug_ne (by omega), ug_ne (by omega), ug_ne (by omega), ug_ne (by omega), ug_ne (by omega)]
def apV (x y z : Int32) (r : Nat) : Int32 := if r = 0 then x else if r = 1 then y else if r = 2 then z else 0
theorem ap_r {n r : Nat} {x y z : Int32} {g : Nat → Nat → Int32} (h : r < 6) : appG n x y z 0 0 g 1 (55 + 6 * n + r) = apV x y z r := by
  rcases (show r = 0 ∨ r = 1 ∨ r = 2 ∨ r = 3 ∨ r = 4 ∨ r = 5 by omega) with rfl | rfl | rfl | rfl | rfl | rfl
  · unfold appG
    rw [ug_ne (by omega), ug_ne (by omega), ug_ne (by omega), ug_ne (by omega), ug_ne (by omega), ug_ne (by omega), ug_same]; rfl
  · unfold appG
    rw [ug_ne (by omega), ug_ne (by omega), ug_ne (by omega), ug_ne (by omega), ug_ne (by omega), ug_same]; rfl
  · unfold appG
    rw [ug_ne (by omega), ug_ne (by omega), ug_ne (by omega), ug_ne (by omega), ug_same]; rfl
  · unfold appG
    rw [ug_ne (by omega), ug_ne (by omega), ug_ne (by omega), ug_same]; rfl
  · unfold appG
    rw [ug_ne (by omega), ug_ne (by omega), ug_same]; rfl
  · unfold appG
    rw [ug_ne (by omega), ug_same]; rfl
theorem inv_app {g : Nat → Nat → Int32} {n : Nat} {S : Nat → Nat} {x y z : Int32} (hn : n < 8) (h : invK g n S) (hz : ∃ a : Nat, z = nI a ∧ a ≤ 300) : invK (appG n x y z 0 0 g) (n + 1) S := by
  obtain ⟨s1, s2, s3, s4, s5, s6, s7, s8⟩ := inv_st h
  refine inv_x h ⟨?_, by omega, ?_, ?_, ?_, ?_, ?_, fun q hq => ⟨?_, ?_⟩⟩ (fun j _ _ _ _ _ => ap_at (by omega) (by omega)) (thr_at h.2.1 (ap_at (by omega) (by omega))) (by rw [ap_at (by omega) (by omega)]; exact h.2.2.2.1) (by rw [ap_at (by omega) (by omega)]; exact h.2.2.2.2.2.1) (by rw [ap_at (by omega) (by omega)]; exact h.2.2.2.2.2.2.1)
  · rw [ap_12, s1]; exact nI_1 n
  · rw [ap_at (by omega) (by omega)]; exact s3
  · rw [ap_at (by omega) (by omega)]; exact s4
  · rw [ap_at (by omega) (by omega)]; exact s5
  · rw [ap_at (by omega) (by omega)]; exact s6
  · rw [ap_at (by omega) (by omega)]; exact s7
  · by_cases c : q = n
    · rw [show 57 + 6 * q = 55 + 6 * n + 2 by omega, ap_r (by omega)]; exact hz
    · rw [ap_at (by omega) (by omega)]; exact (s8 q (by omega)).1
  · by_cases c : q = n
    · rw [show 58 + 6 * q = 55 + 6 * n + 3 by omega, ap_r (by omega)]; exact ⟨0, rfl, by omega⟩
    · rw [ap_at (by omega) (by omega)]; exact (s8 q (by omega)).2
/-! a path less -/
theorem dr_at2 {q k : Nat} {g : Nat → Nat → Int32} (h : k ≠ 12) (h2 : k < 55 ∨ 103 ≤ k) : drG q g 1 k = g 1 k := by
  unfold drG
  rw [ug_ne (by omega)]
  exact if_neg (by omega)
theorem dr_q2 {q k n : Nat} {g : Nat → Nat → Int32} (hn : n ≤ 8) (h : 55 ≤ k) (h2 : k < 55 + 6 * (n - 1)) : drG q g 1 k = if 55 + 6 * q ≤ k then g 1 (k + 6) else g 1 k := by
  unfold drG
  rw [ug_ne (by omega)]
  rw [if_pos (show 1 = 1 ∧ 55 ≤ k ∧ k < 103 by omega)]
  unfold drQ
  by_cases c : (k - 55) / 6 < q
  · rw [if_pos c, if_neg (by omega), show 55 + 6 * ((k - 55) / 6) + (k - 55) % 6 = k by omega]
  · rw [if_neg c, if_pos (by omega), if_pos (by omega), show 55 + 6 * ((k - 55) / 6 + 1) + (k - 55) % 6 = k + 6 by omega]
theorem dr_122 {q : Nat} {g : Nat → Nat → Int32} : drG q g 1 12 = g 1 12 - 1 := ug_same
theorem inv_rm {g g' : Nat → Nat → Int32} {n q : Nat} {S : Nat → Nat} (h : invK g n S) (hq : q < n) (e12 : g' 1 12 = g 1 12 - 1) (e : ∀ k, k ≠ 12 → (k < 55 ∨ (103 ≤ k ∧ k < 172)) → g' 1 k = g 1 k) (eq_ : ∀ k, 55 ≤ k → k < 55 + 6 * (n - 1) → g' 1 k = if 55 + 6 * q ≤ k then g 1 (k + 6) else g 1 k) : invK g' (n - 1) S := by
  obtain ⟨s1, s2, s3, s4, s5, s6, s7, s8⟩ := inv_st h
  refine inv_x h ⟨?_, by omega, ?_, ?_, ?_, ?_, ?_, fun z hz => ⟨?_, ?_⟩⟩ (fun j _ _ _ _ _ => e j (by omega) (by omega)) (thr_at h.2.1 (e _ (by omega) (by omega))) (by rw [e _ (by omega) (by omega)]; exact h.2.2.2.1) (by rw [e _ (by omega) (by omega)]; exact h.2.2.2.2.2.1) (by rw [e _ (by omega) (by omega)]; exact h.2.2.2.2.2.2.1)
  · rw [e12, s1, show (1 : Int32) = nI 1 from rfl, pk_sub (by omega)]
  · rw [e _ (by omega) (by omega)]; exact s3
  · rw [e _ (by omega) (by omega)]; exact s4
  · rw [e _ (by omega) (by omega)]; exact s5
  · rw [e _ (by omega) (by omega)]; exact s6
  · rw [e _ (by omega) (by omega)]; exact s7
  · rw [eq_ _ (by omega) (by omega)]
    split
    · rw [show 57 + 6 * z + 6 = 57 + 6 * (z + 1) by omega]; exact (s8 _ (by omega)).1
    · exact (s8 _ (by omega)).1
  · rw [eq_ _ (by omega) (by omega)]
    split
    · rw [show 58 + 6 * z + 6 = 58 + 6 * (z + 1) by omega]; exact (s8 _ (by omega)).2
    · exact (s8 _ (by omega)).2
