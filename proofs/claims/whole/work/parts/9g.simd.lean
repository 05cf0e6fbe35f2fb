/-! THE TEXT ALIKE: paths -/
def apW (x y z u v : Int32) (q : Nat) : Int32 := if q = 0 then x else if q = 1 then y else if q = 2 then z else if q = 3 then 0 else if q = 4 then u else v
section AP
variable {n : Nat} {x y z u v : Int32} {g : Nat → Nat → Int32}
theorem aq_12 : appG n x y z u v g 1 12 = g 1 12 + 1 := by
  unfold appG
  rw [ug_same, ug_ne (by omega), ug_ne (by omega), ug_ne (by omega), ug_ne (by omega), ug_ne (by omega), ug_ne (by omega)]
theorem aq_at {k : Nat} (h : k ≠ 12) (h2 : k < 55 + 6 * n ∨ 61 + 6 * n ≤ k) : appG n x y z u v g 1 k = g 1 k := by
  unfold appG
  rw [ug_ne (by omega), ug_ne (by omega), ug_ne (by omega), ug_ne (by omega), ug_ne (by omega), ug_ne (by omega), ug_ne (by omega)]
theorem aq_o {a k : Nat} (h : a ≠ 1) : appG n x y z u v g a k = g a k := by
  unfold appG
  rw [ug_ne (by omega), ug_ne (by omega), ug_ne (by omega), ug_ne (by omega), ug_ne (by omega), ug_ne (by omega), ug_ne (by omega)]
theorem aq_r {q : Nat} (h : q < 6) : appG n x y z u v g 1 (55 + 6 * n + q) = apW x y z u v q := by
  rcases (show q = 0 ∨ q = 1 ∨ q = 2 ∨ q = 3 ∨ q = 4 ∨ q = 5 by omega) with rfl | rfl | rfl | rfl | rfl | rfl
  · unfold appG
    rw [ug_ne (by omega), ug_ne (by omega), ug_ne (by omega), ug_ne (by omega), ug_ne (by omega), ug_ne (by omega), ug_same]; rfl
  · unfold appG
    rw [ug_ne (by omega), ug_ne (by omega), ug_ne (by omega), ug_ne (by omega), ug_ne (by omega), ug_same]; rfl
  · unfold appG
    rw [ug_ne (by omega), ug_ne (by omega), ug_ne (by omega), ug_ne (by omega), ug_same]; rfl
  · unfold appG
    rw [ug_ne (by omega), ug_ne (by omega), ug_ne (by omega), ug_same]; rfl
  · unfold appG
    rw [ug_ne (by omega), ug_ne (by omega), ug_same]; rfl
  · unfold appG
    rw [ug_ne (by omega), ug_same]; rfl
theorem inv_app2 {S : Nat → Nat} (hn : n < 8) (h : invK g n S) (hz : ∃ a : Nat, z = nI a ∧ a ≤ 300) : invK (appG n x y z u v g) (n + 1) S := by
  obtain ⟨s1, s2, s3, s4, s5, s6, s7, s8⟩ := inv_st h
  refine inv_x h ⟨?_, by omega, ?_, ?_, ?_, ?_, ?_, fun q hq => ⟨?_, ?_⟩⟩ (fun j _ _ _ _ _ => aq_at (by omega) (by omega)) (thr_at h.2.1 (aq_at (by omega) (by omega))) (by rw [aq_at (by omega) (by omega)]; exact h.2.2.2.1) (by rw [aq_at (by omega) (by omega)]; exact h.2.2.2.2.2.1) (by rw [aq_at (by omega) (by omega)]; exact h.2.2.2.2.2.2.1)
  · rw [aq_12, s1]; exact nI_1 n
  · rw [aq_at (by omega) (by omega)]; exact s3
  · rw [aq_at (by omega) (by omega)]; exact s4
  · rw [aq_at (by omega) (by omega)]; exact s5
  · rw [aq_at (by omega) (by omega)]; exact s6
  · rw [aq_at (by omega) (by omega)]; exact s7
  · by_cases c : q = n
    · rw [show 57 + 6 * q = 55 + 6 * n + 2 by omega, aq_r (by omega)]; exact hz
    · rw [aq_at (by omega) (by omega)]; exact (s8 q (by omega)).1
  · by_cases c : q = n
    · rw [show 58 + 6 * q = 55 + 6 * n + 3 by omega, aq_r (by omega)]; exact ⟨0, rfl, by omega⟩
    · rw [aq_at (by omega) (by omega)]; exact (s8 q (by omega)).2
end AP
/-- six numbers of a path written into the reference's row -/
def pW6 (q : Nat) (w : Nat → Int32) (g : Nat → Nat → Int32) : Nat → Nat → Int32 := ug (ug (ug (ug (ug (ug g 1 (55 + 6 * q + 0) (w 0)) 1 (55 + 6 * q + 1) (w 1)) 1 (55 + 6 * q + 2) (w 2)) 1 (55 + 6 * q + 3) (w 3)) 1 (55 + 6 * q + 4) (w 4)) 1 (55 + 6 * q + 5) (w 5)
section PW
variable {q : Nat} {w : Nat → Int32} {g : Nat → Nat → Int32}
theorem pW_ne {a k : Nat} (h : ¬ (a = 1 ∧ 55 + 6 * q ≤ k ∧ k < 61 + 6 * q)) : pW6 q w g a k = g a k := by
  unfold pW6
  rw [ug_ne (by omega), ug_ne (by omega), ug_ne (by omega), ug_ne (by omega), ug_ne (by omega), ug_ne (by omega)]
theorem pW_r {i : Nat} (h : i < 6) : pW6 q w g 1 (55 + 6 * q + i) = w i := by
  rcases (show i = 0 ∨ i = 1 ∨ i = 2 ∨ i = 3 ∨ i = 4 ∨ i = 5 by omega) with rfl | rfl | rfl | rfl | rfl | rfl
  · unfold pW6
    rw [ug_ne (by omega), ug_ne (by omega), ug_ne (by omega), ug_ne (by omega), ug_ne (by omega), ug_same]
  · unfold pW6
    rw [ug_ne (by omega), ug_ne (by omega), ug_ne (by omega), ug_ne (by omega), ug_same]
  · unfold pW6
    rw [ug_ne (by omega), ug_ne (by omega), ug_ne (by omega), ug_same]
  · unfold pW6
    rw [ug_ne (by omega), ug_ne (by omega), ug_same]
  · unfold pW6
    rw [ug_ne (by omega), ug_same]
  · unfold pW6
    rw [ug_same]
end PW
section PT
variable {d : Int32} {c r : Nat → Nat → Int32}
/-- a path more in both -/
theorem TR_app {q : Nat} {x y z u v : Int32} {w : Nat → Int32} (h : TR d c r) (hq : r 0 11 = nI q) (hq8 : q < 8) (hz : 0 ≤ z ∧ z ≤ 300) (hw : ∀ i, i < 6 → w i = apW x y z u v i) : TR d (appG q x y z u v c) (if d = 0 then ug (ug r 0 11 (r 0 11 + 1)) 1 12 (r 1 12) else ug (ug (pW6 q w r) 0 11 (r 0 11 + 1)) 1 12 (r 0 11 + 1)) := by
  have h' := h
  obtain ⟨-, -, -, -, -, n, S, h6, h7, h8, h9⟩ := h
  have hn8 := inv_n8 h6
  have en : n = q := nIij (by omega) (by omega) (h7.symm.trans hq)
  subst en
  have hf : frsh (appG n x y z u v c) := by
    obtain ⟨f1, f2, f3, f4, f5⟩ := h9
    exact ⟨(aq_at (by omega) (by omega)).trans f1, (aq_at (by omega) (by omega)).trans f2, (aq_at (by omega) (by omega)).trans f3, fun k a b => (aq_at (by omega) (by omega)).trans (f4 k a b), fun k a b => (aq_at (by omega) (by omega)).trans (f5 k a b)⟩
  have e11 : r 0 11 + 1 = nI (n + 1) := by rw [h7]; exact nI_1 n
  refine TR_row h' (fun a k ha => aq_o ha) (fun a k ha h11 => ?_) (inv_app2 hq8 h6 (nI_rg rfl hz)) ?_ (fun hd => le_fr hf (fun k hk => ?_)) hf
  · split
    · rw [ug_ne (by omega), ug_ne (by omega)]
    · rw [ug_ne (by omega), ug_ne (by omega), pW_ne (by omega)]
  · split
    · rw [ug_ne (by omega), ug_same]; exact e11
    · rw [ug_ne (by omega), ug_same]; exact e11
  · rw [if_neg hd]
    by_cases c1 : k = 12
    · rw [c1, ug_same, aq_12, e11, (inv_st h6).1]; exact (nI_1 n).symm
    · rw [ug_ne (by omega), ug_ne (by omega)]
      by_cases c2 : 55 + 6 * n ≤ k
      · rw [show k = 55 + 6 * n + (k - (55 + 6 * n)) by omega, pW_r (by omega), aq_r (by omega)]
        exact hw _ (by omega)
      · rw [pW_ne (by omega), aq_at c1 (by omega)]
        exact (h8 hd).1 k (by omega)
def R5 (g : Nat → Nat → Int32) : Nat → Nat → Int32 := ug (ug (ug (ug (ct_readsPath_v4 g) 8 2 ((ct_readsPath_v4 g) 0 16)) 8 3 (0)) 8 4 (0)) 8 5 (0)
def R6 (g : Nat → Nat → Int32) : Nat → Nat → Int32 := ug (ct_readsPath_v13 g) 8 5 ((ct_readsPath_v13 g) 0 16)
theorem R5_8 {g : Nat → Nat → Int32} : R5 g 8 0 = ct_readsPath_v4 g 8 0 ∧ R5 g 8 1 = ct_readsPath_v4 g 8 1 ∧ R5 g 8 2 = ct_readsPath_v4 g 0 16 ∧ R5 g 8 3 = 0 ∧ R5 g 8 4 = 0 ∧ R5 g 8 5 = 0 := by
  unfold R5
  refine ⟨?_, ?_, ?_, ?_, ?_, ?_⟩
  · rw [ug_ne (by omega), ug_ne (by omega), ug_ne (by omega), ug_ne (by omega)]
  · rw [ug_ne (by omega), ug_ne (by omega), ug_ne (by omega), ug_ne (by omega)]
  · rw [ug_ne (by omega), ug_ne (by omega), ug_ne (by omega), ug_same]
  · rw [ug_ne (by omega), ug_ne (by omega), ug_same]
  · rw [ug_ne (by omega), ug_same]
  · rw [ug_same]
theorem v10_eq {g : Nat → Nat → Int32} : ct_readsPath_v10 g = pW6 (cl (g 0 11)) (R5 g 8) (R5 g) := by
  have e0 : ct_readsPath_v5 g = ug (R5 g) 1 (55 + 6 * cl (g 0 11) + 0) (R5 g 8 0) := by unfold ct_readsPath_v5; rw [R5_8.1]; rfl
  have e1 : ct_readsPath_v6 g = ug (ct_readsPath_v5 g) 1 (55 + 6 * cl (g 0 11) + 1) (R5 g 8 1) := by unfold ct_readsPath_v6; rw [show ct_readsPath_v5 g 8 1 = R5 g 8 1 from by rw [e0, ug_ne (by omega)]]
  have e2 : ct_readsPath_v7 g = ug (ct_readsPath_v6 g) 1 (55 + 6 * cl (g 0 11) + 2) (R5 g 8 2) := by unfold ct_readsPath_v7; rw [show ct_readsPath_v6 g 8 2 = R5 g 8 2 from by rw [e1, e0, ug_ne (by omega), ug_ne (by omega)]]
  have e3 : ct_readsPath_v8 g = ug (ct_readsPath_v7 g) 1 (55 + 6 * cl (g 0 11) + 3) (R5 g 8 3) := by unfold ct_readsPath_v8; rw [show ct_readsPath_v7 g 8 3 = R5 g 8 3 from by rw [e2, e1, e0, ug_ne (by omega), ug_ne (by omega), ug_ne (by omega)]]
  have e4 : ct_readsPath_v9 g = ug (ct_readsPath_v8 g) 1 (55 + 6 * cl (g 0 11) + 4) (R5 g 8 4) := by unfold ct_readsPath_v9; rw [show ct_readsPath_v8 g 8 4 = R5 g 8 4 from by rw [e3, e2, e1, e0, ug_ne (by omega), ug_ne (by omega), ug_ne (by omega), ug_ne (by omega)]]
  have e5 : ct_readsPath_v10 g = ug (ct_readsPath_v9 g) 1 (55 + 6 * cl (g 0 11) + 5) (R5 g 8 5) := by unfold ct_readsPath_v10; rw [show ct_readsPath_v9 g 8 5 = R5 g 8 5 from by rw [e4, e3, e2, e1, e0, ug_ne (by omega), ug_ne (by omega), ug_ne (by omega), ug_ne (by omega), ug_ne (by omega)]]
  rw [e5, e4, e3, e2, e1, e0]
  rfl
theorem v19_eq {g : Nat → Nat → Int32} : ct_readsPath_v19 g = pW6 (cl (g 0 11)) (R6 g 8) (R6 g) := by
  have e9 : R6 g 8 0 = ct_readsPath_v13 g 8 0 := by unfold R6; rw [ug_ne (by omega)]
  have e0 : ct_readsPath_v14 g = ug (R6 g) 1 (55 + 6 * cl (g 0 11) + 0) (R6 g 8 0) := by unfold ct_readsPath_v14; rw [e9]; rfl
  have e1 : ct_readsPath_v15 g = ug (ct_readsPath_v14 g) 1 (55 + 6 * cl (g 0 11) + 1) (R6 g 8 1) := by unfold ct_readsPath_v15; rw [show ct_readsPath_v14 g 8 1 = R6 g 8 1 from by rw [e0, ug_ne (by omega)]]
  have e2 : ct_readsPath_v16 g = ug (ct_readsPath_v15 g) 1 (55 + 6 * cl (g 0 11) + 2) (R6 g 8 2) := by unfold ct_readsPath_v16; rw [show ct_readsPath_v15 g 8 2 = R6 g 8 2 from by rw [e1, e0, ug_ne (by omega), ug_ne (by omega)]]
  have e3 : ct_readsPath_v17 g = ug (ct_readsPath_v16 g) 1 (55 + 6 * cl (g 0 11) + 3) (R6 g 8 3) := by unfold ct_readsPath_v17; rw [show ct_readsPath_v16 g 8 3 = R6 g 8 3 from by rw [e2, e1, e0, ug_ne (by omega), ug_ne (by omega), ug_ne (by omega)]]
  have e4 : ct_readsPath_v18 g = ug (ct_readsPath_v17 g) 1 (55 + 6 * cl (g 0 11) + 4) (R6 g 8 4) := by unfold ct_readsPath_v18; rw [show ct_readsPath_v17 g 8 4 = R6 g 8 4 from by rw [e3, e2, e1, e0, ug_ne (by omega), ug_ne (by omega), ug_ne (by omega), ug_ne (by omega)]]
  have e5 : ct_readsPath_v19 g = ug (ct_readsPath_v18 g) 1 (55 + 6 * cl (g 0 11) + 5) (R6 g 8 5) := by unfold ct_readsPath_v19; rw [show ct_readsPath_v18 g 8 5 = R6 g 8 5 from by rw [e4, e3, e2, e1, e0, ug_ne (by omega), ug_ne (by omega), ug_ne (by omega), ug_ne (by omega), ug_ne (by omega)]]
  rw [e5, e4, e3, e2, e1, e0]
  rfl
theorem tvw_1 {lo hi sg : Int32} {g : Nat → Nat → Int32} {k : Nat} : tvw lo hi sg g 1 k = g 1 k := by
  unfold tvw tvW
  split
  · split
    · exact (ug_ne (by omega)).trans (ug_ne (by omega))
    · exact ug_ne (by omega)
  · rfl
theorem tp_20 {g : Nat → Nat → Int32} (h : ¬ sc_takePath_v3 g 0 20 = -100000) : sc_takePath_w g 0 20 = sc_takePath_v3 g 0 20 := by
  unfold sc_takePath_w sc_takePath_v5 sc_takePath_v4
  rw [if_pos (twr_id h), aq_o (by omega), tww_id h]
end PT
