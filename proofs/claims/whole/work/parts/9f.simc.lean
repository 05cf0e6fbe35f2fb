/-! THE TEXT ALIKE: items -/
theorem b2n {b : Bool} (h : b = true) : ¬ b2i b = 0 := by rw [h]; decide
theorem b2z {b : Bool} (h : b = false) : b2i b = 0 := by rw [h]; rfl
theorem le_fr {n : Nat} {c r : Nat → Nat → Int32} (hf : frsh c) (h : ∀ k, k < 55 + 6 * n → r 1 k = c 1 k) : leG n c r := by
  obtain ⟨f1, f2, f3, -⟩ := hf
  refine ⟨h, fun k h1 h2 => ?_, fun k h1 h2 => ?_⟩
  · rw [f2] at h2
    have h3 : k < 103 + 3 * 0 := h2
    omega
  · rw [f3] at h2
    have h3 : k < 112 + 3 * 0 := h2
    omega
theorem set0_at {c : Nat → Nat → Int32} {x y z : Int32} {k : Nat} (hf : frsh c) (h : k ≠ 15 ∧ k ≠ 16 ∧ k ≠ 17) : setG0 x y z c 1 k = c 1 k := by
  obtain ⟨f1, f2, f3, f4, f5⟩ := hf
  unfold setG0
  by_cases c0 : k = 0
  · rw [c0, ug_same, f1]
  rw [ug_ne (by omega)]
  by_cases c1 : k = 13
  · rw [c1, ug_same, f2]
  rw [ug_ne (by omega)]
  by_cases c2 : 39 ≤ k ∧ k < 55
  · rw [f5 k (by omega) (by omega)]
    exact if_pos (by omega)
  rw [fill_at (by omega)]
  by_cases c3 : 19 ≤ k ∧ k < 35
  · rw [f4 k (by omega) (by omega)]
    exact if_pos (by omega)
  rw [fill_at (by omega)]
  by_cases c4 : k = 18
  · rw [c4, ug_same, f4 18 (by omega) (by omega)]
  rw [ug_ne (by omega), ug_ne (by omega), ug_ne (by omega), ug_ne (by omega)]
theorem set1_at {c : Nat → Nat → Int32} {x y z : Int32} {k : Nat} (hf : frsh c) (h : k ≠ 35 ∧ k ≠ 36 ∧ k ≠ 37) : setG1 x y z c 1 k = c 1 k := by
  obtain ⟨f1, f2, f3, f4, f5⟩ := hf
  unfold setG1
  by_cases c0 : k = 0
  · rw [c0, ug_same, f1]
  rw [ug_ne (by omega)]
  by_cases c1 : k = 13
  · rw [c1, ug_same, f2]
  rw [ug_ne (by omega)]
  by_cases c3 : 19 ≤ k ∧ k < 35
  · rw [f4 k (by omega) (by omega)]
    exact if_pos (by omega)
  rw [fill_at (by omega)]
  by_cases c2 : 39 ≤ k ∧ k < 55
  · rw [f5 k (by omega) (by omega)]
    exact if_pos (by omega)
  rw [fill_at (by omega)]
  by_cases c4 : k = 38
  · rw [c4, ug_same, f5 38 (by omega) (by omega)]
  rw [ug_ne (by omega), ug_ne (by omega), ug_ne (by omega), ug_ne (by omega)]
theorem set0_v {c : Nat → Nat → Int32} {x y z : Int32} : setG0 x y z c 1 15 = x ∧ setG0 x y z c 1 16 = y ∧ setG0 x y z c 1 17 = z := ⟨rfl, rfl, rfl⟩
theorem set1_v {c : Nat → Nat → Int32} {x y z : Int32} : setG1 x y z c 1 35 = x ∧ setG1 x y z c 1 36 = y ∧ setG1 x y z c 1 37 = z := ⟨rfl, rfl, rfl⟩
theorem set_o {c : Nat → Nat → Int32} {x y z : Int32} {a k : Nat} (h : a ≠ 1) : setG0 x y z c a k = c a k ∧ setG1 x y z c a k = c a k := by
  have f : ∀ (g : Nat → Nat → Int32) lo, fillG g lo 16 (-100000) a k = g a k := fun g lo => if_neg (by omega)
  unfold setG0 setG1
  constructor
  · rw [ug_ne (by omega), ug_ne (by omega), f, f, ug_ne (by omega), ug_ne (by omega), ug_ne (by omega), ug_ne (by omega)]
  · rw [ug_ne (by omega), ug_ne (by omega), f, f, ug_ne (by omega), ug_ne (by omega), ug_ne (by omega), ug_ne (by omega)]
section IT
variable {d : Int32} {c r : Nat → Nat → Int32}
theorem rg2 {x : Int32} (h1 : 2 ≤ x) (h2 : x ≤ 16) : ∃ X, x = nI X ∧ 2 ≤ X ∧ X ≤ 16 := by
  obtain ⟨X, rfl, hX⟩ := nI_rg (N := 16) rfl ⟨Int32.le_trans (by decide) h1, h2⟩
  refine ⟨X, rfl, ?_, hX⟩
  rw [show (2 : Int32) = nI 2 from rfl, nI_leI (by omega) (by omega)] at h1
  exact h1
theorem TR_st0 {x y z : Int32} (h : TR d c r) (x1 : 2 ≤ x) (x2 : x ≤ 16) (z1 : 0 ≤ z) (z2 : z ≤ 100) : TR d (setG0 x y z c) (if d = 0 then r else ug (ug (ug r 1 15 x) 1 16 y) 1 17 z) := by
  have h' := h
  obtain ⟨-, -, -, -, -, n, S, h6, h7, h8, h9⟩ := h
  have hn8 := inv_n8 h6
  obtain ⟨X, rfl, hX⟩ := rg2 x1 x2
  obtain ⟨Z, rfl, hZ⟩ := nI_rg (N := 100) rfl ⟨z1, z2⟩
  have hf : frsh (setG0 (nI X) y (nI Z) c) := by
    obtain ⟨f1, f2, f3, f4, f5⟩ := h9
    exact ⟨(set0_at ⟨f1, f2, f3, f4, f5⟩ (by omega)).trans f1, (set0_at ⟨f1, f2, f3, f4, f5⟩ (by omega)).trans f2, (set0_at ⟨f1, f2, f3, f4, f5⟩ (by omega)).trans f3, fun k a b => (set0_at ⟨f1, f2, f3, f4, f5⟩ (by omega)).trans (f4 k a b), fun k a b => (set0_at ⟨f1, f2, f3, f4, f5⟩ (by omega)).trans (f5 k a b)⟩
  refine TR_row h' (fun a k ha => (set_o ha).1) (fun a k ha _ => ?_) (inv_st0 h6 hX hZ) ?_ (fun hd => le_fr hf (fun k hk => ?_)) hf
  · split
    · rfl
    · rw [ug_ne (by omega), ug_ne (by omega), ug_ne (by omega)]
  · split
    · exact h7
    · rw [ug_ne (by omega), ug_ne (by omega), ug_ne (by omega)]; exact h7
  · rw [if_neg hd]
    by_cases c1 : k = 15
    · rw [c1, ug_ne (by omega), ug_ne (by omega), ug_same]; rfl
    by_cases c2 : k = 16
    · rw [c2, ug_ne (by omega), ug_same]; rfl
    by_cases c3 : k = 17
    · rw [c3, ug_same]; rfl
    rw [ug_ne (by omega), ug_ne (by omega), ug_ne (by omega), set0_at h9 ⟨c1, c2, c3⟩]
    exact (h8 hd).1 k hk
theorem TR_st1 {x y z : Int32} (h : TR d c r) (x1 : 2 ≤ x) (x2 : x ≤ 16) (z1 : 0 ≤ z) (z2 : z ≤ 100) : TR d (setG1 x y z c) (if d = 0 then r else ug (ug (ug r 1 35 x) 1 36 y) 1 37 z) := by
  have h' := h
  obtain ⟨-, -, -, -, -, n, S, h6, h7, h8, h9⟩ := h
  have hn8 := inv_n8 h6
  obtain ⟨X, rfl, hX⟩ := rg2 x1 x2
  obtain ⟨Z, rfl, hZ⟩ := nI_rg (N := 100) rfl ⟨z1, z2⟩
  have hf : frsh (setG1 (nI X) y (nI Z) c) := by
    obtain ⟨f1, f2, f3, f4, f5⟩ := h9
    exact ⟨(set1_at ⟨f1, f2, f3, f4, f5⟩ (by omega)).trans f1, (set1_at ⟨f1, f2, f3, f4, f5⟩ (by omega)).trans f2, (set1_at ⟨f1, f2, f3, f4, f5⟩ (by omega)).trans f3, fun k a b => (set1_at ⟨f1, f2, f3, f4, f5⟩ (by omega)).trans (f4 k a b), fun k a b => (set1_at ⟨f1, f2, f3, f4, f5⟩ (by omega)).trans (f5 k a b)⟩
  refine TR_row h' (fun a k ha => (set_o ha).2) (fun a k ha _ => ?_) (inv_st1 h6 hX hZ) ?_ (fun hd => le_fr hf (fun k hk => ?_)) hf
  · split
    · rfl
    · rw [ug_ne (by omega), ug_ne (by omega), ug_ne (by omega)]
  · split
    · exact h7
    · rw [ug_ne (by omega), ug_ne (by omega), ug_ne (by omega)]; exact h7
  · rw [if_neg hd]
    by_cases c1 : k = 35
    · rw [c1, ug_ne (by omega), ug_ne (by omega), ug_same]; rfl
    by_cases c2 : k = 36
    · rw [c2, ug_ne (by omega), ug_same]; rfl
    by_cases c3 : k = 37
    · rw [c3, ug_same]; rfl
    rw [ug_ne (by omega), ug_ne (by omega), ug_ne (by omega), set1_at h9 ⟨c1, c2, c3⟩]
    exact (h8 hd).1 k hk
theorem ts_20 {g : Nat → Nat → Int32} : sc_takeStation_w g 0 20 = sc_takeStation_v4 g 0 20 := by
  unfold sc_takeStation_w sc_takeStation_v5 sc_takeStation_v6
  split
  · exact (set_o (by omega)).1
  · exact (set_o (by omega)).2
theorem it_station (h : TR d (nxW c) (nxW r)) : OUT d (ct_readsStation_r r) (sc_takeStation_w (nxW c)) (ct_readsStation_w r) := by
  rcases num (lo := 0) (hi := 1) (sg := 1) h with ⟨e1, t1, v1, b1, b1'⟩ | ⟨e1, f1⟩
  rotate_left
  · right
    refine ⟨by unfold ct_readsStation_r; exact if_pos (b2z e1), ?_⟩
    have eW : ct_readsStation_w r = ct_readsStation_v2 r := by unfold ct_readsStation_w; exact if_pos (b2z e1)
    rw [eW]
    have f1' : TF (sc_takeStation_v1 (nxW c)) (ct_readsStation_v2 r) := f1
    refine TF_20 (ts_20.trans ?_) f1'
    unfold sc_takeStation_v4 sc_takeStation_v3 sc_takeStation_v2
    rw [tvw_id f1'.2, tvw_id f1'.2, tvw_id f1'.2]
  have t1' : TR d (sc_takeStation_v1 (nxW c)) (ct_readsStation_v2 r) := t1
  clear t1
  rcases num (lo := 2) (hi := 16) (sg := 1) t1' with ⟨e2, t2, v2, b2, b2'⟩ | ⟨e2, f2⟩
  rotate_left
  · right
    refine ⟨by unfold ct_readsStation_r; exact (if_neg (b2n e1)).trans (if_pos (b2z e2)), ?_⟩
    have eW : ct_readsStation_w r = ct_readsStation_v3 r := by unfold ct_readsStation_w; exact (if_neg (b2n e1)).trans (if_pos (b2z e2))
    rw [eW]
    have f2' : TF (sc_takeStation_v2 (nxW c)) (ct_readsStation_v3 r) := f2
    refine TF_20 (ts_20.trans ?_) f2'
    unfold sc_takeStation_v4 sc_takeStation_v3
    rw [tvw_id f2'.2, tvw_id f2'.2]
  have t2' : TR d (sc_takeStation_v2 (nxW c)) (ct_readsStation_v3 r) := t2
  clear t2
  rcases num (lo := 0) (hi := 63) (sg := 1) t2' with ⟨e3, t3, v3, b3, b3'⟩ | ⟨e3, f3⟩
  rotate_left
  · right
    refine ⟨by unfold ct_readsStation_r; exact (if_neg (b2n e1)).trans ((if_neg (b2n e2)).trans (if_pos (b2z e3))), ?_⟩
    have eW : ct_readsStation_w r = ct_readsStation_v4 r := by unfold ct_readsStation_w; exact (if_neg (b2n e1)).trans ((if_neg (b2n e2)).trans (if_pos (b2z e3)))
    rw [eW]
    have f3' : TF (sc_takeStation_v3 (nxW c)) (ct_readsStation_v4 r) := f3
    refine TF_20 (ts_20.trans ?_) f3'
    unfold sc_takeStation_v4
    rw [tvw_id f3'.2]
  have t3' : TR d (sc_takeStation_v3 (nxW c)) (ct_readsStation_v4 r) := t3
  clear t3
  rcases num (lo := 0) (hi := 100) (sg := 1) t3' with ⟨e4, t4, v4, b4, b4'⟩ | ⟨e4, f4⟩
  rotate_left
  · right
    refine ⟨by unfold ct_readsStation_r; exact (if_neg (b2n e1)).trans ((if_neg (b2n e2)).trans ((if_neg (b2n e3)).trans (if_pos (b2z e4)))), ?_⟩
    have eW : ct_readsStation_w r = ct_readsStation_v5 r := by unfold ct_readsStation_w; exact (if_neg (b2n e1)).trans ((if_neg (b2n e2)).trans ((if_neg (b2n e3)).trans (if_pos (b2z e4))))
    rw [eW]
    have f4' : TF (sc_takeStation_v4 (nxW c)) (ct_readsStation_v5 r) := f4
    exact TF_20 ts_20 f4'
  left
  have e5 : ct_readsStation_r r = 1 := by unfold ct_readsStation_r; exact (if_neg (b2n e1)).trans ((if_neg (b2n e2)).trans ((if_neg (b2n e3)).trans (if_neg (b2n e4))))
  refine ⟨by rw [e5]; decide, ?_⟩
  have eW : ct_readsStation_w r = if ct_readsStation_v5 r 0 12 = 0 then ct_readsStation_v5 r else ct_readsStation_v8 r := by unfold ct_readsStation_w; exact (if_neg (b2n e1)).trans ((if_neg (b2n e2)).trans ((if_neg (b2n e3)).trans (if_neg (b2n e4))))
  have t4' : TR d (sc_takeStation_v4 (nxW c)) (ct_readsStation_v5 r) := t4
  clear t4
  have e12 : ct_readsStation_v5 r 0 12 = d := t4'.2.2.2.2.1
  have w1 : ct_readsStation_v2 r 0 16 = tvr 0 1 1 (nxW c) := v1
  have w2 : ct_readsStation_v3 r 0 16 = tvr 2 16 1 (sc_takeStation_v1 (nxW c)) := v2
  have w3 : ct_readsStation_v4 r 0 16 = tvr 0 63 1 (sc_takeStation_v2 (nxW c)) := v3
  have w5 : ct_readsStation_v5 r 0 16 = tvr 0 100 1 (sc_takeStation_v3 (nxW c)) := v4
  have w4 : ct_readsStation_v7 r 0 16 = tvr 0 100 1 (sc_takeStation_v3 (nxW c)) := by
    unfold ct_readsStation_v7 ct_readsStation_v6
    rw [ug_ne (by omega), ug_ne (by omega)]
    exact w5
  rw [eW, e12]
  obtain ⟨V5, hV5⟩ : ∃ V, V = ct_readsStation_v5 r := ⟨_, rfl⟩
  obtain ⟨C4, hC4⟩ : ∃ V, V = sc_takeStation_v4 (nxW c) := ⟨_, rfl⟩
  obtain ⟨X, hX⟩ : ∃ V, V = tvr 2 16 1 (sc_takeStation_v1 (nxW c)) := ⟨_, rfl⟩
  obtain ⟨Y, hY⟩ : ∃ V, V = tvr 0 63 1 (sc_takeStation_v2 (nxW c)) := ⟨_, rfl⟩
  obtain ⟨Z, hZ⟩ : ∃ V, V = tvr 0 100 1 (sc_takeStation_v3 (nxW c)) := ⟨_, rfl⟩
  rw [← hV5, ← hC4] at t4'
  rw [← hX] at b2 b2' w2
  rw [← hZ] at b4 b4' w4
  rw [← hY] at w3
  have e8 : ct_readsStation_v8 r = ug (ug (ug V5 1 (15 + 20 * cl (tvr 0 1 1 (nxW c)) + 0) X) 1 (15 + 20 * cl (tvr 0 1 1 (nxW c)) + 1) Y) 1 (15 + 20 * cl (tvr 0 1 1 (nxW c)) + 2) Z := by
    unfold ct_readsStation_v8
    rw [w4]
    unfold ct_readsStation_v7 ct_readsStation_v6
    rw [w1, w2, w3, hV5]
  rw [← hV5, e8]
  rcases st2 ⟨b1, b1'⟩ with z | z
  · have q := TR_st0 (y := Y) t4' b2 b2' b4 b4'
    have eC : sc_takeStation_w (nxW c) = setG0 X Y Z C4 := by
      unfold sc_takeStation_w
      rw [if_pos z]
      unfold sc_takeStation_v5
      rw [hX, hY, hZ, hC4]
    rw [eC, z, show 15 + 20 * cl (0 : Int32) + 0 = 15 from rfl, show 15 + 20 * cl (0 : Int32) + 1 = 16 from rfl, show 15 + 20 * cl (0 : Int32) + 2 = 17 from rfl]
    exact q
  · have q := TR_st1 (y := Y) t4' b2 b2' b4 b4'
    have eC : sc_takeStation_w (nxW c) = setG1 X Y Z C4 := by
      unfold sc_takeStation_w
      rw [if_neg (by rw [z]; decide)]
      unfold sc_takeStation_v6
      rw [hX, hY, hZ, hC4]
    rw [eC, z, show 15 + 20 * cl (1 : Int32) + 0 = 35 from rfl, show 15 + 20 * cl (1 : Int32) + 1 = 36 from rfl, show 15 + 20 * cl (1 : Int32) + 2 = 37 from rfl]
    exact q
end IT
