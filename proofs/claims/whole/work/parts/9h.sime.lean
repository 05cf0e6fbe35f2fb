section PP
variable {d : Int32} {c r : Nat → Nat → Int32}
theorem it_path {q : Nat} (h : TR d c r) (hq : r 0 11 = nI q) (hq8 : q < 8) : OUT d (ct_readsPath_r r) (sc_takePath_w (nxW c)) (ct_readsPath_w r) := by
  have e8 : ¬ r 0 11 = 8 := by
    rw [hq]
    exact fun z => absurd (nIij (b := 8) (by omega) (by omega) z) (by omega)
  have h0 : TR d (nxW c) (ct_readsPath_v1 r) := TR_nx h
  have hC : nxW c 1 12 = nI q := by
    obtain ⟨-, -, -, -, -, n, S, h6, h7, -⟩ := h
    have en : n = q := nIij (by have := inv_n8 h6; omega) (by omega) (h7.symm.trans hq)
    rw [← en]
    exact (show nxW c 1 12 = c 1 12 from kq_nx 1 12 (by omega)).trans (inv_st h6).1
  have hcl : cl (nxW c 1 12) = q := by rw [hC]; exact nI_clamp (by omega)
  obtain ⟨C, eC⟩ : ∃ C, C = nxW c := ⟨_, rfl⟩
  rw [← eC] at h0 hcl
  rw [← eC]
  have q1 : ct_readsPath_v1 r 0 11 = nI q := (kq_nx 0 11 (by omega)).trans hq
  rcases num (lo := 0) (hi := 63) (sg := 1) h0 with ⟨e1, t1, w1, -, -⟩ | ⟨e1, f1⟩
  rotate_left
  · right
    have eW : ct_readsPath_w r = ct_readsPath_v2 r := by unfold ct_readsPath_w; exact (if_neg e8).trans (if_pos (b2z e1))
    have f1' : TF (sc_takePath_v1 C) (ct_readsPath_v2 r) := f1
    clear f1
    have e3 : sc_takePath_v3 C = sc_takePath_v1 C := by unfold sc_takePath_v3 sc_takePath_v2; rw [tvw_id f1'.2, tvw_id f1'.2]
    refine ⟨by unfold ct_readsPath_r; exact (if_neg e8).trans (if_pos (b2z e1)), ?_⟩
    rw [eW]
    exact TF_20 ((tp_20 (by rw [e3]; exact f1'.2)).trans (by rw [e3])) f1'
  have t1' : TR d (sc_takePath_v1 C) (ct_readsPath_v2 r) := t1
  have w1' : ct_readsPath_v2 r 0 16 = tvr 0 63 1 C := w1
  have q2 : ct_readsPath_v2 r 0 11 = nI q := (show ct_readsPath_v2 r 0 11 = ct_readsPath_v1 r 0 11 from kq_rd 0 11 (by omega)).trans q1
  clear t1 w1
  rcases num (lo := 0) (hi := 63) (sg := 1) (TR_8 (k := 0) (x := (ct_readsPath_v2 r) 0 16) t1') with ⟨e2, t2, w2, -, -⟩ | ⟨e2, f2⟩
  rotate_left
  · right
    have eW : ct_readsPath_w r = ct_readsPath_v3 r := by unfold ct_readsPath_w; exact (if_neg e8).trans ((if_neg (b2n e1)).trans (if_pos (b2z e2)))
    have f2' : TF (sc_takePath_v2 C) (ct_readsPath_v3 r) := f2
    clear f2
    have e3 : sc_takePath_v3 C = sc_takePath_v2 C := by unfold sc_takePath_v3; rw [tvw_id f2'.2]
    refine ⟨by unfold ct_readsPath_r; exact (if_neg e8).trans ((if_neg (b2n e1)).trans (if_pos (b2z e2))), ?_⟩
    rw [eW]
    exact TF_20 ((tp_20 (by rw [e3]; exact f2'.2)).trans (by rw [e3])) f2'
  have t2' : TR d (sc_takePath_v2 C) (ct_readsPath_v3 r) := t2
  have w2' : ct_readsPath_v3 r 0 16 = tvr 0 63 1 (sc_takePath_v1 C) := w2
  have a3 : ct_readsPath_v3 r 8 0 = ct_readsPath_v2 r 0 16 := (show ct_readsPath_v3 r 8 0 = (ug (ct_readsPath_v2 r) 8 0 ((ct_readsPath_v2 r) 0 16)) 8 0 from kq_rd 8 0 (by omega)).trans ug_same
  have q3 : ct_readsPath_v3 r 0 11 = nI q := (show ct_readsPath_v3 r 0 11 = (ug (ct_readsPath_v2 r) 8 0 ((ct_readsPath_v2 r) 0 16)) 0 11 from kq_rd 0 11 (by omega)).trans ((ug_ne (by omega)).trans q2)
  clear t2 w2
  rcases num (lo := 0) (hi := 300) (sg := 1) (TR_8 (k := 1) (x := (ct_readsPath_v3 r) 0 16) t2') with ⟨e3, t3, w3, b3, b3'⟩ | ⟨e3, f3⟩
  rotate_left
  · right
    have eW : ct_readsPath_w r = ct_readsPath_v4 r := by unfold ct_readsPath_w; exact (if_neg e8).trans ((if_neg (b2n e1)).trans ((if_neg (b2n e2)).trans (if_pos (b2z e3))))
    have f3' : TF (sc_takePath_v3 C) (ct_readsPath_v4 r) := f3
    clear f3
    refine ⟨by unfold ct_readsPath_r; exact (if_neg e8).trans ((if_neg (b2n e1)).trans ((if_neg (b2n e2)).trans (if_pos (b2z e3)))), ?_⟩
    rw [eW]
    exact TF_20 (tp_20 f3'.2) f3'
  have t3' : TR d (sc_takePath_v3 C) (ct_readsPath_v4 r) := t3
  have w3' : ct_readsPath_v4 r 0 16 = tvr 0 300 1 (sc_takePath_v2 C) := w3
  have a40 : ct_readsPath_v4 r 8 0 = ct_readsPath_v2 r 0 16 := (show ct_readsPath_v4 r 8 0 = (ug (ct_readsPath_v3 r) 8 1 ((ct_readsPath_v3 r) 0 16)) 8 0 from kq_rd 8 0 (by omega)).trans ((ug_ne (by omega)).trans a3)
  have a41 : ct_readsPath_v4 r 8 1 = ct_readsPath_v3 r 0 16 := (show ct_readsPath_v4 r 8 1 = (ug (ct_readsPath_v3 r) 8 1 ((ct_readsPath_v3 r) 0 16)) 8 1 from kq_rd 8 1 (by omega)).trans ug_same
  have q4 : ct_readsPath_v4 r 0 11 = nI q := (show ct_readsPath_v4 r 0 11 = (ug (ct_readsPath_v3 r) 8 1 ((ct_readsPath_v3 r) 0 16)) 0 11 from kq_rd 0 11 (by omega)).trans ((ug_ne (by omega)).trans q3)
  clear t3 w3
  have t5 : TR d (sc_takePath_v3 C) (R5 r) := TR_8 (TR_8 (TR_8 (TR_8 t3')))
  have iw : iwB 2 (R5 r) = iwS 5 (sc_takePath_v3 C) := iw_eq pr_25 t5
  have clr : cl (r 0 11) = q := by rw [hq]; exact nI_clamp (by omega)
  obtain ⟨p0, p1, p2, p3, p4, p5⟩ := R5_8 (g := r)
  have r11 : R5 r 0 11 = ct_readsPath_v4 r 0 11 := by unfold R5; rw [ug_ne (by omega), ug_ne (by omega), ug_ne (by omega), ug_ne (by omega)]
  have r12 : R5 r 1 12 = ct_readsPath_v4 r 1 12 := by unfold R5; rw [ug_ne (by omega), ug_ne (by omega), ug_ne (by omega), ug_ne (by omega)]
  have d4 : ct_readsPath_v4 r 0 12 = d := t3'.2.2.2.2.1
  obtain ⟨X, eX⟩ : ∃ X, X = tvr 0 63 1 C := ⟨_, rfl⟩
  obtain ⟨Y, eY⟩ : ∃ X, X = tvr 0 63 1 (sc_takePath_v1 C) := ⟨_, rfl⟩
  obtain ⟨Z, eZ⟩ : ∃ X, X = tvr 0 300 1 (sc_takePath_v2 C) := ⟨_, rfl⟩
  rw [← eX] at w1'
  rw [← eY] at w2'
  rw [← eZ] at w3' b3 b3'
  by_cases cd : iwS 5 (sc_takePath_v3 C) = true
  rotate_left
  · -- no drift
    have cd2 : iwS 5 (sc_takePath_v3 C) = false := by
      cases z : iwS 5 (sc_takePath_v3 C)
      · rfl
      · exact absurd z cd
    have e5 : iwB 2 (R5 r) = false := iw.trans cd2
    left
    have er : ct_readsPath_r r = 1 := by unfold ct_readsPath_r; exact (if_neg e8).trans ((if_neg (b2n e1)).trans ((if_neg (b2n e2)).trans ((if_neg (b2n e3)).trans (if_pos (b2z e5)))))
    have eW : ct_readsPath_w r = if ct_readsPath_v4 r 0 12 = 0 then ug (ug (R5 r) 0 11 (ct_readsPath_v4 r 0 11 + 1)) 1 12 (ct_readsPath_v4 r 1 12) else ug (ug (ct_readsPath_v10 r) 0 11 (ct_readsPath_v10 r 0 11 + 1)) 1 12 (ct_readsPath_v10 r 0 11 + 1) := by unfold ct_readsPath_w; exact (if_neg e8).trans ((if_neg (b2n e1)).trans ((if_neg (b2n e2)).trans ((if_neg (b2n e3)).trans (if_pos (b2z e5)))))
    have eT : sc_takePath_w C = appG q X Y Z 0 0 (sc_takePath_v3 C) := by
      unfold sc_takePath_w
      rw [if_pos (show sc_takeWord_r 5 (sc_takePath_v3 C) = 0 by rw [show (sc_takeWord_r 5 (sc_takePath_v3 C) = 0) = (iwS 5 (sc_takePath_v3 C) = false) from twr_0 t5]; exact cd2)]
      unfold sc_takePath_v5
      rw [show sc_takePath_v4 C = sc_takePath_v3 C from tww_f t5 cd2, hcl, ← eX, ← eY, ← eZ]
    refine ⟨by rw [er]; decide, ?_⟩
    have k := TR_app (q := q) (x := X) (y := Y) (z := Z) (u := 0) (v := 0) (w := R5 r 8) t5 (r11.trans q4) hq8 ⟨b3, b3'⟩ (fun i hi => by
      rcases (show i = 0 ∨ i = 1 ∨ i = 2 ∨ i = 3 ∨ i = 4 ∨ i = 5 by omega) with rfl | rfl | rfl | rfl | rfl | rfl
      · rw [p0, a40, w1']; rfl
      · rw [p1, a41, w2']; rfl
      · rw [p2, w3']; rfl
      · rw [p3]; rfl
      · rw [p4]; rfl
      · rw [p5]; rfl)
    rw [eW, eT, d4, v10_eq, clr, pW_ne (a := 0) (k := 11) (by omega), ← r11, ← r12]
    exact k
  · have e5 : iwB 2 (R5 r) = true := iw.trans cd
    have t11 : TR d (nxW (sc_takePath_v3 C)) (ct_readsPath_v11 r) := TR_nx t5
    have e4 : sc_takePath_v4 C = nxW (sc_takePath_v3 C) := tww_t t5 cd
    rw [← e4] at t11
    have ew : ¬ sc_takeWord_r 5 (sc_takePath_v3 C) = 0 := by
      rw [show (sc_takeWord_r 5 (sc_takePath_v3 C) = 0) = (iwS 5 (sc_takePath_v3 C) = false) from twr_0 t5, cd]
      decide
    have eT : sc_takePath_w C = appG q X Y Z (sc_takeSigned_r (-3) (3) (sc_takePath_v4 C)) (sc_takeSigned_r (-3) (3) (sc_takePath_v6 C)) (sc_takePath_v7 C) := by
      unfold sc_takePath_w
      rw [if_neg ew]
      unfold sc_takePath_v8
      rw [hcl, ← eX, ← eY, ← eZ]
    have q11 : ct_readsPath_v11 r 0 11 = nI q := (show ct_readsPath_v11 r 0 11 = R5 r 0 11 from kq_nx 0 11 (by omega)).trans (r11.trans q4)
    rcases snum (lo := -3) (hi := 3) t11 with ⟨e6, t6, w6, -, -⟩ | ⟨e6, f6⟩
    rotate_left
    · right
      have eW : ct_readsPath_w r = ct_readsPath_v12 r := by unfold ct_readsPath_w; exact (if_neg e8).trans ((if_neg (b2n e1)).trans ((if_neg (b2n e2)).trans ((if_neg (b2n e3)).trans ((if_neg (b2n e5)).trans (if_pos (b2z e6))))))
      have f6' : TF (sc_takePath_v6 C) (ct_readsPath_v12 r) := f6
      clear f6
      refine ⟨by unfold ct_readsPath_r; exact (if_neg e8).trans ((if_neg (b2n e1)).trans ((if_neg (b2n e2)).trans ((if_neg (b2n e3)).trans ((if_neg (b2n e5)).trans (if_pos (b2z e6)))))), ?_⟩
      rw [eW, eT]
      refine TF_20 ((aq_o (by omega)).trans ?_) f6'
      unfold sc_takePath_v7
      rw [tsw_id f6'.2]
    have t6' : TR d (sc_takePath_v6 C) (ct_readsPath_v12 r) := t6
    have w6' : ct_readsPath_v12 r 0 16 = sc_takeSigned_r (-3) (3) (sc_takePath_v4 C) := w6
    have x12 : ∀ k, ct_readsPath_v12 r 8 k = R5 r 8 k := fun k => (show ct_readsPath_v12 r 8 k = ct_readsPath_v11 r 8 k from kq_rs 8 k (by omega)).trans (show ct_readsPath_v11 r 8 k = R5 r 8 k from kq_nx 8 k (by omega))
    have q12 : ct_readsPath_v12 r 0 11 = nI q := (show ct_readsPath_v12 r 0 11 = ct_readsPath_v11 r 0 11 from kq_rs 0 11 (by omega)).trans q11
    clear t6 w6
    rcases snum (lo := -3) (hi := 3) (TR_8 (k := 4) (x := (ct_readsPath_v12 r) 0 16) t6') with ⟨e7, t7, w7, -, -⟩ | ⟨e7, f7⟩
    rotate_left
    · right
      have eW : ct_readsPath_w r = ct_readsPath_v13 r := by unfold ct_readsPath_w; exact (if_neg e8).trans ((if_neg (b2n e1)).trans ((if_neg (b2n e2)).trans ((if_neg (b2n e3)).trans ((if_neg (b2n e5)).trans ((if_neg (b2n e6)).trans (if_pos (b2z e7)))))))
      have f7' : TF (sc_takePath_v7 C) (ct_readsPath_v13 r) := f7
      clear f7
      refine ⟨by unfold ct_readsPath_r; exact (if_neg e8).trans ((if_neg (b2n e1)).trans ((if_neg (b2n e2)).trans ((if_neg (b2n e3)).trans ((if_neg (b2n e5)).trans ((if_neg (b2n e6)).trans (if_pos (b2z e7))))))), ?_⟩
      rw [eW, eT]
      exact TF_20 (aq_o (by omega)) f7'
    have t7' : TR d (sc_takePath_v7 C) (ct_readsPath_v13 r) := t7
    have w7' : ct_readsPath_v13 r 0 16 = sc_takeSigned_r (-3) (3) (sc_takePath_v6 C) := w7
    have x13 : ∀ k, ct_readsPath_v13 r 8 k = (ug (ct_readsPath_v12 r) 8 4 ((ct_readsPath_v12 r) 0 16)) 8 k := fun k => kq_rs 8 k (by omega)
    have q13 : ct_readsPath_v13 r 0 11 = nI q := (show ct_readsPath_v13 r 0 11 = (ug (ct_readsPath_v12 r) 8 4 ((ct_readsPath_v12 r) 0 16)) 0 11 from kq_rs 0 11 (by omega)).trans ((ug_ne (by omega)).trans q12)
    clear t7 w7
    have t9 : TR d (sc_takePath_v7 C) (R6 r) := TR_8 t7'
    have s11 : R6 r 0 11 = ct_readsPath_v13 r 0 11 := by unfold R6; rw [ug_ne (by omega)]
    have s12 : R6 r 1 12 = ct_readsPath_v13 r 1 12 := by unfold R6; rw [ug_ne (by omega)]
    have d13 : ct_readsPath_v13 r 0 12 = d := t7'.2.2.2.2.1
    left
    have er : ct_readsPath_r r = 1 := by unfold ct_readsPath_r; exact (if_neg e8).trans ((if_neg (b2n e1)).trans ((if_neg (b2n e2)).trans ((if_neg (b2n e3)).trans ((if_neg (b2n e5)).trans ((if_neg (b2n e6)).trans (if_neg (b2n e7)))))))
    have eW : ct_readsPath_w r = if ct_readsPath_v13 r 0 12 = 0 then ug (ug (R6 r) 0 11 (ct_readsPath_v13 r 0 11 + 1)) 1 12 (ct_readsPath_v13 r 1 12) else ug (ug (ct_readsPath_v19 r) 0 11 (ct_readsPath_v19 r 0 11 + 1)) 1 12 (ct_readsPath_v19 r 0 11 + 1) := by unfold ct_readsPath_w; exact (if_neg e8).trans ((if_neg (b2n e1)).trans ((if_neg (b2n e2)).trans ((if_neg (b2n e3)).trans ((if_neg (b2n e5)).trans ((if_neg (b2n e6)).trans (if_neg (b2n e7)))))))
    refine ⟨by rw [er]; decide, ?_⟩
    have y6 : ∀ k, k ≠ 5 → R6 r 8 k = ct_readsPath_v13 r 8 k := fun k hk => by unfold R6; rw [ug_ne (by omega)]
    have y5 : R6 r 8 5 = ct_readsPath_v13 r 0 16 := by unfold R6; rw [ug_same]
    obtain ⟨U, eU⟩ : ∃ U, U = sc_takeSigned_r (-3) (3) (sc_takePath_v4 C) := ⟨_, rfl⟩
    obtain ⟨V, eV⟩ : ∃ V, V = sc_takeSigned_r (-3) (3) (sc_takePath_v6 C) := ⟨_, rfl⟩
    rw [← eU] at w6'
    rw [← eV] at w7'
    rw [← eU, ← eV] at eT
    have kk := TR_app (q := q) (x := X) (y := Y) (z := Z) (u := U) (v := V) (w := R6 r 8) t9 (s11.trans q13) hq8 ⟨b3, b3'⟩ (fun i hi => by
      rcases (show i = 0 ∨ i = 1 ∨ i = 2 ∨ i = 3 ∨ i = 4 ∨ i = 5 by omega) with rfl | rfl | rfl | rfl | rfl | rfl
      · rw [y6 0 (by omega), x13, ug_ne (by omega), x12, p0, a40, w1']; rfl
      · rw [y6 1 (by omega), x13, ug_ne (by omega), x12, p1, a41, w2']; rfl
      · rw [y6 2 (by omega), x13, ug_ne (by omega), x12, p2, w3']; rfl
      · rw [y6 3 (by omega), x13, ug_ne (by omega), x12, p3]; rfl
      · rw [y6 4 (by omega), x13, ug_same, w6']; rfl
      · rw [y5, w7']; rfl)
    rw [eW, eT, d13, v19_eq, clr, pW_ne (a := 0) (k := 11) (by omega), ← s11, ← s12]
    exact kk
end PP
