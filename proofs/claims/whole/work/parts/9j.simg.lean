/-! THE TEXT ALIKE: what reading keeps -/
def KP (d : Int32) (r r' : Nat → Nat → Int32) : Prop := ∀ k, (d = 0 ∨ 172 ≤ k) → r' 1 k = r 1 k
theorem KP_rf (d : Int32) (r : Nat → Nat → Int32) : KP d r r := fun _ _ => rfl
theorem KP_tr {d : Int32} {a b e : Nat → Nat → Int32} (h : KP d a b) (h2 : KP d b e) : KP d a e := fun k hk => (h2 k hk).trans (h k hk)
theorem KP_of {d : Int32} {a b : Nat → Nat → Int32} (h : ∀ k, b 1 k = a 1 k) : KP d a b := fun k _ => h k
section KQ
variable {d : Int32} {c r : Nat → Nat → Int32}
theorem rd_1 {lo hi sg : Int32} {g : Nat → Nat → Int32} (k : Nat) : rdw lo hi sg g 1 k = g 1 k := kq_rd 1 k (by omega)
theorem kp_station (hd : r 0 12 = d) : KP d r (ct_readsStation_w r) := by
  have v1 : ∀ k, ct_readsStation_v1 r 1 k = r 1 k := fun k => kq_nx 1 k (by omega)
  have v2 : ∀ k, ct_readsStation_v2 r 1 k = r 1 k := fun k => (show ct_readsStation_v2 r 1 k = ct_readsStation_v1 r 1 k from rd_1 k).trans (v1 k)
  have v3 : ∀ k, ct_readsStation_v3 r 1 k = r 1 k := fun k => (show ct_readsStation_v3 r 1 k = ct_readsStation_v2 r 1 k from rd_1 k).trans (v2 k)
  have v4 : ∀ k, ct_readsStation_v4 r 1 k = r 1 k := fun k => (show ct_readsStation_v4 r 1 k = ct_readsStation_v3 r 1 k from rd_1 k).trans (v3 k)
  have v5 : ∀ k, ct_readsStation_v5 r 1 k = r 1 k := fun k => (show ct_readsStation_v5 r 1 k = ct_readsStation_v4 r 1 k from rd_1 k).trans (v4 k)
  have d5 : ct_readsStation_v5 r 0 12 = d := (show ct_readsStation_v5 r 0 12 = ct_readsStation_v4 r 0 12 from kq_rd 0 12 (by omega)).trans ((show ct_readsStation_v4 r 0 12 = ct_readsStation_v3 r 0 12 from kq_rd 0 12 (by omega)).trans ((show ct_readsStation_v3 r 0 12 = ct_readsStation_v2 r 0 12 from kq_rd 0 12 (by omega)).trans ((show ct_readsStation_v2 r 0 12 = ct_readsStation_v1 r 0 12 from kq_rd 0 12 (by omega)).trans ((show ct_readsStation_v1 r 0 12 = r 0 12 from kq_nx 0 12 (by omega)).trans hd))))
  unfold ct_readsStation_w
  by_cases c1 : b2i (rdb 0 1 1 (ct_readsStation_v1 r)) = 0
  · rw [if_pos c1]; exact KP_of v2
  rw [if_neg c1]
  have hc := (cn_st (g := ct_readsStation_v1 r) (g' := ct_readsStation_v2 r) rfl c1).2
  split
  · exact KP_of v3
  split
  · exact KP_of v4
  split
  · exact KP_of v5
  split
  · exact KP_of v5
  · next c9 =>
    intro k hk
    rcases hk with z | z
    · exact absurd (d5.trans z) c9
    · unfold ct_readsStation_v8
      rw [ug_ne (by omega)]
      unfold ct_readsStation_v7
      rw [ug_ne (by omega)]
      unfold ct_readsStation_v6
      rw [ug_ne (by omega)]
      exact v5 k
theorem kp_path (hd : r 0 12 = d) (hn : cl (r 0 11) ≤ 8) : KP d r (ct_readsPath_w r) := by
  have v1 : ∀ k, ct_readsPath_v1 r 1 k = r 1 k := fun k => kq_nx 1 k (by omega)
  have v2 : ∀ k, ct_readsPath_v2 r 1 k = r 1 k := fun k => (show ct_readsPath_v2 r 1 k = ct_readsPath_v1 r 1 k from rd_1 k).trans (v1 k)
  have v3 : ∀ k, ct_readsPath_v3 r 1 k = r 1 k := fun k => (show ct_readsPath_v3 r 1 k = (ug (ct_readsPath_v2 r) 8 0 ((ct_readsPath_v2 r) 0 16)) 1 k from rd_1 k).trans ((ug_ne (by omega)).trans (v2 k))
  have v4 : ∀ k, ct_readsPath_v4 r 1 k = r 1 k := fun k => (show ct_readsPath_v4 r 1 k = (ug (ct_readsPath_v3 r) 8 1 ((ct_readsPath_v3 r) 0 16)) 1 k from rd_1 k).trans ((ug_ne (by omega)).trans (v3 k))
  have w1 : ct_readsPath_v1 r 0 12 = d := (show ct_readsPath_v1 r 0 12 = r 0 12 from kq_nx 0 12 (by omega)).trans hd
  have w2 : ct_readsPath_v2 r 0 12 = d := (show ct_readsPath_v2 r 0 12 = ct_readsPath_v1 r 0 12 from kq_rd 0 12 (by omega)).trans w1
  have w3 : ct_readsPath_v3 r 0 12 = d := (show ct_readsPath_v3 r 0 12 = (ug (ct_readsPath_v2 r) 8 0 ((ct_readsPath_v2 r) 0 16)) 0 12 from kq_rd 0 12 (by omega)).trans ((ug_ne (by omega)).trans w2)
  have w4 : ct_readsPath_v4 r 0 12 = d := (show ct_readsPath_v4 r 0 12 = (ug (ct_readsPath_v3 r) 8 1 ((ct_readsPath_v3 r) 0 16)) 0 12 from kq_rd 0 12 (by omega)).trans ((ug_ne (by omega)).trans w3)
  have r5 : ∀ k, R5 r 1 k = r 1 k := fun k => by
    unfold R5
    rw [ug_ne (by omega), ug_ne (by omega), ug_ne (by omega), ug_ne (by omega)]
    exact v4 k
  have x5 : R5 r 0 12 = d := by
    unfold R5
    rw [ug_ne (by omega), ug_ne (by omega), ug_ne (by omega), ug_ne (by omega)]
    exact w4
  have v11 : ∀ k, ct_readsPath_v11 r 1 k = r 1 k := fun k => (show ct_readsPath_v11 r 1 k = R5 r 1 k from kq_nx 1 k (by omega)).trans (r5 k)
  have w11 : ct_readsPath_v11 r 0 12 = d := (show ct_readsPath_v11 r 0 12 = R5 r 0 12 from kq_nx 0 12 (by omega)).trans x5
  have v12 : ∀ k, ct_readsPath_v12 r 1 k = r 1 k := fun k => (show ct_readsPath_v12 r 1 k = ct_readsPath_v11 r 1 k from kq_rs 1 k (by omega)).trans (v11 k)
  have w12 : ct_readsPath_v12 r 0 12 = d := (show ct_readsPath_v12 r 0 12 = ct_readsPath_v11 r 0 12 from kq_rs 0 12 (by omega)).trans w11
  have v13 : ∀ k, ct_readsPath_v13 r 1 k = r 1 k := fun k => (show ct_readsPath_v13 r 1 k = (ug (ct_readsPath_v12 r) 8 4 ((ct_readsPath_v12 r) 0 16)) 1 k from kq_rs 1 k (by omega)).trans ((ug_ne (by omega)).trans (v12 k))
  have w13 : ct_readsPath_v13 r 0 12 = d := (show ct_readsPath_v13 r 0 12 = (ug (ct_readsPath_v12 r) 8 4 ((ct_readsPath_v12 r) 0 16)) 0 12 from kq_rs 0 12 (by omega)).trans ((ug_ne (by omega)).trans w12)
  have r6 : ∀ k, R6 r 1 k = r 1 k := fun k => by
    unfold R6
    rw [ug_ne (by omega)]
    exact v13 k
  unfold ct_readsPath_w
  split
  · exact KP_rf d r
  split
  · exact KP_of v2
  split
  · exact KP_of v3
  split
  · exact KP_of v4
  split
  · split
    · intro k _
      by_cases ck : k = 12
      · rw [ck, ug_same]; exact v4 12
      · rw [ug_ne (by omega), ug_ne (by omega)]; exact r5 k
    · next c9 =>
      intro k hk
      rcases hk with z | z
      · exact absurd (w4.trans z) c9
      · rw [ug_ne (by omega), ug_ne (by omega), v10_eq, pW_ne (by omega)]; exact r5 k
  split
  · exact KP_of v12
  split
  · exact KP_of v13
  split
  · intro k _
    by_cases ck : k = 12
    · rw [ck, ug_same]; exact v13 12
    · rw [ug_ne (by omega), ug_ne (by omega)]; exact r6 k
  · next c9 =>
    intro k hk
    rcases hk with z | z
    · exact absurd (w13.trans z) c9
    · rw [ug_ne (by omega), ug_ne (by omega), v19_eq, pW_ne (by omega)]; exact r6 k
theorem kp_set6 (hd : r 0 12 = d) : KP d r (ct_set6_w r) := by
  have v2 : ∀ k, ct_set6_v2 r 1 k = r 1 k := fun k => (show ct_set6_v2 r 1 k = ct_set6_v1 r 1 k from kq_rs 1 k (by omega)).trans (show ct_set6_v1 r 1 k = r 1 k from kq_nx 1 k (by omega))
  have w2 : ct_set6_v2 r 0 12 = d := (show ct_set6_v2 r 0 12 = ct_set6_v1 r 0 12 from kq_rs 0 12 (by omega)).trans ((show ct_set6_v1 r 0 12 = r 0 12 from kq_nx 0 12 (by omega)).trans hd)
  have self : KP d r (ug (ct_set6_v2 r) 1 6 (ct_set6_v2 r 1 6)) := fun k _ => by
    by_cases ck : k = 6
    · rw [ck, ug_same]; exact v2 6
    · rw [ug_ne (by omega)]; exact v2 k
  unfold ct_set6_w
  split
  · exact self
  split
  · exact self
  · next c9 =>
    intro k hk
    rcases hk with z | z
    · exact absurd (w2.trans z) c9
    · rw [ug_ne (by omega)]; exact v2 k
theorem kp_set7 (hd : r 0 12 = d) : KP d r (ct_set7_w r) := by
  have v2 : ∀ k, ct_set7_v2 r 1 k = r 1 k := fun k => (show ct_set7_v2 r 1 k = ct_set7_v1 r 1 k from kq_rd 1 k (by omega)).trans (show ct_set7_v1 r 1 k = r 1 k from kq_nx 1 k (by omega))
  have w2 : ct_set7_v2 r 0 12 = d := (show ct_set7_v2 r 0 12 = ct_set7_v1 r 0 12 from kq_rd 0 12 (by omega)).trans ((show ct_set7_v1 r 0 12 = r 0 12 from kq_nx 0 12 (by omega)).trans hd)
  have self : KP d r (ug (ct_set7_v2 r) 1 7 (ct_set7_v2 r 1 7)) := fun k _ => by
    by_cases ck : k = 7
    · rw [ck, ug_same]; exact v2 7
    · rw [ug_ne (by omega)]; exact v2 k
  unfold ct_set7_w
  split
  · exact self
  split
  · exact self
  · next c9 =>
    intro k hk
    rcases hk with z | z
    · exact absurd (w2.trans z) c9
    · rw [ug_ne (by omega)]; exact v2 k
theorem kp_set10 (hd : r 0 12 = d) : KP d r (ct_set10_w r) := by
  have v2 : ∀ k, ct_set10_v2 r 1 k = r 1 k := fun k => (show ct_set10_v2 r 1 k = ct_set10_v1 r 1 k from kq_rd 1 k (by omega)).trans (show ct_set10_v1 r 1 k = r 1 k from kq_nx 1 k (by omega))
  have w2 : ct_set10_v2 r 0 12 = d := (show ct_set10_v2 r 0 12 = ct_set10_v1 r 0 12 from kq_rd 0 12 (by omega)).trans ((show ct_set10_v1 r 0 12 = r 0 12 from kq_nx 0 12 (by omega)).trans hd)
  have self : KP d r (ug (ct_set10_v2 r) 1 10 (ct_set10_v2 r 1 10)) := fun k _ => by
    by_cases ck : k = 10
    · rw [ck, ug_same]; exact v2 10
    · rw [ug_ne (by omega)]; exact v2 k
  unfold ct_set10_w
  split
  · exact self
  split
  · exact self
  · next c9 =>
    intro k hk
    rcases hk with z | z
    · exact absurd (w2.trans z) c9
    · rw [ug_ne (by omega)]; exact v2 k
theorem kp_item (hd : r 0 12 = d) (hn : cl (r 0 11) ≤ 8) : KP d r (ct_readsItem_w r) := by
  unfold ct_readsItem_w
  split
  · split
    · split
      · split
        · split
          · exact KP_rf d r
          · exact kp_set10 hd
        · exact kp_set7 hd
      · exact kp_set6 hd
    · exact kp_path hd hn
  · exact kp_station hd
theorem TR.n8 (h : TR d c r) : cl (r 0 11) ≤ 8 := by
  obtain ⟨-, -, -, -, -, n, S, h6, h7, -⟩ := h
  have := inv_n8 h6
  rw [h7, show cl (nI n) = n from nI_clamp (by omega)]
  exact this
theorem kp_rl : ∀ (q : Nat) {s : Int32} {c r : Nat → Nat → Int32}, OUT d s c r → KP d r (rl q s r).2 := by
  intro q
  induction q with
  | zero => intro s c r _; exact KP_rf d r
  | succ q ih =>
    intro s c r h
    rcases h with ⟨hs, h⟩ | ⟨hs, h⟩
    · by_cases c1 : cl (r 0 4) ≤ cl (r 0 9)
      · rw [rl_e hs c1]; exact KP_rf d r
      · by_cases c3 : r 3 (cl (r 0 9)) = 59
        · rw [rl_s hs (by omega) c3]
          have hn := TR_nx h
          exact KP_tr (KP_of fun k => kq_nx 1 k (by omega)) (KP_tr (kp_item hn.2.2.2.2.1 hn.n8) (ih (it_item hn)))
        · rw [rl_n hs (by omega) c3]; exact KP_rf d r
    · rw [rl_z hs]; exact KP_rf d r
end KQ
/-! what the class's reading keeps -/
def kS2 (g g' : Nat → Nat → Int32) : Prop := ∀ a k, a ≠ 1 → ¬ (a = 0 ∧ (k = 9 ∨ k = 10 ∨ k = 20)) → g' a k = g a k
theorem kS2_q {g g' : Nat → Nat → Int32} (h : kqS g g') : kS2 g g' := fun a k _ hk => h a k hk
theorem kS2_tr {a b e : Nat → Nat → Int32} (h : kS2 a b) (h2 : kS2 b e) : kS2 a e := fun i k x y => (h2 i k x y).trans (h i k x y)
theorem kS2_app {n : Nat} {x y z u v : Int32} {g g' : Nat → Nat → Int32} (h : kS2 g g') : kS2 g (appG n x y z u v g') := fun a k ha hk => (aq_o ha).trans (h a k ha hk)
theorem kS2_ug {k : Nat} {x : Int32} {g g' : Nat → Nat → Int32} (h : kS2 g g') : kS2 g (ug g' 1 k x) := fun a j ha hk => (ug_ne (by omega)).trans (h a j ha hk)
theorem kS2_path {g : Nat → Nat → Int32} : kS2 g (sc_takePath_w g) := by
  have h3 : kqS g (sc_takePath_v3 g) := kqS_tr (kqS_tr kqS_tv kqS_tv) kqS_tv
  have h4 : kqS g (sc_takePath_v4 g) := kqS_tr h3 kqS_tw
  unfold sc_takePath_w
  split
  · exact kS2_app (kS2_q h4)
  · exact kS2_app (kS2_q (kqS_tr (kqS_tr h4 kqS_ts) kqS_ts))
theorem kS2_station {g : Nat → Nat → Int32} : kS2 g (sc_takeStation_w g) := by
  have h4 : kqS g (sc_takeStation_v4 g) := kqS_tr (kqS_tr (kqS_tr kqS_tv kqS_tv) kqS_tv) kqS_tv
  unfold sc_takeStation_w
  split
  · exact fun a k ha hk => (set_o ha).1.trans (h4 a k hk)
  · exact fun a k ha hk => (set_o ha).2.trans (h4 a k hk)
theorem kS2_item {g : Nat → Nat → Int32} : kS2 g (sc_takeItem_w g) := by
  have hx := kqS_nx (g := g)
  have i1 : kS2 g (sc_reject_w g) := kS2_q kqS_rj
  have i2 : kS2 g (ug (tvw (1) (9) 1 (nxW g)) 1 10 (tvr (1) (9) 1 (nxW g))) := kS2_ug (kS2_q (kqS_tr hx kqS_tv))
  have i3 : kS2 g (ug (tvw (0) (60) 1 (nxW g)) 1 7 (tvr (0) (60) 1 (nxW g))) := kS2_ug (kS2_q (kqS_tr hx kqS_tv))
  have i4 : kS2 g (ug (sc_takeSigned_w (-200) (200) (nxW g)) 1 6 (sc_takeSigned_r (-200) (200) (nxW g))) := kS2_ug (kS2_q (kqS_tr hx kqS_ts))
  have i5 : kS2 g (sc_takeStation_w (nxW g)) := kS2_tr (kS2_q hx) kS2_station
  have i6 : kS2 g (sc_takePath_w (nxW g)) := kS2_tr (kS2_q hx) kS2_path
  unfold sc_takeItem_w
  exact iteP (P := kS2 g) (iteP (P := kS2 g) (iteP (P := kS2 g) (iteP (P := kS2 g) (iteP (P := kS2 g) i1 i2) i3) i4) i5) (iteP (P := kS2 g) (iteP (P := kS2 g) (iteP (P := kS2 g) (iteP (P := kS2 g) (iteP (P := kS2 g) (iteP (P := kS2 g) i1 i2) i3) i4) i5) i6) i1)
theorem kS2_rsL : ∀ (q : Nat) (g : Nat → Nat → Int32), kS2 g (rsL q g) := by
  intro q
  induction q with
  | zero => exact fun g a k _ _ => rfl
  | succ q ih =>
    intro g
    unfold rsL
    split
    · split
      · exact kS2_tr (kS2_q kqS_sep) (kS2_tr kS2_item (ih _))
      · exact fun a k _ _ => rfl
    · exact fun a k _ _ => rfl
theorem kS2_rsZ {g : Nat → Nat → Int32} : kS2 g (rsZ g) := by
  refine kS2_tr (b := rs0 g) (fun a k ha hk => ?_) (kS2_tr kS2_item (kS2_rsL _ _))
  unfold rs0
  refine (kqS_nx a k hk).trans ((ug_ne (by omega)).trans ((ug_ne (by omega)).trans ?_))
  have f : ∀ (g : Nat → Nat → Int32) lo, fillG g lo 16 (-100000) a k = g a k := fun g lo => if_neg (by omega)
  unfold anewG
  rw [ug_ne (by omega), ug_ne (by omega), ug_ne (by omega), ug_ne (by omega), ug_ne (by omega), ug_ne (by omega), ug_ne (by omega), ug_ne (by omega), ug_ne (by omega), ug_ne (by omega), ug_ne (by omega), ug_ne (by omega), ug_ne (by omega), ug_ne (by omega), ug_ne (by omega), f, ug_ne (by omega), ug_ne (by omega), ug_ne (by omega), ug_ne (by omega), f, ug_ne (by omega), ug_ne (by omega), ug_ne (by omega), ug_ne (by omega)]
/-! a new state -/
def bgV (k : Nat) : Int32 := if k = 5 then 1 else if k = 9 then 4 else if k = 10 then 2 else if k = 15 then 8 else if k = 17 then 40 else if k = 35 then 8 else if k = 37 then 40 else if 18 ≤ k ∧ k < 35 then -100000 else if 38 ≤ k ∧ k < 55 then -100000 else 0
theorem an_k {g : Nat → Nat → Int32} : ∀ k, k < 55 → anewG g 1 k = bgV k
  | 0, _ => rfl
  | 1, _ => rfl
  | 2, _ => rfl
  | 3, _ => rfl
  | 4, _ => rfl
  | 5, _ => rfl
  | 6, _ => rfl
  | 7, _ => rfl
  | 8, _ => rfl
  | 9, _ => rfl
  | 10, _ => rfl
  | 11, _ => rfl
  | 12, _ => rfl
  | 13, _ => rfl
  | 14, _ => rfl
  | 15, _ => rfl
  | 16, _ => rfl
  | 17, _ => rfl
  | 18, _ => rfl
  | 19, _ => rfl
  | 20, _ => rfl
  | 21, _ => rfl
  | 22, _ => rfl
  | 23, _ => rfl
  | 24, _ => rfl
  | 25, _ => rfl
  | 26, _ => rfl
  | 27, _ => rfl
  | 28, _ => rfl
  | 29, _ => rfl
  | 30, _ => rfl
  | 31, _ => rfl
  | 32, _ => rfl
  | 33, _ => rfl
  | 34, _ => rfl
  | 35, _ => rfl
  | 36, _ => rfl
  | 37, _ => rfl
  | 38, _ => rfl
  | 39, _ => rfl
  | 40, _ => rfl
  | 41, _ => rfl
  | 42, _ => rfl
  | 43, _ => rfl
  | 44, _ => rfl
  | 45, _ => rfl
  | 46, _ => rfl
  | 47, _ => rfl
  | 48, _ => rfl
  | 49, _ => rfl
  | 50, _ => rfl
  | 51, _ => rfl
  | 52, _ => rfl
  | 53, _ => rfl
  | 54, _ => rfl
  | n + 55, h => absurd h (by omega)
theorem bg_k {g : Nat → Nat → Int32} {k : Nat} (h : k < 172) : beginG g 1 k = bgV k := if_pos ⟨rfl, h⟩
theorem bgV_t : ∀ k, k < 55 → (18 ≤ k ∧ k < 35) ∨ 38 ≤ k → bgV k = -100000 := by decide
theorem inv_new {g : Nat → Nat → Int32} (h : ∀ k, k < 55 → g 1 k = bgV k) : invK g 0 (fun _ => 8) ∧ frsh g := by
  have e : ∀ k, k < 55 → g 1 k = bgV k := h
  refine ⟨⟨⟨⟨e 12 (by omega), by omega, ⟨0, e 7 (by omega), by omega⟩, ⟨8, e 15 (by omega), by omega⟩, ⟨8, e 35 (by omega), by omega⟩, ⟨40, e 17 (by omega), by omega⟩, ⟨40, e 37 (by omega), by omega⟩, fun z hz => absurd hz (Nat.not_lt_zero z)⟩, ⟨e 15 (by omega), e 35 (by omega), by decide, by decide, by decide, by decide⟩, ⟨0, e 14 (by omega), by omega⟩, ⟨0, e 13 (by omega), by omega⟩⟩, ?_, fun fr hf k h1 h2 => ?_, ?_, Or.inl (e 0 (by omega)), Or.inl (e 8 (by omega)), Or.inl (e 11 (by omega)), ⟨Or.inl (e 18 (by omega)), Or.inl (e 38 (by omega))⟩, ?_, fun B hB b hb hB3 => ?_⟩, e 0 (by omega), e 13 (by omega), e 14 (by omega), fun k a b => (e k (by omega)).trans (bgV_t k (by omega) (by omega)), fun k a b => (e k (by omega)).trans (bgV_t k (by omega) (by omega))⟩
  · unfold thrK
    rw [e 6 (by omega)]
    decide
  · have z : ¬ fr = 2 := by omega
    have hk8 : 8 ≤ k := h1
    rw [e _ (by omega)]
    exact bgV_t _ (by omega) (by omega)
  · rw [e 10 (by omega)]; decide
  · unfold bmU
    rw [e 0 (by omega)]
    exact fun z => absurd z (by decide)
  · rw [e 13 (by omega)] at hB
    have := nIij (a := 0) (b := B) (by omega) (by omega) hB
    omega
theorem TR_0 {d : Int32} {G R : Nat → Nat → Int32} (hl : lnI G) (e4 : R 0 4 = G 0 4) (e3 : ∀ k, R 3 k = G 3 k) (hr : d ≠ 0 → ∀ k, k < 55 → R 1 k = bgV k) : TR d (rs0 G) (rd0 d R) := by
  have hR : lnI R := by unfold lnI; rw [e4]; exact hl
  have e3' : R 3 = G 3 := funext e3
  have s1 : ∀ k, rs0 G 1 k = anewG G 1 k := fun k => (show rs0 G 1 k = (ug (ug (anewG G) 0 20 (-100000)) 0 10 0) 1 k from kq_nx 1 k (by omega)).trans ((ug_ne (by omega)).trans (ug_ne (by omega)))
  have t1 : ∀ k, rd0 d R 1 k = R 1 k := fun k => (show rd0 d R 1 k = (ug (ug (ug R 0 12 d) 0 11 0) 0 10 0) 1 k from kq_nx 1 k (by omega)).trans ((ug_ne (by omega)).trans ((ug_ne (by omega)).trans (ug_ne (by omega))))
  have s4 : rs0 G 0 4 = G 0 4 := (show rs0 G 0 4 = (ug (ug (anewG G) 0 20 (-100000)) 0 10 0) 0 4 from kq_nx 0 4 (by omega)).trans ((ug_ne (by omega)).trans ((ug_ne (by omega)).trans an_0))
  have t4 : rd0 d R 0 4 = R 0 4 := (show rd0 d R 0 4 = (ug (ug (ug R 0 12 d) 0 11 0) 0 10 0) 0 4 from kq_nx 0 4 (by omega)).trans ((ug_ne (by omega)).trans ((ug_ne (by omega)).trans (ug_ne (by omega))))
  have a3 : ∀ k, anewG G 3 k = G 3 k := fun k => rfl
  have s3 : ∀ k, rs0 G 3 k = G 3 k := fun k => (show rs0 G 3 k = (ug (ug (anewG G) 0 20 (-100000)) 0 10 0) 3 k from kq_nx 3 k (by omega)).trans ((ug_ne (by omega)).trans ((ug_ne (by omega)).trans (a3 k)))
  have t3 : ∀ k, rd0 d R 3 k = R 3 k := fun k => (show rd0 d R 3 k = (ug (ug (ug R 0 12 d) 0 11 0) 0 10 0) 3 k from kq_nx 3 k (by omega)).trans ((ug_ne (by omega)).trans ((ug_ne (by omega)).trans (ug_ne (by omega))))
  have b3 : (ug (ug (anewG G) 0 20 (-100000)) 0 10 0) 3 = G 3 := funext fun k => (ug_ne (by omega)).trans ((ug_ne (by omega)).trans (a3 k))
  have b3' : (ug (ug (ug R 0 12 d) 0 11 0) 0 10 0) 3 = G 3 := funext fun k => (ug_ne (by omega)).trans ((ug_ne (by omega)).trans ((ug_ne (by omega)).trans (e3 k)))
  have hL := hl.2
  have n1 := ntF_b (t := G 3) (Ln := cl (G 0 4)) (b0 := 0) (by omega)
  have n2 := ntB_b (t := G 3) n1.2
  have s9 : rs0 G 0 9 = nI (ntF (G 3) (cl (G 0 4)) 0) := by
    rw [nx_s0]
    unfold ntG
    rw [ug_ne (by omega), ug_same, b3]
  have s10 : rs0 G 0 10 = nI (ntB (G 3) (cl (G 0 4)) (ntF (G 3) (cl (G 0 4)) 0)) := by
    rw [nx_s0]
    unfold ntG
    rw [ug_same, b3]
  have t9 : rd0 d R 0 9 = nI (ntF (G 3) (cl (G 0 4)) 0) := by
    rw [nx_0]
    unfold ntG
    rw [ug_ne (by omega), ug_same, b3', e4]
  have t10 : rd0 d R 0 10 = nI (ntB (G 3) (cl (G 0 4)) (ntF (G 3) (cl (G 0 4)) 0)) := by
    rw [nx_0]
    unfold ntG
    rw [ug_same, b3', e4]
  have nw := inv_new (g := rs0 G) (fun k hk => (s1 k).trans (an_k k hk))
  refine ⟨(show rs0 G 0 20 = (ug (ug (anewG G) 0 20 (-100000)) 0 10 0) 0 20 from kq_nx 0 20 (by omega)).trans ((ug_ne (by omega)).trans ug_same), ⟨tk_s0 hl, ?_⟩, fun k hk => ?_, fun k => (t3 k).trans ((e3 k).trans (s3 k).symm), (show rd0 d R 0 12 = (ug (ug (ug R 0 12 d) 0 11 0) 0 10 0) 0 12 from kq_nx 0 12 (by omega)).trans ((ug_ne (by omega)).trans ((ug_ne (by omega)).trans ug_same)), 0, fun _ => 8, nw.1, (show rd0 d R 0 11 = (ug (ug (ug R 0 12 d) 0 11 0) 0 10 0) 0 11 from kq_nx 0 11 (by omega)).trans ((ug_ne (by omega)).trans ug_same), fun hd => le_fr nw.2 (fun k hk => ?_), nw.2⟩
  · rw [s10, s9, s4, show rs0 G 3 = G 3 from funext s3, show cl (nI (ntF (G 3) (cl (G 0 4)) 0)) = ntF (G 3) (cl (G 0 4)) 0 from nI_clamp (by omega)]
    exact nI_clamp (by omega)
  · rcases hk with rfl | rfl | rfl
    · rw [t4, s4, e4]
    · rw [t9, s9]
    · rw [t10, s10]
  · rw [t1, s1, an_k k (by omega)]
    exact hr hd k (by omega)
/-- the whole text -/
theorem rdz_ok {d : Int32} {G R : Nat → Nat → Int32} (hl : lnI G) (e4 : R 0 4 = G 0 4) (e3 : ∀ k, R 3 k = G 3 k) (hr : d ≠ 0 → ∀ k, k < 55 → R 1 k = bgV k) : OUT d (rdZ d R).1 (rsZ G) (rdZ d R).2 ∧ KP d R (rdZ d R).2 := by
  have h0 := TR_0 hl e4 e3 hr
  have h1 := it_item h0
  have t1 : ∀ k, rd0 d R 1 k = R 1 k := fun k => (show rd0 d R 1 k = (ug (ug (ug R 0 12 d) 0 11 0) 0 10 0) 1 k from kq_nx 1 k (by omega)).trans ((ug_ne (by omega)).trans ((ug_ne (by omega)).trans (ug_ne (by omega))))
  unfold rsZ rdZ
  refine ⟨rs_rl 120 h1 (fun hT => ?_), KP_tr (KP_of t1) (KP_tr (kp_item h0.2.2.2.2.1 h0.n8) (kp_rl 121 h1))⟩
  have z := (tk_cl (tk_of' hT)).2.1
  omega
