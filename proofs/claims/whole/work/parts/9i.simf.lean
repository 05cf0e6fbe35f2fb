/-! THE TEXT ALIKE: settings, items, the whole -/
section SE
variable {d : Int32} {c r : Nat → Nat → Int32}
theorem TR_ug {k : Nat} {x w : Int32} (h : TR d c r) (hk : k = 6 ∨ k = 7 ∨ k = 10) (hi : ∀ n S, invK c n S → invK (ug c 1 k x) n S) (hw : d ≠ 0 → w = x) : TR d (ug c 1 k x) (ug r 1 k w) := by
  have h' := h
  obtain ⟨-, -, -, -, -, n, S, h6, h7, h8, h9⟩ := h
  have hf : frsh (ug c 1 k x) := by
    obtain ⟨f1, f2, f3, f4, f5⟩ := h9
    exact ⟨(ug_ne (by omega)).trans f1, (ug_ne (by omega)).trans f2, (ug_ne (by omega)).trans f3, fun j a b => (ug_ne (by omega)).trans (f4 j a b), fun j a b => (ug_ne (by omega)).trans (f5 j a b)⟩
  refine TR_row h' (fun a j ha => ug_ne (by omega)) (fun a j ha _ => ug_ne (by omega)) (hi n S h6) ((ug_ne (by omega)).trans h7) (fun hd => le_fr hf (fun j hj => ?_)) hf
  by_cases cj : j = k
  · subst cj
    rw [ug_same, ug_same]; exact hw hd
  · rw [ug_ne (by omega), ug_ne (by omega)]; exact (h8 hd).1 j hj
theorem TF_ug {k : Nat} {x w : Int32} (h : TF c r) : TF (ug c 1 k x) (ug r 1 k w) := by
  have e1 : ug c 1 k x 0 20 = c 0 20 := ug_ne (by omega)
  have e2 : ug r 1 k w 0 9 = r 0 9 := ug_ne (by omega)
  unfold TF
  rw [e1, e2]
  exact h
theorem lt0_1 {x : Int32} (h : 1 ≤ x) : 0 < x := pos_of1 h
theorem it_set6 (h : TR d c r) : OUT d (ct_set6_r r) (ug (sc_takeSigned_w (-200) (200) (nxW c)) 1 6 (sc_takeSigned_r (-200) (200) (nxW c))) (ct_set6_w r) := by
  have h0 : TR d (nxW c) (ct_set6_v1 r) := TR_nx h
  obtain ⟨C, eC⟩ : ∃ C, C = nxW c := ⟨_, rfl⟩
  rw [← eC] at h0
  rw [← eC]
  rcases snum (lo := -200) (hi := 200) h0 with ⟨e1, t1, w1, b1, b1'⟩ | ⟨e1, f1⟩
  · left
    have t1' : TR d (sc_takeSigned_w (-200) (200) C) (ct_set6_v2 r) := t1
    have w1' : ct_set6_v2 r 0 16 = sc_takeSigned_r (-200) (200) C := w1
    clear t1 w1
    have er : ct_set6_r r = 1 := by unfold ct_set6_r; rw [e1]; rfl
    have eW : ct_set6_w r = if ct_set6_v2 r 0 12 = 0 then ug (ct_set6_v2 r) 1 6 (ct_set6_v2 r 1 6) else ug (ct_set6_v2 r) 1 6 (ct_set6_v2 r 0 16) := by unfold ct_set6_w; exact if_neg (b2n e1)
    refine ⟨by rw [er]; decide, ?_⟩
    have d9 : ct_set6_v2 r 0 12 = d := t1'.2.2.2.2.1
    rw [eW, d9]
    by_cases hd : d = 0
    · rw [if_pos hd]
      exact TR_ug t1' (by omega) (fun n S hi => inv_6 hi b1) (fun z => absurd hd z)
    · rw [if_neg hd]
      exact TR_ug t1' (by omega) (fun n S hi => inv_6 hi b1) (fun _ => w1')
  · right
    have f1' : TF (sc_takeSigned_w (-200) (200) C) (ct_set6_v2 r) := f1
    clear f1
    refine ⟨by unfold ct_set6_r; rw [e1]; rfl, ?_⟩
    have eW : ct_set6_w r = ug (ct_set6_v2 r) 1 6 (ct_set6_v2 r 1 6) := by unfold ct_set6_w; exact if_pos (b2z e1)
    rw [eW]
    exact TF_ug f1'
theorem it_set7 (h : TR d c r) : OUT d (ct_set7_r r) (ug (tvw (0) (60) 1 (nxW c)) 1 7 (tvr (0) (60) 1 (nxW c))) (ct_set7_w r) := by
  have h0 : TR d (nxW c) (ct_set7_v1 r) := TR_nx h
  obtain ⟨C, eC⟩ : ∃ C, C = nxW c := ⟨_, rfl⟩
  rw [← eC] at h0
  rw [← eC]
  rcases num (sg := 1) (lo := 0) (hi := 60) h0 with ⟨e1, t1, w1, b1, b1'⟩ | ⟨e1, f1⟩
  · left
    have t1' : TR d (tvw (0) (60) 1 C) (ct_set7_v2 r) := t1
    have w1' : ct_set7_v2 r 0 16 = tvr (0) (60) 1 C := w1
    clear t1 w1
    have er : ct_set7_r r = 1 := by unfold ct_set7_r; rw [e1]; rfl
    have eW : ct_set7_w r = if ct_set7_v2 r 0 12 = 0 then ug (ct_set7_v2 r) 1 7 (ct_set7_v2 r 1 7) else ug (ct_set7_v2 r) 1 7 (ct_set7_v2 r 0 16) := by unfold ct_set7_w; exact if_neg (b2n e1)
    refine ⟨by rw [er]; decide, ?_⟩
    have d9 : ct_set7_v2 r 0 12 = d := t1'.2.2.2.2.1
    rw [eW, d9]
    by_cases hd : d = 0
    · rw [if_pos hd]
      exact TR_ug t1' (by omega) (fun n S hi => inv_7 hi (nI_rg rfl ⟨b1, b1'⟩)) (fun z => absurd hd z)
    · rw [if_neg hd]
      exact TR_ug t1' (by omega) (fun n S hi => inv_7 hi (nI_rg rfl ⟨b1, b1'⟩)) (fun _ => w1')
  · right
    have f1' : TF (tvw (0) (60) 1 C) (ct_set7_v2 r) := f1
    clear f1
    refine ⟨by unfold ct_set7_r; rw [e1]; rfl, ?_⟩
    have eW : ct_set7_w r = ug (ct_set7_v2 r) 1 7 (ct_set7_v2 r 1 7) := by unfold ct_set7_w; exact if_pos (b2z e1)
    rw [eW]
    exact TF_ug f1'
theorem it_set10 (h : TR d c r) : OUT d (ct_set10_r r) (ug (tvw (1) (9) 1 (nxW c)) 1 10 (tvr (1) (9) 1 (nxW c))) (ct_set10_w r) := by
  have h0 : TR d (nxW c) (ct_set10_v1 r) := TR_nx h
  obtain ⟨C, eC⟩ : ∃ C, C = nxW c := ⟨_, rfl⟩
  rw [← eC] at h0
  rw [← eC]
  rcases num (sg := 1) (lo := 1) (hi := 9) h0 with ⟨e1, t1, w1, b1, b1'⟩ | ⟨e1, f1⟩
  · left
    have t1' : TR d (tvw (1) (9) 1 C) (ct_set10_v2 r) := t1
    have w1' : ct_set10_v2 r 0 16 = tvr (1) (9) 1 C := w1
    clear t1 w1
    have er : ct_set10_r r = 1 := by unfold ct_set10_r; rw [e1]; rfl
    have eW : ct_set10_w r = if ct_set10_v2 r 0 12 = 0 then ug (ct_set10_v2 r) 1 10 (ct_set10_v2 r 1 10) else ug (ct_set10_v2 r) 1 10 (ct_set10_v2 r 0 16) := by unfold ct_set10_w; exact if_neg (b2n e1)
    refine ⟨by rw [er]; decide, ?_⟩
    have d9 : ct_set10_v2 r 0 12 = d := t1'.2.2.2.2.1
    rw [eW, d9]
    by_cases hd : d = 0
    · rw [if_pos hd]
      exact TR_ug t1' (by omega) (fun n S hi => inv_10 hi (lt0_1 b1)) (fun z => absurd hd z)
    · rw [if_neg hd]
      exact TR_ug t1' (by omega) (fun n S hi => inv_10 hi (lt0_1 b1)) (fun _ => w1')
  · right
    have f1' : TF (tvw (1) (9) 1 C) (ct_set10_v2 r) := f1
    clear f1
    refine ⟨by unfold ct_set10_r; rw [e1]; rfl, ?_⟩
    have eW : ct_set10_w r = ug (ct_set10_v2 r) 1 10 (ct_set10_v2 r 1 10) := by unfold ct_set10_w; exact if_pos (b2z e1)
    rw [eW]
    exact TF_ug f1'
theorem ti_id {g : Nat → Nat → Int32} (h : ¬ g 0 20 = -100000) : sc_takeItem_w g = g := by
  have e : ∀ k, sc_takeWord_r k g = 0 := fun k => twr_id h
  unfold sc_takeItem_w
  by_cases c1 : b2i (iwS 1 g) = 0
  · rw [if_pos c1, if_pos (e 0), if_pos (e 2), if_pos (e 3), if_pos (e 4)]
    exact rj_id h
  · rw [if_neg c1]
    by_cases c2 : cl (g 1 12) < 8
    · rw [if_pos c2, if_pos (e 1), if_pos (e 0), if_pos (e 2), if_pos (e 3), if_pos (e 4)]
      exact rj_id h
    · rw [if_neg c2]
      exact rj_id h
theorem ws_len {k : Nat} (h : iwS k c = true) : cl (c 0 10) - cl (c 0 9) = sLen.getD k 0 := by
  unfold iwS wsB at h
  by_cases z : cl (c 0 10) - cl (c 0 9) = sLen.getD k 0
  · exact z
  · rw [if_neg z] at h; cases h
theorem it_item (h : TR d c r) : OUT d (ct_readsItem_r r) (sc_takeItem_w c) (ct_readsItem_w r) := by
  have i0 := iw_eq pr_00 h
  have i1 := iw_eq pr_11 h
  have i3 := iw_eq pr_32 h
  have i4 := iw_eq pr_43 h
  have i5 := iw_eq pr_54 h
  have T : ∀ k, (sc_takeWord_r k c = 0) = (iwS k c = false) := fun k => twr_0 h
  have bf : ∀ b : Bool, ¬ b = true → b = false := fun b hb => by cases b; rfl; exact absurd rfl hb
  by_cases c1 : iwS 1 c = true
  · -- a path
    have c0 : iwS 0 c = false := bf _ fun z => absurd ((ws_len z).symm.trans (ws_len c1)) (by decide)
    have er : ct_readsItem_r r = ct_readsPath_r r := by
      unfold ct_readsItem_r
      rw [if_pos (b2z (i0.trans c0)), if_neg (b2n (i1.trans c1))]
    have eW : ct_readsItem_w r = ct_readsPath_w r := by
      unfold ct_readsItem_w
      rw [if_pos (b2z (i0.trans c0)), if_neg (b2n (i1.trans c1))]
    obtain ⟨-, -, -, -, -, n, S, h6, h7, -⟩ := id h
    have hn8 := inv_n8 h6
    have hcl : cl (c 1 12) = n := by rw [(inv_st h6).1]; exact nI_clamp (by omega)
    rw [er, eW]
    by_cases c8 : n < 8
    · have eT : sc_takeItem_w c = sc_takePath_w (nxW c) := by
        unfold sc_takeItem_w
        rw [if_neg (b2n c1), if_pos (by rw [hcl]; exact c8), if_neg (by rw [T, c1]; decide)]
      rw [eT]
      exact it_path h h7 c8
    · have eT : sc_takeItem_w c = ug c 0 20 (c 0 9) := by
        unfold sc_takeItem_w
        rw [if_neg (b2n c1), if_neg (by rw [hcl]; exact c8)]
        exact if_pos h.1
      have e8 : r 0 11 = 8 := by rw [h7, show n = 8 by omega]; rfl
      right
      refine ⟨by unfold ct_readsPath_r; exact if_pos e8, ?_⟩
      have eW2 : ct_readsPath_w r = r := by unfold ct_readsPath_w; exact if_pos e8
      rw [eT, eW2]
      exact TF_rj h
  · have c1f := bf _ c1
    have eT : sc_takeItem_w c = (if (sc_takeWord_r 0 c) = 0 then (if (sc_takeWord_r 2 c) = 0 then (if (sc_takeWord_r 3 c) = 0 then (if (sc_takeWord_r 4 c) = 0 then (sc_reject_w c) else (ug (tvw (1) (9) 1 (nxW c)) 1 10 (tvr (1) (9) 1 (nxW c)))) else (ug (tvw (0) (60) 1 (nxW c)) 1 7 (tvr (0) (60) 1 (nxW c)))) else (ug (sc_takeSigned_w (-200) (200) (nxW c)) 1 6 (sc_takeSigned_r (-200) (200) (nxW c)))) else (sc_takeStation_w (nxW c))) := by
      unfold sc_takeItem_w
      exact if_pos (b2z c1f)
    by_cases c0 : iwS 0 c = true
    · have er : ct_readsItem_r r = ct_readsStation_r r := by
        unfold ct_readsItem_r
        rw [if_neg (b2n (i0.trans c0))]
      have eW : ct_readsItem_w r = ct_readsStation_w r := by
        unfold ct_readsItem_w
        rw [if_neg (b2n (i0.trans c0))]
      rw [er, eW, eT, if_neg (by rw [T, c0]; decide)]
      exact it_station (TR_nx h)
    have c0f := bf _ c0
    by_cases c3 : iwS 2 c = true
    · have er : ct_readsItem_r r = ct_set6_r r := by
        unfold ct_readsItem_r
        rw [if_pos (b2z (i0.trans c0f)), if_pos (b2z (i1.trans c1f)), if_neg (b2n (i3.trans c3))]
      have eW : ct_readsItem_w r = ct_set6_w r := by
        unfold ct_readsItem_w
        rw [if_pos (b2z (i0.trans c0f)), if_pos (b2z (i1.trans c1f)), if_neg (b2n (i3.trans c3))]
      rw [er, eW, eT, if_pos (by rw [T, c0f]), if_neg (by rw [T, c3]; decide)]
      exact it_set6 h
    have c3f := bf _ c3
    by_cases c4 : iwS 3 c = true
    · have er : ct_readsItem_r r = ct_set7_r r := by
        unfold ct_readsItem_r
        rw [if_pos (b2z (i0.trans c0f)), if_pos (b2z (i1.trans c1f)), if_pos (b2z (i3.trans c3f)), if_neg (b2n (i4.trans c4))]
      have eW : ct_readsItem_w r = ct_set7_w r := by
        unfold ct_readsItem_w
        rw [if_pos (b2z (i0.trans c0f)), if_pos (b2z (i1.trans c1f)), if_pos (b2z (i3.trans c3f)), if_neg (b2n (i4.trans c4))]
      rw [er, eW, eT, if_pos (by rw [T, c0f]), if_pos (by rw [T, c3f]), if_neg (by rw [T, c4]; decide)]
      exact it_set7 h
    have c4f := bf _ c4
    by_cases c5 : iwS 4 c = true
    · have q := it_set10 h
      have er : (ct_readsItem_r r = 0) = (ct_set10_r r = 0) := by
        unfold ct_readsItem_r
        rw [if_pos (b2z (i0.trans c0f)), if_pos (b2z (i1.trans c1f)), if_pos (b2z (i3.trans c3f)), if_pos (b2z (i4.trans c4f)), if_neg (b2n (i5.trans c5))]
        by_cases z : ct_set10_r r = 0
        · rw [if_pos z]; exact propext ⟨fun _ => z, fun _ => rfl⟩
        · rw [if_neg z]; exact propext ⟨fun w => absurd w (by decide), fun w => absurd w z⟩
      have eW : ct_readsItem_w r = ct_set10_w r := by
        unfold ct_readsItem_w
        rw [if_pos (b2z (i0.trans c0f)), if_pos (b2z (i1.trans c1f)), if_pos (b2z (i3.trans c3f)), if_pos (b2z (i4.trans c4f)), if_neg (b2n (i5.trans c5))]
      unfold OUT
      rw [er, eW, eT, if_pos (by rw [T, c0f]), if_pos (by rw [T, c3f]), if_pos (by rw [T, c4f]), if_neg (by rw [T, c5]; decide)]
      exact q
    have c5f := bf _ c5
    right
    refine ⟨?_, ?_⟩
    · unfold ct_readsItem_r
      rw [if_pos (b2z (i0.trans c0f)), if_pos (b2z (i1.trans c1f)), if_pos (b2z (i3.trans c3f)), if_pos (b2z (i4.trans c4f)), if_pos (b2z (i5.trans c5f))]
    · have eW : ct_readsItem_w r = r := by
        unfold ct_readsItem_w
        rw [if_pos (b2z (i0.trans c0f)), if_pos (b2z (i1.trans c1f)), if_pos (b2z (i3.trans c3f)), if_pos (b2z (i4.trans c4f)), if_pos (b2z (i5.trans c5f))]
      rw [eW, eT, if_pos (by rw [T, c0f]), if_pos (by rw [T, c3f]), if_pos (by rw [T, c4f]), if_pos (by rw [T, c5f]), show sc_reject_w c = ug c 0 20 (c 0 9) from if_pos h.1]
      exact TF_rj h
theorem rs_rl : ∀ (q : Nat) {s : Int32} {c r : Nat → Nat → Int32}, OUT d s c r → (TR d c r → cl (r 0 4) - cl (r 0 9) ≤ q) → OUT d (rl (q + 1) s r).1 (rsL q c) (rl (q + 1) s r).2 := by
  intro q
  induction q with
  | zero =>
    intro s c r h hm
    rw [rsL_0]
    rcases h with ⟨hs, h⟩ | ⟨hs, h⟩
    · rw [rl_e hs (by have := hm h; omega)]
      exact Or.inl ⟨hs, h⟩
    · rw [rl_z hs]
      exact Or.inr ⟨hs, h⟩
  | succ q ih =>
    intro s c r h hm
    rcases h with ⟨hs, h⟩ | ⟨hs, h⟩
    · have e4 := h.2.2.1 4 (by omega)
      have e9 := h.2.2.1 9 (by omega)
      by_cases c1 : cl (r 0 4) ≤ cl (r 0 9)
      · rw [rl_e hs c1, rsL_e h.1 (b2n (decide_eq_true (by rw [← e4, ← e9]; exact c1)))]
        exact Or.inl ⟨hs, h⟩
      · rw [rsL_s h.1 (b2z (decide_eq_false (by rw [← e4, ← e9]; exact c1)))]
        have c2 : cl (r 0 9) < cl (r 0 4) := by omega
        have i6 := iw_one (k := 6) (x := 59) (by decide) (by decide) (by decide) (by decide) h
        by_cases c3 : r 3 (cl (r 0 9)) = 59
        · rw [rl_s hs c2 c3]
          have j6 : iwS 6 c = true := by rw [i6, ← e4, ← e9, ← h.t3]; exact ⟨c2, c3⟩
          have eS : sc_takeSeparator_w c = nxW c := by
            unfold sc_takeSeparator_w sc_takeSeparator_v1
            rw [if_neg (by rw [show (sc_takeWord_r 6 c = 0) = (iwS 6 c = false) from twr_0 h, j6]; decide)]
            exact tww_t h j6
          rw [eS]
          refine ih (it_item (TR_nx h)) (fun _ => ?_)
          have z := ad_step (tk_of' h) c2
          have hq := hm h
          rw [z.2.1]
          have := z.2.2
          omega
        · rw [rl_n hs c2 c3]
          have j6 : iwS 6 c = false := by
            cases z : iwS 6 c
            · rfl
            · rw [i6, ← e4, ← e9, ← h.t3] at z
              exact absurd z.2 c3
          have hF := TF_rj h
          have eS : sc_takeSeparator_w c = ug c 0 20 (c 0 9) := by
            unfold sc_takeSeparator_w sc_takeSeparator_v2 sc_takeSeparator_v1
            rw [if_pos (by rw [show (sc_takeWord_r 6 c = 0) = (iwS 6 c = false) from twr_0 h]; exact j6), tww_f h j6]
            exact if_pos h.1
          rw [eS, ti_id hF.2]
          have eL : rsL q (ug c 0 20 (c 0 9)) = ug c 0 20 (c 0 9) := by
            cases q with
            | zero => rfl
            | succ q => exact rsL_f hF.2
          rw [eL]
          exact Or.inr ⟨rfl, hF⟩
    · rw [rl_z hs, rsL_f h.2]
      exact Or.inr ⟨hs, h⟩
end SE
