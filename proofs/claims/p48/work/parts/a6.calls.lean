/-! THE DEEDS -/
theorem bm_of6 {x y : Int32} {S9 : Nat} (hy : y = nI S9) (hS : S9 ≤ 16) (h : 0 ≤ x ∧ x ≤ 6 * y - 1) : bmK S9 x := by
  obtain ⟨j, hj, e⟩ := path_of (n := 6 * S9) (by rw [hy, show (6 : Int32) = nI 6 from rfl, pk_mul]) (by omega) h
  exact ⟨j, hj, e⟩
theorem ng_thr {g : Nat → Nat → Int32} (h : thrK g) : ¬ g 1 6 ≤ -100001 := by
  intro z
  unfold thrK at h
  exact absurd (Int32.le_trans h z) (by decide)
theorem jd_setThreshold {l : Launch} {D : va_G} {cA : FieldType → ClassId} {z0 : Nat} {SK : Nat → Nat} {SV : Nat → Int32} {S : Nat → Nat} {sep : Int32} {f : Nat} (x : Int32) : dD l D cA z0 SK SV S 5 f sep yX8_setThreshold cX8_setThreshold 3 3 [.int x] := by
  intro ad hE g s σ τ ρ c9 I
  obtain ⟨n, hg⟩ := I.2.1
  have hσ := I.1
  have hb := I.bo
  have hρ := I.2.2.2.1
  have hc := I.2.2.1
  have hs := inv_st hg
  have hk := inv_bk hg
  obtain ⟨k1, k2, k3, k4, k5, k6⟩ := inv_sec hg
  by_cases u0 : -200 ≤ x ∧ x ≤ 200
  rotate_left
  · have w0 : wnI x (-200) (200) = 0 := by rw [wnI_0]; exact u0
    exact dd_no (x := -100002) I (fc_setThreshold hE g s σ τ hσ ρ c9 x hb hρ hc) (by simp only [fc_setThreshold_r, if_pos w0]) (by decide) (by simp only [fc_setThreshold_w, if_pos w0]) (by omega)
  have w0 : ¬ wnI x (-200) (200) = 0 := by rw [wnI_0]; exact fun z => z u0
  exact dd_ok (g1 := ug g 1 6 x) (x := g 1 6) I (fc_setThreshold hE g s σ τ hσ ρ c9 x hb hρ hc) (by simp only [fc_setThreshold_r, if_neg w0]) (ng_thr hg.2.1) (by simp only [fc_setThreshold_w, if_neg w0]) hσ (inv_6 hg u0.1) (dX_c (P := (fun k => (5 ≤ k ∧ k ≤ 12) ∨ (55 ≤ k ∧ k < 103))) (K := 0) (cR_ug cR_rf (by omega) (by omega) (by omega)) (by omega) hk (fun k h1 h2 => by unfold pBk at h1; omega) (by omega) (by omega) (by omega))
theorem jd_setFade {l : Launch} {D : va_G} {cA : FieldType → ClassId} {z0 : Nat} {SK : Nat → Nat} {SV : Nat → Int32} {S : Nat → Nat} {sep : Int32} {f : Nat} (x y : Int32) : dD l D cA z0 SK SV S 6 f sep yX8_setFade cX8_setFade 4 3 [.int x, .int y] := by
  intro ad hE g s σ τ ρ c9 I
  obtain ⟨n, hg⟩ := I.2.1
  have hσ := I.1
  have hb := I.bo
  have hρ := I.2.2.2.1
  have hc := I.2.2.1
  have hs := inv_st hg
  have hk := inv_bk hg
  obtain ⟨k1, k2, k3, k4, k5, k6⟩ := inv_sec hg
  by_cases u0 : 0 ≤ x ∧ x ≤ 60
  rotate_left
  · have w0 : wnI x (0) (60) = 0 := by rw [wnI_0]; exact u0
    exact dd_no (x := -100002) I (fc_setFade hE g s σ τ hσ ρ c9 x y hb hρ hc) (by simp only [fc_setFade_r, if_pos w0]) (by decide) (by simp only [fc_setFade_w, if_pos w0]) (by omega)
  have w0 : ¬ wnI x (0) (60) = 0 := by rw [wnI_0]; exact fun z => z u0
  exact dd_ok (g1 := ug (ug g 1 7 x) 1 5 y) (x := g 1 7) I (fc_setFade hE g s σ τ hσ ρ c9 x y hb hρ hc) (by simp only [fc_setFade_r, if_neg w0]) (by obtain ⟨a, ha, ha2⟩ := hs.2.2.1; exact ng_x ha (by omega)) (by simp only [fc_setFade_w, if_neg w0]) hσ (inv_u (inv_7 hg (nI_rg rfl u0)) (by omega)) (dX_c (P := (fun k => (5 ≤ k ∧ k ≤ 12) ∨ (55 ≤ k ∧ k < 103))) (K := 0) (cR_u5 (cR_ug cR_rf (by omega) (by omega) (by omega))) (by omega) hk (fun k h1 h2 => by unfold pBk at h1; omega) (by omega) (by omega) (by omega))
theorem jd_setTracking {l : Launch} {D : va_G} {cA : FieldType → ClassId} {z0 : Nat} {SK : Nat → Nat} {SV : Nat → Int32} {S : Nat → Nat} {sep : Int32} {f : Nat} (on x : Int32) (ho : on = 0 ∨ on = 1) : dD l D cA z0 SK SV S 7 f sep yX8_setTracking cX8_setTracking 4 3 [.int on, .int x] := by
  intro ad hE g s σ τ ρ c9 I
  obtain ⟨n, hg⟩ := I.2.1
  have hσ := I.1
  have hb := I.bo
  have hρ := I.2.2.2.1
  have hc := I.2.2.1
  have hs := inv_st hg
  have hk := inv_bk hg
  obtain ⟨k1, k2, k3, k4, k5, k6⟩ := inv_sec hg
  by_cases u0 : 0 ≤ x ∧ x ≤ 40
  rotate_left
  · have w0 : wnI x (0) (40) = 0 := by rw [wnI_0]; exact u0
    exact dd_no (x := -100002) I (fc_setTracking hE g s σ τ hσ ρ c9 on x hb hρ hc ho) (by simp only [fc_setTracking_r, if_pos w0]) (by decide) (by simp only [fc_setTracking_w, if_pos w0]) (by omega)
  have w0 : ¬ wnI x (0) (40) = 0 := by rw [wnI_0]; exact fun z => z u0
  exact dd_ok (g1 := ug (ug g 1 8 on) 1 9 x) (x := btI (g 1 8)) I (fc_setTracking hE g s σ τ hσ ρ c9 on x hb hρ hc ho) (by simp only [fc_setTracking_r, if_neg w0]) (by rw [btI_b hg.2.2.2.2.2.1]; exact ng_b01 hg.2.2.2.2.2.1) (by simp only [fc_setTracking_w, if_neg w0]) hσ (inv_u (inv_8 hg ho) (by omega)) (dX_c (P := (fun k => (5 ≤ k ∧ k ≤ 12) ∨ (55 ≤ k ∧ k < 103))) (K := 0) (cR_ug (cR_ug cR_rf (by omega) (by omega) (by omega)) (by omega) (by omega) (by omega)) (by omega) hk (fun k h1 h2 => by unfold pBk at h1; omega) (by omega) (by omega) (by omega))
theorem jd_setRecovery {l : Launch} {D : va_G} {cA : FieldType → ClassId} {z0 : Nat} {SK : Nat → Nat} {SV : Nat → Int32} {S : Nat → Nat} {sep : Int32} {f : Nat} (x on : Int32) (ho : on = 0 ∨ on = 1) : dD l D cA z0 SK SV S 8 f sep yX8_setRecovery cX8_setRecovery 4 3 [.int x, .int on] := by
  intro ad hE g s σ τ ρ c9 I
  obtain ⟨n, hg⟩ := I.2.1
  have hσ := I.1
  have hb := I.bo
  have hρ := I.2.2.2.1
  have hc := I.2.2.1
  have hs := inv_st hg
  have hk := inv_bk hg
  obtain ⟨k1, k2, k3, k4, k5, k6⟩ := inv_sec hg
  by_cases u0 : 1 ≤ x ∧ x ≤ 9
  rotate_left
  · have w0 : wnI x (1) (9) = 0 := by rw [wnI_0]; exact u0
    exact dd_no (x := -100002) I (fc_setRecovery hE g s σ τ hσ ρ c9 x on hb hρ hc ho) (by simp only [fc_setRecovery_r, if_pos w0]) (by decide) (by simp only [fc_setRecovery_w, if_pos w0]) (by omega)
  have w0 : ¬ wnI x (1) (9) = 0 := by rw [wnI_0]; exact fun z => z u0
  exact dd_ok (g1 := ug (ug g 1 10 x) 1 11 on) (x := g 1 10) I (fc_setRecovery hE g s σ τ hσ ρ c9 x on hb hρ hc ho) (by simp only [fc_setRecovery_r, if_neg w0]) (ng_pos (Int32.le_of_lt hg.2.2.2.1)) (by simp only [fc_setRecovery_w, if_neg w0]) hσ (inv_11 (inv_10 hg (pos_of1 u0.1)) ho) (dX_c (P := (fun k => (5 ≤ k ∧ k ≤ 12) ∨ (55 ≤ k ∧ k < 103))) (K := 0) (cR_ug (cR_ug cR_rf (by omega) (by omega) (by omega)) (by omega) (by omega) (by omega)) (by omega) hk (fun k h1 h2 => by unfold pBk at h1; omega) (by omega) (by omega) (by omega))
theorem jd_rotate0 {l : Launch} {D : va_G} {cA : FieldType → ClassId} {z0 : Nat} {SK : Nat → Nat} {SV : Nat → Int32} {S : Nat → Nat} {sep : Int32} {f : Nat} (x : Int32) : dD l D cA z0 SK SV S 0 f sep yX8_rotate cX8_rotate 4 3 [.int (0), .int x] := by
  intro ad hE g s σ τ ρ c9 I
  obtain ⟨n, hg⟩ := I.2.1
  have hσ := I.1
  have hb := I.bo
  have hρ := I.2.2.2.1
  have hc := I.2.2.1
  have hs := inv_st hg
  have hk := inv_bk hg
  obtain ⟨k1, k2, k3, k4, k5, k6⟩ := inv_sec hg
  by_cases u0 : -63 ≤ x ∧ x ≤ 63
  rotate_left
  · have w0 : wnI x (-63) (63) = 0 := by rw [wnI_0]; exact u0
    exact dd_no (x := -100002) I (fc_rotate0 hE g s σ τ hσ ρ c9 x hb hρ hc) (by simp only [fc_rotate0_r, if_pos w0]) (by decide) (by simp only [fc_rotate0_w, if_pos w0]) (by omega)
  have w0 : ¬ wnI x (-63) (63) = 0 := by rw [wnI_0]; exact fun z => z u0
  exact dd_ok (g1 := ug g 1 16 (trnI (g 1 16) x)) (x := trnI (g 1 16) x) I (fc_rotate0 hE g s σ τ hσ ρ c9 x hb hρ hc) (by simp only [fc_rotate0_r, if_neg w0]) (by obtain ⟨a, ha, ha2⟩ := and63 (g 1 16 + x); exact ng_x ha2 (by omega)) (by simp only [fc_rotate0_w, if_neg w0]) hσ (inv_u hg (by omega)) ⟨⟨fun k => k = 16, cR_k (cR_ug cR_rf rfl (by omega) (by omega)) (by omega)⟩, fun d hd => apK_0 hd (fun k h1 => by unfold pBk at h1; exact ug_ne (by omega)), fun z => by omega, fun z => by omega⟩
theorem jd_rotate1 {l : Launch} {D : va_G} {cA : FieldType → ClassId} {z0 : Nat} {SK : Nat → Nat} {SV : Nat → Int32} {S : Nat → Nat} {sep : Int32} {f : Nat} (x : Int32) : dD l D cA z0 SK SV S 0 f sep yX8_rotate cX8_rotate 4 3 [.int (1), .int x] := by
  intro ad hE g s σ τ ρ c9 I
  obtain ⟨n, hg⟩ := I.2.1
  have hσ := I.1
  have hb := I.bo
  have hρ := I.2.2.2.1
  have hc := I.2.2.1
  have hs := inv_st hg
  have hk := inv_bk hg
  obtain ⟨k1, k2, k3, k4, k5, k6⟩ := inv_sec hg
  by_cases u0 : -63 ≤ x ∧ x ≤ 63
  rotate_left
  · have w0 : wnI x (-63) (63) = 0 := by rw [wnI_0]; exact u0
    exact dd_no (x := -100002) I (fc_rotate1 hE g s σ τ hσ ρ c9 x hb hρ hc) (by simp only [fc_rotate1_r, if_pos w0]) (by decide) (by simp only [fc_rotate1_w, if_pos w0]) (by omega)
  have w0 : ¬ wnI x (-63) (63) = 0 := by rw [wnI_0]; exact fun z => z u0
  exact dd_ok (g1 := ug g 1 36 (trnI (g 1 36) x)) (x := trnI (g 1 36) x) I (fc_rotate1 hE g s σ τ hσ ρ c9 x hb hρ hc) (by simp only [fc_rotate1_r, if_neg w0]) (by obtain ⟨a, ha, ha2⟩ := and63 (g 1 36 + x); exact ng_x ha2 (by omega)) (by simp only [fc_rotate1_w, if_neg w0]) hσ (inv_u hg (by omega)) ⟨⟨fun k => k = 36, cR_k (cR_ug cR_rf rfl (by omega) (by omega)) (by omega)⟩, fun d hd => apK_0 hd (fun k h1 => by unfold pBk at h1; exact ug_ne (by omega)), fun z => by omega, fun z => by omega⟩
theorem jd_addPath {l : Launch} {D : va_G} {cA : FieldType → ClassId} {z0 : Nat} {SK : Nat → Nat} {SV : Nat → Int32} {S : Nat → Nat} {sep : Int32} {f : Nat} (x y z : Int32) : dD l D cA z0 SK SV S 1 f sep yX8_addPath cX8_addPath 4 3 [.int x, .int y, .int z] := by
  intro ad hE g s σ τ ρ c9 I
  obtain ⟨n, hg⟩ := I.2.1
  have hσ := I.1
  have hb := I.bo
  have hρ := I.2.2.2.1
  have hc := I.2.2.1
  have hs := inv_st hg
  have hk := inv_bk hg
  obtain ⟨k1, k2, k3, k4, k5, k6⟩ := inv_sec hg
  have h12 : g 1 12 = nI n := hs.1
  have h8 := hs.2.1
  by_cases u0 : 0 ≤ x ∧ x ≤ 63
  rotate_left
  · have w0 : wnI x (0) (63) = 0 := by rw [wnI_0]; exact u0
    exact dd_no (x := -100002) I (fc_addPath hE g s σ τ hσ ρ c9 n x y z hb hρ hc h12 h8) (by simp only [fc_addPath_r, if_pos w0]) (by decide) (by simp only [fc_addPath_w, if_pos w0]) (by omega)
  have w0 : ¬ wnI x (0) (63) = 0 := by rw [wnI_0]; exact fun z => z u0
  by_cases u1 : 0 ≤ y ∧ y ≤ 63
  rotate_left
  · have w1 : wnI y (0) (63) = 0 := by rw [wnI_0]; exact u1
    exact dd_no (x := -100002) I (fc_addPath hE g s σ τ hσ ρ c9 n x y z hb hρ hc h12 h8) (by simp only [fc_addPath_r, if_neg w0, if_pos w1]) (by decide) (by simp only [fc_addPath_w, if_neg w0, if_pos w1]) (by omega)
  have w1 : ¬ wnI y (0) (63) = 0 := by rw [wnI_0]; exact fun z => z u1
  by_cases u2 : 0 ≤ z ∧ z ≤ 300
  rotate_left
  · have w2 : wnI z (0) (300) = 0 := by rw [wnI_0]; exact u2
    exact dd_no (x := -100002) I (fc_addPath hE g s σ τ hσ ρ c9 n x y z hb hρ hc h12 h8) (by simp only [fc_addPath_r, if_neg w0, if_neg w1, if_pos w2]) (by decide) (by simp only [fc_addPath_w, if_neg w0, if_neg w1, if_pos w2]) (by omega)
  have w2 : ¬ wnI z (0) (300) = 0 := by rw [wnI_0]; exact fun z => z u2
  by_cases c8 : n < 8
  · refine dd_ok (g1 := appG n x y z 0 0 g) (x := nI n) I (fc_addPath hE g s σ τ hσ ρ c9 n x y z hb hρ hc h12 h8) (by simp only [fc_addPath_r, if_neg w0, if_neg w1, if_neg w2, if_pos c8]; rw [ap_12, h12, nI_1, show (1 : Int32) = nI 1 from rfl, pk_sub (by omega)]; rfl) (ng_nI (by omega)) (by simp only [fc_addPath_w, if_neg w0, if_neg w1, if_neg w2, if_pos c8]) hσ (inv_app c8 hg (nI_rg rfl u2)) ?_
    refine dX_c (P := fun k => k = 12 ∨ (55 ≤ k ∧ k < 103)) (K := 0) ?_ (by omega) hk (fun k h1 h2 => by unfold pBk at h1; omega) (by omega) (by omega) (by omega)
    unfold appG
    exact cR_ug (cR_ug (cR_ug (cR_ug (cR_ug (cR_ug (cR_ug cR_rf (by omega) (by omega) (by omega)) (by omega) (by omega) (by omega)) (by omega) (by omega) (by omega)) (by omega) (by omega) (by omega)) (by omega) (by omega) (by omega)) (by omega) (by omega) (by omega)) (by omega) (by omega) (by omega)
  · exact dd_no (x := -100004) I (fc_addPath hE g s σ τ hσ ρ c9 n x y z hb hρ hc h12 h8) (by simp only [fc_addPath_r, if_neg w0, if_neg w1, if_neg w2, if_neg c8]) (by decide) (by simp only [fc_addPath_w, if_neg w0, if_neg w1, if_neg w2, if_neg c8]) (by omega)
theorem jd_removePath {l : Launch} {D : va_G} {cA : FieldType → ClassId} {z0 : Nat} {SK : Nat → Nat} {SV : Nat → Int32} {S : Nat → Nat} {sep : Int32} {f : Nat} (a : Int32) : dD l D cA z0 SK SV S 2 f sep yX8_removePath cX8_removePath 2 3 [.int a] := by
  intro ad hE g s σ τ ρ c9 I
  obtain ⟨n, hg⟩ := I.2.1
  have hσ := I.1
  have hb := I.bo
  have hρ := I.2.2.2.1
  have hc := I.2.2.1
  have hs := inv_st hg
  have hk := inv_bk hg
  obtain ⟨k1, k2, k3, k4, k5, k6⟩ := inv_sec hg
  have h12 : g 1 12 = nI n := hs.1
  have h8 := hs.2.1
  by_cases c : 0 ≤ a ∧ a ≤ g 1 12 - 1
  rotate_left
  · exact dd_no (x := -100001) I (fc_removePathx hE g s σ τ hσ ρ c9 a (hp_x h12 h8 c)) rfl (by decide) rfl (by omega)
  obtain ⟨q, hq, rfl⟩ := path_of h12 (by omega) c
  have e12 : drG q g 1 12 = nI (n - 1) := by rw [dr_122, h12, show (1 : Int32) = nI 1 from rfl, pk_sub (by omega)]
  refine dd_ok (x := drG q g 1 12) I (fc_removePath hE g s σ τ hσ ρ c9 n q hb hρ hc h12 h8 hq) rfl (ng_x e12 (by omega)) rfl (pmF_up hσ (dr_pm (hσ 0 (by omega)) (by omega))) (inv_rm hg hq dr_122 (fun k a b => dr_at2 a (by omega)) (fun k a b => dr_q2 h8 a b)) ?_
  refine dX_c (P := fun k => k = 12 ∨ (55 ≤ k ∧ k < 103)) (K := 0) ⟨0, 0, by omega, by omega, by omega, (dr_at2 (by omega) (by omega)).trans aI_0.symm, (dr_at2 (by omega) (by omega)).trans aI_0.symm, fun k hk _ _ _ => dr_at2 (by omega) (by omega)⟩ (by omega) hk (fun k h1 h2 => by unfold pBk at h1; omega) (by omega) (by omega) (by omega)
theorem jd_setDrift {l : Launch} {D : va_G} {cA : FieldType → ClassId} {z0 : Nat} {SK : Nat → Nat} {SV : Nat → Int32} {S : Nat → Nat} {sep : Int32} {f : Nat} (a x y : Int32) : dD l D cA z0 SK SV S 3 f sep yX8_setDrift cX8_setDrift 4 3 [.int a, .int x, .int y] := by
  intro ad hE g s σ τ ρ c9 I
  obtain ⟨n, hg⟩ := I.2.1
  have hσ := I.1
  have hb := I.bo
  have hρ := I.2.2.2.1
  have hc := I.2.2.1
  have hs := inv_st hg
  have hk := inv_bk hg
  obtain ⟨k1, k2, k3, k4, k5, k6⟩ := inv_sec hg
  have h12 : g 1 12 = nI n := hs.1
  have h8 := hs.2.1
  by_cases c : 0 ≤ a ∧ a ≤ g 1 12 - 1
  rotate_left
  · exact dd_no (x := -100001) I (fc_setDriftx hE g s σ τ hσ ρ c9 a x y (hp_x h12 h8 c)) rfl (by decide) rfl (by omega)
  obtain ⟨q, hq, rfl⟩ := path_of h12 (by omega) c
  by_cases u0 : -3 ≤ x ∧ x ≤ 3
  rotate_left
  · have w0 : wnI x (-3) (3) = 0 := by rw [wnI_0]; exact u0
    exact dd_no (x := -100002) I (fc_setDrift hE g s σ τ hσ ρ c9 n q x y hb hρ hc h12 h8 hq) (by simp only [fc_setDrift_r, if_pos w0]) (by decide) (by simp only [fc_setDrift_w, if_pos w0]) (by omega)
  have w0 : ¬ wnI x (-3) (3) = 0 := by rw [wnI_0]; exact fun z => z u0
  by_cases u1 : -3 ≤ y ∧ y ≤ 3
  rotate_left
  · have w1 : wnI y (-3) (3) = 0 := by rw [wnI_0]; exact u1
    exact dd_no (x := -100002) I (fc_setDrift hE g s σ τ hσ ρ c9 n q x y hb hρ hc h12 h8 hq) (by simp only [fc_setDrift_r, if_neg w0, if_pos w1]) (by decide) (by simp only [fc_setDrift_w, if_neg w0, if_pos w1]) (by omega)
  have w1 : ¬ wnI y (-3) (3) = 0 := by rw [wnI_0]; exact fun z => z u1
  exact dd_ok (g1 := ug (ug g 1 (55 + 6 * q + 4) x) 1 (55 + 6 * q + 5) y) (x := 1) I (fc_setDrift hE g s σ τ hσ ρ c9 n q x y hb hρ hc h12 h8 hq) (by simp only [fc_setDrift_r, if_neg w0, if_neg w1]) (by decide) (by simp only [fc_setDrift_w, if_neg w0, if_neg w1]) hσ (inv_pth (r := 5) (inv_pth (r := 4) hg hq (by omega) (fun z => by omega) (fun z => by omega)) hq (by omega) (fun z => by omega) (fun z => by omega)) (dX_c (P := (fun k => (5 ≤ k ∧ k ≤ 12) ∨ (55 ≤ k ∧ k < 103))) (K := 0) (cR_ug (cR_ug cR_rf (by omega) (by omega) (by omega)) (by omega) (by omega) (by omega)) (by omega) hk (fun k h1 h2 => by unfold pBk at h1; omega) (by omega) (by omega) (by omega))
theorem jd_setBlock {l : Launch} {D : va_G} {cA : FieldType → ClassId} {z0 : Nat} {SK : Nat → Nat} {SV : Nat → Int32} {S : Nat → Nat} {sep : Int32} {f : Nat} (a x : Int32) : dD l D cA z0 SK SV S 4 f sep yX8_setBlock cX8_setBlock 4 3 [.int a, .int x] := by
  intro ad hE g s σ τ ρ c9 I
  obtain ⟨n, hg⟩ := I.2.1
  have hσ := I.1
  have hb := I.bo
  have hρ := I.2.2.2.1
  have hc := I.2.2.1
  have hs := inv_st hg
  have hk := inv_bk hg
  obtain ⟨k1, k2, k3, k4, k5, k6⟩ := inv_sec hg
  have h12 : g 1 12 = nI n := hs.1
  have h8 := hs.2.1
  by_cases c : 0 ≤ a ∧ a ≤ g 1 12 - 1
  rotate_left
  · exact dd_no (x := -100001) I (fc_setBlockx hE g s σ τ hσ ρ c9 a x (hp_x h12 h8 c)) rfl (by decide) rfl (by omega)
  obtain ⟨q, hq, rfl⟩ := path_of h12 (by omega) c
  by_cases u0 : 0 ≤ x ∧ x ≤ 200
  rotate_left
  · have w0 : wnI x (0) (200) = 0 := by rw [wnI_0]; exact u0
    exact dd_no (x := -100002) I (fc_setBlock hE g s σ τ hσ ρ c9 n q x hb hρ hc h12 h8 hq) (by simp only [fc_setBlock_r, if_pos w0]) (by decide) (by simp only [fc_setBlock_w, if_pos w0]) (by omega)
  have w0 : ¬ wnI x (0) (200) = 0 := by rw [wnI_0]; exact fun z => z u0
  exact dd_ok (g1 := ug g 1 (55 + 6 * q + 3) x) (x := g 1 (55 + 6 * q + 3)) I (fc_setBlock hE g s σ τ hσ ρ c9 n q x hb hρ hc h12 h8 hq) (by simp only [fc_setBlock_r, if_neg w0]) (by obtain ⟨b, hb1, hb2⟩ := (hs.2.2.2.2.2.2.2 q hq).2; rw [show 55 + 6 * q + 3 = 58 + 6 * q by omega]; exact ng_x hb1 (by omega)) (by simp only [fc_setBlock_w, if_neg w0]) hσ (inv_pth (r := 3) hg hq (by omega) (fun z => by omega) (fun _ => nI_rg rfl u0)) (dX_c (P := (fun k => (5 ≤ k ∧ k ≤ 12) ∨ (55 ≤ k ∧ k < 103))) (K := 0) (cR_ug cR_rf (by omega) (by omega) (by omega)) (by omega) hk (fun k h1 h2 => by unfold pBk at h1; omega) (by omega) (by omega) (by omega))
theorem jd_refine0 {l : Launch} {D : va_G} {cA : FieldType → ClassId} {z0 : Nat} {SK : Nat → Nat} {SV : Nat → Int32} {S : Nat → Nat} {sep : Int32} {f : Nat} : dD l D cA z0 SK SV S 9 f sep yX8_refine cX8_refine 2 5 [.int (0)] := by
  intro ad hE g s σ τ ρ c9 I
  obtain ⟨n, hg⟩ := I.2.1
  have hσ := I.1
  have hb := I.bo
  have hρ := I.2.2.2.1
  have hc := I.2.2.1
  have hs := inv_st hg
  have hk := inv_bk hg
  obtain ⟨k1, k2, k3, k4, k5, k6⟩ := inv_sec hg
  by_cases c : g 1 0 = 0
  · exact dd_no (x := -100003) I (fc_refine0 hE g s σ τ hσ ρ c9 n hb hρ hc hs) (by simp only [fc_refine0_r, if_pos c]) (by decide) (by simp only [fc_refine0_w, if_pos c]) (by omega)
  have hu : g 1 0 = 1 := hg.2.2.2.2.1.resolve_left c
  have hi2 := inv_rfE (f := 0) (by omega) hg hu
  exact dd_ok (g1 := rfE 0 n (rfT 0 n g)) (x := rfE 0 n (rfT 0 n g) 1 18) I (fc_refine0 hE g s σ τ hσ ρ c9 n hb hρ hc hs) (by simp only [fc_refine0_r, if_neg c]) (ng_bm (by omega) hi2.2.2.2.2.2.2.2.1.1) (by simp only [fc_refine0_w, if_neg c]) hσ hi2 (dX_c (P := pR 0) (K := 17) cR_rfE (by omega) hk (fun k h1 h2 => by unfold pBk at h1; unfold pR at h2; omega) (by omega) (by omega) (by omega))
theorem jd_select0 {l : Launch} {D : va_G} {cA : FieldType → ClassId} {z0 : Nat} {SK : Nat → Nat} {SV : Nat → Int32} {S : Nat → Nat} {sep : Int32} {f : Nat} (x : Int32) : dD l D cA z0 SK SV S 11 f sep yX8_select cX8_select 4 3 [.int (0), .int x] := by
  intro ad hE g s σ τ ρ c9 I
  obtain ⟨n, hg⟩ := I.2.1
  have hσ := I.1
  have hb := I.bo
  have hρ := I.2.2.2.1
  have hc := I.2.2.1
  have hs := inv_st hg
  have hk := inv_bk hg
  obtain ⟨k1, k2, k3, k4, k5, k6⟩ := inv_sec hg
  have qq := hbC_0 (x := x) k1 (by omega)
  by_cases c : 0 ≤ x ∧ x ≤ 6 * g 1 15 - 1
  · have c' : ¬ hbC (g 1 15) x = 0 := by rw [qq]; exact fun z => z c
    have hbm : bmK (S 0) x := bm_of6 k1 (by omega) c
    exact dd_ok (g1 := ug g 1 18 x) (x := g 1 18) I (fc_select0 hE g s σ τ hσ ρ c9 x hb hρ hc) (by simp only [fc_select0_r, if_neg c']) (ng_bm (by omega) hg.2.2.2.2.2.2.2.1.1) (by simp only [fc_select0_w, if_neg c']) hσ (inv_bm (s := 0) (by omega) hg hbm) (dX_c (P := pR 0) (K := 0) (cR_ug cR_rf rfl (by omega) (by omega)) (by omega) hk (fun k h1 h2 => by unfold pBk at h1; unfold pR at h2; omega) (by omega) (by omega) (by omega))
  · have c' : hbC (g 1 15) x = 0 := by rw [qq]; exact c
    exact dd_no (x := -100002) I (fc_select0 hE g s σ τ hσ ρ c9 x hb hρ hc) (by simp only [fc_select0_r, if_pos c']) (by decide) (by simp only [fc_select0_w, if_pos c']) (by omega)
theorem jd_sweep0 {l : Launch} {D : va_G} {cA : FieldType → ClassId} {z0 : Nat} {SK : Nat → Nat} {SV : Nat → Int32} {S : Nat → Nat} {sep : Int32} {f : Nat} : dD l D cA z0 SK SV S 12 0 sep yX8_sweep cX8_sweep 2 6 [.int (0)] := by
  intro ad hE g s σ τ ρ c9 I
  obtain ⟨n, hg⟩ := I.2.1
  have hσ := I.1
  have hb := I.bo
  have hρ := I.2.2.2.1
  have hc := I.2.2.1
  have hs := inv_st hg
  have hk := inv_bk hg
  obtain ⟨k1, k2, k3, k4, k5, k6⟩ := inv_sec hg
  have hE9 := inv_ev hg
  have q := dsw_up (n := n) (S := S) (f := 0) (g := g) (by omega) (by omega) (by omega) hE9
  have cd := cR_dsw (n := n) (S := S) (f := 0) (g := g) (by omega) (by omega) (by omega) hE9
  refine dd_ok (x := phR 0 n S g) I (fc_sweep0 hE g s σ τ hσ ρ c9 n S hb hρ hc hg) rfl ?_ rfl hσ (inv_rs (by omega) hg) ⟨⟨pS, cR_k cd (by omega)⟩, fun d hd => ?_, fun _ => ⟨q.1, q.2.1, ⟨_, q.2.2⟩, fun h0 => dsw_best (by omega) (by omega) (by omega) hE9 h0, fun h1 => dsw_none (by omega) (by omega) (by omega) hE9 h1⟩, fun z => by omega⟩
  · rcases pR_in (f := 0) (n := n) (S := S) (g := g) with h | h | h | h | h <;> rw [h] <;> decide
  · rw [if_neg (by omega), if_neg (by omega)]
    exact apK_eq hd hk fun k h1 => cR_at cd k (by unfold pBk at h1; unfold pS; omega) (by unfold pBk at h1; omega) (by unfold pBk at h1; omega) (by unfold pBk at h1; omega)
theorem jd_refine1 {l : Launch} {D : va_G} {cA : FieldType → ClassId} {z0 : Nat} {SK : Nat → Nat} {SV : Nat → Int32} {S : Nat → Nat} {sep : Int32} {f : Nat} : dD l D cA z0 SK SV S 9 f sep yX8_refine cX8_refine 2 5 [.int (1)] := by
  intro ad hE g s σ τ ρ c9 I
  obtain ⟨n, hg⟩ := I.2.1
  have hσ := I.1
  have hb := I.bo
  have hρ := I.2.2.2.1
  have hc := I.2.2.1
  have hs := inv_st hg
  have hk := inv_bk hg
  obtain ⟨k1, k2, k3, k4, k5, k6⟩ := inv_sec hg
  by_cases c : g 1 0 = 0
  · exact dd_no (x := -100003) I (fc_refine1 hE g s σ τ hσ ρ c9 n hb hρ hc hs) (by simp only [fc_refine1_r, if_pos c]) (by decide) (by simp only [fc_refine1_w, if_pos c]) (by omega)
  have hu : g 1 0 = 1 := hg.2.2.2.2.1.resolve_left c
  have hi2 := inv_rfE (f := 1) (by omega) hg hu
  exact dd_ok (g1 := rfE 1 n (rfT 1 n g)) (x := rfE 1 n (rfT 1 n g) 1 38) I (fc_refine1 hE g s σ τ hσ ρ c9 n hb hρ hc hs) (by simp only [fc_refine1_r, if_neg c]) (ng_bm (by omega) hi2.2.2.2.2.2.2.2.1.2) (by simp only [fc_refine1_w, if_neg c]) hσ hi2 (dX_c (P := pR 1) (K := 17) cR_rfE (by omega) hk (fun k h1 h2 => by unfold pBk at h1; unfold pR at h2; omega) (by omega) (by omega) (by omega))
theorem jd_select1 {l : Launch} {D : va_G} {cA : FieldType → ClassId} {z0 : Nat} {SK : Nat → Nat} {SV : Nat → Int32} {S : Nat → Nat} {sep : Int32} {f : Nat} (x : Int32) : dD l D cA z0 SK SV S 11 f sep yX8_select cX8_select 4 3 [.int (1), .int x] := by
  intro ad hE g s σ τ ρ c9 I
  obtain ⟨n, hg⟩ := I.2.1
  have hσ := I.1
  have hb := I.bo
  have hρ := I.2.2.2.1
  have hc := I.2.2.1
  have hs := inv_st hg
  have hk := inv_bk hg
  obtain ⟨k1, k2, k3, k4, k5, k6⟩ := inv_sec hg
  have qq := hbC_0 (x := x) k2 (by omega)
  by_cases c : 0 ≤ x ∧ x ≤ 6 * g 1 35 - 1
  · have c' : ¬ hbC (g 1 35) x = 0 := by rw [qq]; exact fun z => z c
    have hbm : bmK (S 1) x := bm_of6 k2 (by omega) c
    exact dd_ok (g1 := ug g 1 38 x) (x := g 1 38) I (fc_select1 hE g s σ τ hσ ρ c9 x hb hρ hc) (by simp only [fc_select1_r, if_neg c']) (ng_bm (by omega) hg.2.2.2.2.2.2.2.1.2) (by simp only [fc_select1_w, if_neg c']) hσ (inv_bm (s := 1) (by omega) hg hbm) (dX_c (P := pR 1) (K := 0) (cR_ug cR_rf rfl (by omega) (by omega)) (by omega) hk (fun k h1 h2 => by unfold pBk at h1; unfold pR at h2; omega) (by omega) (by omega) (by omega))
  · have c' : hbC (g 1 35) x = 0 := by rw [qq]; exact c
    exact dd_no (x := -100002) I (fc_select1 hE g s σ τ hσ ρ c9 x hb hρ hc) (by simp only [fc_select1_r, if_pos c']) (by decide) (by simp only [fc_select1_w, if_pos c']) (by omega)
theorem jd_sweep1 {l : Launch} {D : va_G} {cA : FieldType → ClassId} {z0 : Nat} {SK : Nat → Nat} {SV : Nat → Int32} {S : Nat → Nat} {sep : Int32} {f : Nat} : dD l D cA z0 SK SV S 12 1 sep yX8_sweep cX8_sweep 2 6 [.int (1)] := by
  intro ad hE g s σ τ ρ c9 I
  obtain ⟨n, hg⟩ := I.2.1
  have hσ := I.1
  have hb := I.bo
  have hρ := I.2.2.2.1
  have hc := I.2.2.1
  have hs := inv_st hg
  have hk := inv_bk hg
  obtain ⟨k1, k2, k3, k4, k5, k6⟩ := inv_sec hg
  have hE9 := inv_ev hg
  have q := dsw_up (n := n) (S := S) (f := 1) (g := g) (by omega) (by omega) (by omega) hE9
  have cd := cR_dsw (n := n) (S := S) (f := 1) (g := g) (by omega) (by omega) (by omega) hE9
  refine dd_ok (x := phR 1 n S g) I (fc_sweep1 hE g s σ τ hσ ρ c9 n S hb hρ hc hg) rfl ?_ rfl hσ (inv_rs (by omega) hg) ⟨⟨pS, cR_k cd (by omega)⟩, fun d hd => ?_, fun _ => ⟨q.1, q.2.1, ⟨_, q.2.2⟩, fun h0 => dsw_best (by omega) (by omega) (by omega) hE9 h0, fun h1 => dsw_none (by omega) (by omega) (by omega) hE9 h1⟩, fun z => by omega⟩
  · rcases pR_in (f := 1) (n := n) (S := S) (g := g) with h | h | h | h | h <;> rw [h] <;> decide
  · rw [if_neg (by omega), if_neg (by omega)]
    exact apK_eq hd hk fun k h1 => cR_at cd k (by unfold pBk at h1; unfold pS; omega) (by unfold pBk at h1; omega) (by unfold pBk at h1; omega) (by unfold pBk at h1; omega)
theorem jd_survey {l : Launch} {D : va_G} {cA : FieldType → ClassId} {z0 : Nat} {SK : Nat → Nat} {SV : Nat → Int32} {S : Nat → Nat} {sep : Int32} {f : Nat} (x : Int32) : dD l D cA z0 SK SV S 10 f x yX8_survey cX8_survey 2 6 [.int x] := by
  intro ad hE g s σ τ ρ c9 I
  obtain ⟨n, hg⟩ := I.2.1
  have hσ := I.1
  have hb := I.bo
  have hρ := I.2.2.2.1
  have hc := I.2.2.1
  have hs := inv_st hg
  have hk := inv_bk hg
  obtain ⟨k1, k2, k3, k4, k5, k6⟩ := inv_sec hg
  by_cases u0 : 1 ≤ x ∧ x ≤ 32
  rotate_left
  · have w0 : wnI x 1 32 = 0 := by rw [wnI_0]; exact u0
    exact dd_no (x := -100002) I (fc_survey hE g s σ τ hσ ρ c9 n (S 0) (S 1) x hb hρ hc hs k1 k2 k4 k6) (by simp only [fc_survey_r, if_pos w0]) (by decide) (by simp only [fc_survey_w, if_pos w0]) (by omega)
  have w0 : ¬ wnI x 1 32 = 0 := by rw [wnI_0]; exact fun z => z u0
  obtain ⟨q1, q2, q3⟩ := fbW_K (sep := x) hg
  obtain ⟨B, hB, hB3⟩ := inv_bk q1
  exact dd_ok (g1 := fbW n (S 0) (S 1) x g) (x := fbW n (S 0) (S 1) x g 1 13) I (fc_survey hE g s σ τ hσ ρ c9 n (S 0) (S 1) x hb hρ hc hs k1 k2 k4 k6) (by simp only [fc_survey_r, if_neg w0]) (ng_x hB (by omega)) (by simp only [fc_survey_w, if_neg w0]) hσ q1 ⟨⟨pBk, q2⟩, fun d _ => by rw [if_pos rfl]; exact q3, fun z => by omega, fun z => by omega⟩
theorem jd_pass {l : Launch} {D : va_G} {cA : FieldType → ClassId} {z0 : Nat} {SK : Nat → Nat} {SV : Nat → Int32} {S : Nat → Nat} {sep : Int32} {f : Nat} (kk : Nat) (hkk : 12 < kk) : dD l D cA z0 SK SV S kk f sep yX8_pass cX8_pass 3 7 [.int (nI 1)] := by
  intro ad hE g s σ τ ρ c9 I
  obtain ⟨n, hg⟩ := I.2.1
  have hσ := I.1
  have hb := I.bo
  have hρ := I.2.2.2.1
  have hc := I.2.2.1
  have hs := inv_st hg
  have hk := inv_bk hg
  obtain ⟨k1, k2, k3, k4, k5, k6⟩ := inv_sec hg
  have hi1 : invK (pasG n S g) n S := inv_pas hg
  obtain ⟨q1, q2, q3⟩ := pas_D hg
  refine dd_ok (x := btI (pasG n S g 1 0)) I (fc_pass hE g s σ τ hσ ρ c9 n S 1 hb hρ hc hg (by omega) (by omega)) rfl ?_ rfl hσ hi1 ⟨⟨pPB, cR_k q1 (by omega)⟩, fun d hd => ?_, fun z => by omega, fun _ => q3⟩
  · rw [btI_b hi1.2.2.2.2.1]; exact ng_b01 hi1.2.2.2.2.1
  · rw [if_neg (by omega), if_neg (by omega)]
    exact apK_sb hd hk q2 fun k h1 => cR_at q1 k (by unfold pPB pP pBk; omega) (by omega) (by omega) (by omega)
