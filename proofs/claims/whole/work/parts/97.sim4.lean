/-! a path more -/
theorem ap_12 {n : Nat} {x y z : Int32} {g : Nat → Nat → Int32} : appG n x y z 0 0 g 1 12 = g 1 12 + 1 := by
  unfold appG
  rw [ug_same, ug_ne (by omega), ug_ne (by omega), ug_ne (by omega), ug_ne (by omega), ug_ne (by omega), ug_ne (by omega)]
theorem ap_at {n k : Nat} {x y z : Int32} {g : Nat → Nat → Int32} (h : k ≠ 12) (h2 : k < 55 + 6 * n ∨ 61 + 6 * n ≤ k) : appG n x y z 0 0 g 1 k = g 1 k := by
  unfold appG
  rw [ug_ne (by omega), ug_ne (by omega), ug_ne (by omega), ug_ne (by omega), ug_ne (by omega), ug_ne (by omega), ug_ne (by omega)]
def apV (x y z : Int32) (r : Nat) : Int32 := if r = 0 then x else if r = 1 then y else if r = 2 then z else 0
theorem ap_r {n r : Nat} {x y z : Int32} {g : Nat → Nat → Int32} (h : r < 6) : appG n x y z 0 0 g 1 (55 + 6 * n + r) = apV x y z r := by
  rcases (show r = 0 ∨ r = 1 ∨ r = 2 ∨ r = 3 ∨ r = 4 ∨ r = 5 by omega) with rfl | rfl | rfl | rfl | rfl | rfl
  · unfold appG
    rw [ug_ne (by omega), ug_ne (by omega), ug_ne (by omega), ug_ne (by omega), ug_ne (by omega), ug_ne (by omega), ug_same]; rfl
  · unfold appG
    rw [ug_ne (by omega), ug_ne (by omega), ug_ne (by omega), ug_ne (by omega), ug_ne (by omega), ug_same]; rfl
  · unfold appG
    rw [ug_ne (by omega), ug_ne (by omega), ug_ne (by omega), ug_ne (by omega), ug_same]; rfl
  · unfold appG
    rw [ug_ne (by omega), ug_ne (by omega), ug_ne (by omega), ug_same]; rfl
  · unfold appG
    rw [ug_ne (by omega), ug_ne (by omega), ug_same]; rfl
  · unfold appG
    rw [ug_ne (by omega), ug_same]; rfl
def apZ (n : Nat) (x y z : Int32) (g : Nat → Nat → Int32) : Nat → Nat → Int32 := ug (ug (ug (ug (ug (ug (ug (ug (ug g 1 (55 + 6 * n + 0) 0) 1 (55 + 6 * n + 1) 0) 1 (55 + 6 * n + 2) 0) 1 (55 + 6 * n + 3) 0) 1 (55 + 6 * n + 4) 0) 1 (55 + 6 * n + 5) 0) 1 (55 + 6 * n + 0) x) 1 (55 + 6 * n + 1) y) 1 (55 + 6 * n + 2) z
theorem apZ_ne {n a k : Nat} {x y z : Int32} {g : Nat → Nat → Int32} (h : ¬ (a = 1 ∧ 55 + 6 * n ≤ k ∧ k < 61 + 6 * n)) : apZ n x y z g a k = g a k := by
  unfold apZ
  rw [ug_ne (by omega), ug_ne (by omega), ug_ne (by omega), ug_ne (by omega), ug_ne (by omega), ug_ne (by omega), ug_ne (by omega), ug_ne (by omega), ug_ne (by omega)]
theorem apZ_r {n r : Nat} {x y z : Int32} {g : Nat → Nat → Int32} (h : r < 6) : apZ n x y z g 1 (55 + 6 * n + r) = apV x y z r := by
  rcases (show r = 0 ∨ r = 1 ∨ r = 2 ∨ r = 3 ∨ r = 4 ∨ r = 5 by omega) with rfl | rfl | rfl | rfl | rfl | rfl
  · unfold apZ
    rw [ug_ne (by omega), ug_ne (by omega), ug_same]; rfl
  · unfold apZ
    rw [ug_ne (by omega), ug_same]; rfl
  · unfold apZ
    rw [ug_same]; rfl
  · unfold apZ
    rw [ug_ne (by omega), ug_ne (by omega), ug_ne (by omega), ug_ne (by omega), ug_ne (by omega), ug_same]; rfl
  · unfold apZ
    rw [ug_ne (by omega), ug_ne (by omega), ug_ne (by omega), ug_ne (by omega), ug_same]; rfl
  · unfold apZ
    rw [ug_ne (by omega), ug_ne (by omega), ug_ne (by omega), ug_same]; rfl
theorem apZ_eq {n : Nat} {x y z : Int32} {g : Nat → Nat → Int32} : ug (apZ n x y z g) 1 12 (apZ n x y z g 1 12 + 1) = appG n x y z 0 0 g := by
  funext a k
  by_cases c : a = 1
  · subst c
    by_cases c1 : k = 12
    · rw [c1, ug_same, ap_12, apZ_ne (by omega)]
    · rw [ug_ne (by omega)]
      by_cases c2 : 55 + 6 * n ≤ k ∧ k < 61 + 6 * n
      · rw [show k = 55 + 6 * n + (k - (55 + 6 * n)) by omega, apZ_r (by omega), ap_r (by omega)]
      · rw [apZ_ne (by omega), ap_at c1 (by omega)]
  · rw [ug_ne (by omega), apZ_ne (by omega)]
    unfold appG
    rw [ug_ne (by omega), ug_ne (by omega), ug_ne (by omega), ug_ne (by omega), ug_ne (by omega), ug_ne (by omega), ug_ne (by omega)]
theorem keG_app {n : Nat} {x y z : Int32} {a b : Nat → Nat → Int32} (hn : n < 8) (h : keG a b) : keG a (appG n x y z 0 0 b) := by
  unfold appG
  exact keG_ug (Or.inl ⟨rfl, by omega⟩) (keG_ug (Or.inl ⟨rfl, by omega⟩) (keG_ug (Or.inl ⟨rfl, by omega⟩) (keG_ug (Or.inl ⟨rfl, by omega⟩) (keG_ug (Or.inl ⟨rfl, by omega⟩) (keG_ug (Or.inl ⟨rfl, by omega⟩) (keG_ug (Or.inl ⟨rfl, by omega⟩) h))))))
theorem rl_app {n : Nat} {a0 b0 a b : Nat → Nat → Int32} {x y z : Int32} (hn : n < 8) (h : rlG n a0 b0 a b) : rlG (n + 1) a0 b0 (appG n x y z 0 0 a) (appG n x y z 0 0 b) := by
  obtain ⟨B, hB, hB3⟩ := h.bk
  refine ⟨by omega, ⟨fun j hj => ?_, fun j h1 h2 => ?_, fun j h1 h2 => ?_⟩, keG_app hn h.ka, keG_app hn h.kb, evK_at h.ev (ap_at (by omega) (by omega)), bkK_at h.bk (ap_at (by omega) (by omega))⟩
  · by_cases c1 : j = 12
    · rw [c1, ap_12, ap_12, h.sc (k := 12) (by omega)]
    · by_cases c2 : 55 + 6 * n ≤ j
      · rw [show j = 55 + 6 * n + (j - (55 + 6 * n)) by omega, ap_r (by omega), ap_r (by omega)]
      · rw [ap_at c1 (by omega), ap_at c1 (by omega)]
        exact h.le.1 j (by omega)
  · rw [ap_at (by omega) (by omega)] at h2
    rw [ap_at (by omega) (by omega), ap_at (by omega) (by omega)]
    exact h.le.2.1 j h1 h2
  · rw [ap_at (by omega) (by omega)] at h2
    rw [ap_at (by omega) (by omega), ap_at (by omega) (by omega)]
    exact h.le.2.2 j h1 h2
theorem inv_app {g : Nat → Nat → Int32} {n : Nat} {S : Nat → Nat} {x y z : Int32} (hn : n < 8) (h : invK g n S) (hz : ∃ a : Nat, z = nI a ∧ a ≤ 300) : invK (appG n x y z 0 0 g) (n + 1) S := by
  obtain ⟨s1, s2, s3, s4, s5, s6, s7, s8⟩ := inv_st h
  refine inv_x h ⟨?_, by omega, ?_, ?_, ?_, ?_, ?_, fun q hq => ⟨?_, ?_⟩⟩ (fun j _ _ _ _ _ => ap_at (by omega) (by omega)) (thr_at h.2.1 (ap_at (by omega) (by omega))) (by rw [ap_at (by omega) (by omega)]; exact h.2.2.2.1) (by rw [ap_at (by omega) (by omega)]; exact h.2.2.2.2.2.1) (by rw [ap_at (by omega) (by omega)]; exact h.2.2.2.2.2.2.1)
  · rw [ap_12, s1]; exact nI_1 n
  · rw [ap_at (by omega) (by omega)]; exact s3
  · rw [ap_at (by omega) (by omega)]; exact s4
  · rw [ap_at (by omega) (by omega)]; exact s5
  · rw [ap_at (by omega) (by omega)]; exact s6
  · rw [ap_at (by omega) (by omega)]; exact s7
  · by_cases c : q = n
    · rw [show 57 + 6 * q = 55 + 6 * n + 2 by omega, ap_r (by omega)]; exact hz
    · rw [ap_at (by omega) (by omega)]; exact (s8 q (by omega)).1
  · by_cases c : q = n
    · rw [show 58 + 6 * q = 55 + 6 * n + 3 by omega, ap_r (by omega)]; exact ⟨0, rfl, by omega⟩
    · rw [ap_at (by omega) (by omega)]; exact (s8 q (by omega)).2
theorem sm_addPath {l : Launch} {D : va_G} {cA : FieldType → ClassId} {z0 : Nat} {SK SV : Nat → Nat} (x y z : Int32) : smI l D cA z0 SK SV yX8_addPath cX8_addPath 4 3 yX9_addPath cX9_addPath 6 2 [.int x, .int y, .int z] := by
  intro ad am hE hM hK g s σ τ ρ c9 gr h I
  obtain ⟨n, S, hg, hr, le⟩ := I.2.1
  have hσ := I.pm
  have hb := I.bo
  have hρ := I.rho
  have hc := I.c6
  have hv := I.sv
  have rl := inv_rl hg le
  have hs := inv_st hg
  have hs2 := inv_st hr
  obtain ⟨k1, k2, k3, k4, k5, k6⟩ := inv_sec hg
  obtain ⟨j1, j2, -⟩ := inv_sec hr
  have I1 := si_save I
  have hr1 := inv_sv hr
  have le1 := le_sv hg le
  have rl1 := inv_rl hg le1
  have h12 : g 1 12 = nI n := hs.1
  have h8 := hs.2.1
  have e12 : gr 1 12 = nI n := (rl.sc (by omega)).trans h12
  by_cases u0 : 0 ≤ x ∧ x ≤ 63
  rotate_left
  · have w0 : wnI x (0) (63) = 0 := by rw [wnI_0]; exact u0
    exact sm_mk (h1 := h) (fc_addPath hE g s σ τ hσ ρ c9 n x y z hb hρ hc h12 h8) (ct_addPath hM gr h n x y z hs2 hv) I (by simp only [fc_addPath_r, if_neg u0, if_pos w0]) (by simp only [fc_addPath_w, if_neg u0, if_pos w0]) (by simp only [if_neg u0, if_pos w0])
  have w0 : ¬ wnI x (0) (63) = 0 := by rw [wnI_0]; exact fun z => z u0
  by_cases u1 : 0 ≤ y ∧ y ≤ 63
  rotate_left
  · have w1 : wnI y (0) (63) = 0 := by rw [wnI_0]; exact u1
    exact sm_mk (h1 := h) (fc_addPath hE g s σ τ hσ ρ c9 n x y z hb hρ hc h12 h8) (ct_addPath hM gr h n x y z hs2 hv) I (by simp only [fc_addPath_r, if_pos u0, if_neg w0, if_neg u1, if_pos w1]) (by simp only [fc_addPath_w, if_pos u0, if_neg w0, if_neg u1, if_pos w1]) (by simp only [if_pos u0, if_neg w0, if_neg u1, if_pos w1])
  have w1 : ¬ wnI y (0) (63) = 0 := by rw [wnI_0]; exact fun z => z u1
  by_cases u2 : 0 ≤ z ∧ z ≤ 300
  rotate_left
  · have w2 : wnI z (0) (300) = 0 := by rw [wnI_0]; exact u2
    exact sm_mk (h1 := h) (fc_addPath hE g s σ τ hσ ρ c9 n x y z hb hρ hc h12 h8) (ct_addPath hM gr h n x y z hs2 hv) I (by simp only [fc_addPath_r, if_pos u0, if_neg w0, if_pos u1, if_neg w1, if_neg u2, if_pos w2]) (by simp only [fc_addPath_w, if_pos u0, if_neg w0, if_pos u1, if_neg w1, if_neg u2, if_pos w2]) (by simp only [if_pos u0, if_neg w0, if_pos u1, if_neg w1, if_neg u2, if_pos w2])
  have w2 : ¬ wnI z (0) (300) = 0 := by rw [wnI_0]; exact fun z => z u2
  by_cases c8 : n < 8
  · have c8' : ¬ gr 1 12 = 8 := by
      rw [e12]
      exact fun z9 => absurd (nIij (b := 8) (by omega) (by omega) z9) (by omega)
    have rl2 := rl_app (x := x) (y := y) (z := z) c8 rl1
    refine sm_mk (h1 := h) (fc_addPath hE g s σ τ hσ ρ c9 n x y z hb hρ hc h12 h8) (ct_addPath hM gr h n x y z hs2 hv) (si_upd I1 hσ (inv_app c8 hg (nI_rg rfl u2)) (inv_app c8 hr1 (nI_rg rfl u2)) rl2.le (kpG_of rl2.ka) (kpG_of rl2.kb)) ?_ (by simp only [fc_addPath_w, if_pos u0, if_neg w0, if_pos u1, if_neg w1, if_pos u2, if_neg w2, if_pos c8]) ?_
    · simp only [fc_addPath_r, if_pos u0, if_neg w0, if_pos u1, if_neg w1, if_pos u2, if_neg w2, if_pos c8, if_neg c8']
      rw [ap_12, h12, nI_1, show (1 : Int32) = nI 1 from rfl, pk_sub (by omega)]
      exact (sv_at 12 (by omega)).trans e12
    · simp only [if_pos u0, if_neg w0, if_pos u1, if_neg w1, if_pos u2, if_neg w2, if_neg c8']
      exact congrArg (fun z => layM z h) apZ_eq
  · have c8' : gr 1 12 = 8 := by
      rw [e12, show n = 8 by omega]; rfl
    exact sm_mk (h1 := h) (fc_addPath hE g s σ τ hσ ρ c9 n x y z hb hρ hc h12 h8) (ct_addPath hM gr h n x y z hs2 hv) I (by simp only [fc_addPath_r, if_pos u0, if_neg w0, if_pos u1, if_neg w1, if_pos u2, if_neg w2, if_neg c8, if_pos c8']) (by simp only [fc_addPath_w, if_pos u0, if_neg w0, if_pos u1, if_neg w1, if_pos u2, if_neg w2, if_neg c8]) (by simp only [if_pos u0, if_neg w0, if_pos u1, if_neg w1, if_pos u2, if_neg w2, if_pos c8'])
/-! a path less -/
theorem dr_at2 {q k : Nat} {g : Nat → Nat → Int32} (h : k ≠ 12) (h2 : k < 55 ∨ 103 ≤ k) : drG q g 1 k = g 1 k := by
  unfold drG
  rw [ug_ne (by omega)]
  exact if_neg (by omega)
theorem dr_q2 {q k n : Nat} {g : Nat → Nat → Int32} (hn : n ≤ 8) (h : 55 ≤ k) (h2 : k < 55 + 6 * (n - 1)) : drG q g 1 k = if 55 + 6 * q ≤ k then g 1 (k + 6) else g 1 k := by
  unfold drG
  rw [ug_ne (by omega)]
  rw [if_pos (show 1 = 1 ∧ 55 ≤ k ∧ k < 103 by omega)]
  unfold drQ
  by_cases c : (k - 55) / 6 < q
  · rw [if_pos c, if_neg (by omega), show 55 + 6 * ((k - 55) / 6) + (k - 55) % 6 = k by omega]
  · rw [if_neg c, if_pos (by omega), if_pos (by omega), show 55 + 6 * ((k - 55) / 6 + 1) + (k - 55) % 6 = k + 6 by omega]
theorem dr_122 {q : Nat} {g : Nat → Nat → Int32} : drG q g 1 12 = g 1 12 - 1 := ug_same
theorem rp_at {q k : Nat} {g : Nat → Nat → Int32} (h : k < 55 + 6 * q ∨ 97 ≤ k) : rpG g (55 + 6 * q) 97 1 k = g 1 k := by
  unfold rpG
  exact if_neg (by omega)
def rmG (q : Nat) (g : Nat → Nat → Int32) : Nat → Nat → Int32 := ug (rpG g (55 + 6 * q) 97) 1 12 (rpG g (55 + 6 * q) 97 1 12 - 1)
theorem rm_12 {q : Nat} {g : Nat → Nat → Int32} : rmG q g 1 12 = g 1 12 - 1 := by
  unfold rmG
  rw [ug_same, rp_at (by omega)]
theorem rm_at {q k : Nat} {g : Nat → Nat → Int32} (h : k ≠ 12) (h2 : k < 55 + 6 * q ∨ 97 ≤ k) : rmG q g 1 k = g 1 k := by
  unfold rmG
  rw [ug_ne (by omega), rp_at h2]
theorem rm_q {q k n : Nat} {g : Nat → Nat → Int32} (hn : n ≤ 8) (h : 55 ≤ k) (h2 : k < 55 + 6 * (n - 1)) : rmG q g 1 k = if 55 + 6 * q ≤ k then g 1 (k + 6) else g 1 k := by
  unfold rmG
  rw [ug_ne (by omega)]
  unfold rpG
  by_cases c : 55 + 6 * q ≤ k
  · rw [if_pos c, if_pos (by omega)]
  · rw [if_neg c, if_neg (by omega)]
theorem inv_rm {g g' : Nat → Nat → Int32} {n q : Nat} {S : Nat → Nat} (h : invK g n S) (hq : q < n) (e12 : g' 1 12 = g 1 12 - 1) (e : ∀ k, k ≠ 12 → (k < 55 ∨ (103 ≤ k ∧ k < 172)) → g' 1 k = g 1 k) (eq_ : ∀ k, 55 ≤ k → k < 55 + 6 * (n - 1) → g' 1 k = if 55 + 6 * q ≤ k then g 1 (k + 6) else g 1 k) : invK g' (n - 1) S := by
  obtain ⟨s1, s2, s3, s4, s5, s6, s7, s8⟩ := inv_st h
  refine inv_x h ⟨?_, by omega, ?_, ?_, ?_, ?_, ?_, fun z hz => ⟨?_, ?_⟩⟩ (fun j _ _ _ _ _ => e j (by omega) (by omega)) (thr_at h.2.1 (e _ (by omega) (by omega))) (by rw [e _ (by omega) (by omega)]; exact h.2.2.2.1) (by rw [e _ (by omega) (by omega)]; exact h.2.2.2.2.2.1) (by rw [e _ (by omega) (by omega)]; exact h.2.2.2.2.2.2.1)
  · rw [e12, s1, show (1 : Int32) = nI 1 from rfl, pk_sub (by omega)]
  · rw [e _ (by omega) (by omega)]; exact s3
  · rw [e _ (by omega) (by omega)]; exact s4
  · rw [e _ (by omega) (by omega)]; exact s5
  · rw [e _ (by omega) (by omega)]; exact s6
  · rw [e _ (by omega) (by omega)]; exact s7
  · rw [eq_ _ (by omega) (by omega)]
    split
    · rw [show 57 + 6 * z + 6 = 57 + 6 * (z + 1) by omega]; exact (s8 _ (by omega)).1
    · exact (s8 _ (by omega)).1
  · rw [eq_ _ (by omega) (by omega)]
    split
    · rw [show 58 + 6 * z + 6 = 58 + 6 * (z + 1) by omega]; exact (s8 _ (by omega)).2
    · exact (s8 _ (by omega)).2
theorem sm_removePath {l : Launch} {D : va_G} {cA : FieldType → ClassId} {z0 : Nat} {SK SV : Nat → Nat} (a : Int32) : smI l D cA z0 SK SV yX8_removePath cX8_removePath 2 3 yX9_removePath cX9_removePath 3 2 [.int a] := by
  intro ad am hE hM hK g s σ τ ρ c9 gr h I
  obtain ⟨n, S, hg, hr, le⟩ := I.2.1
  have hσ := I.pm
  have hb := I.bo
  have hρ := I.rho
  have hc := I.c6
  have hv := I.sv
  have rl := inv_rl hg le
  have hs := inv_st hg
  have hs2 := inv_st hr
  obtain ⟨k1, k2, k3, k4, k5, k6⟩ := inv_sec hg
  obtain ⟨j1, j2, -⟩ := inv_sec hr
  have I1 := si_save I
  have hr1 := inv_sv hr
  have le1 := le_sv hg le
  have rl1 := inv_rl hg le1
  have h12 : g 1 12 = nI n := hs.1
  have h8 := hs.2.1
  have e12 : gr 1 12 = g 1 12 := rl.sc (by omega)
  by_cases c : 0 ≤ a ∧ a ≤ g 1 12 - 1
  rotate_left
  · have c' : ¬ (0 ≤ a ∧ a ≤ gr 1 12 - 1) := by rw [e12]; exact c
    exact sm_mk (h1 := h) (fc_removePathx hE g s σ τ hσ ρ c9 a (hp_x h12 h8 c)) (ct_removePath hM gr h n a hs2 hv) I (by rw [if_neg c']; rfl) rfl (by rw [if_neg c'])
  have c' : 0 ≤ a ∧ a ≤ gr 1 12 - 1 := by rw [e12]; exact c
  obtain ⟨q, hq, rfl⟩ := path_of h12 (by omega) c
  have hcl : (nI q).toNatClampNeg = q := nI_clamp (by omega)
  have ka : keG g (drG q g) := keG_tr (keG_rf g) fun i k h1 _ => by
    unfold drG
    rw [ug_ne (fun ⟨e1, e2⟩ => by have := h1 e1; omega)]
    exact if_neg fun ⟨e, _, h3⟩ => by have := h1 e; omega
  have kb : keG (svG gr) (rmG q (svG gr)) := keG_tr (keG_rf (svG gr)) fun i k h1 _ => by
    unfold rmG
    rw [ug_ne (fun ⟨e1, e2⟩ => by have := h1 e1; omega)]
    unfold rpG
    exact if_neg fun ⟨e, _, h3⟩ => by have := h1 e; omega
  obtain ⟨B, hB, hB3⟩ := rl1.bk
  have le2 : leG (n - 1) (drG q g) (rmG q (svG gr)) := by
    refine ⟨fun j hj => ?_, fun j h1 h2 => ?_, fun j h1 h2 => ?_⟩
    · by_cases c1 : j = 12
      · rw [c1, dr_122, rm_12, rl1.sc (k := 12) (by omega)]
      · by_cases c2 : j < 55
        · rw [dr_at2 c1 (by omega), rm_at c1 (by omega)]; exact rl1.sc c2
        · rw [dr_q2 h8 (by omega) hj, rm_q h8 (by omega) hj]
          split
          · exact rl1.at_ (by omega)
          · exact rl1.at_ (by omega)
    · rw [dr_at2 (by omega) (by omega)] at h2
      rw [dr_at2 (by omega) (by omega), rm_at (by omega) (by omega)]
      exact rl1.le.2.1 j h1 h2
    · rw [dr_at2 (by omega) (by omega)] at h2
      rw [dr_at2 (by omega) (by omega), rm_at (by omega) (by omega)]
      exact rl1.le.2.2 j h1 h2
  refine sm_mk (h1 := h) (fc_removePath hE g s σ τ hσ ρ c9 n q hb hρ hc h12 h8 hq) (ct_removePath hM gr h n (nI q) hs2 hv) (si_upd I1 (pmF_up hσ (dr_pm (hσ 0 (by omega)) (by omega))) (inv_rm hg hq dr_122 (fun k a b => dr_at2 a (by omega)) (fun k a b => dr_q2 h8 a b)) (inv_rm hr1 hq rm_12 (fun k a b => rm_at a (by omega)) (fun k a b => rm_q h8 a b)) le2 (kpG_of ka) (kpG_of kb)) ?_ rfl ?_
  · rw [if_pos c', hcl]
    show rpG (svG gr) (55 + 6 * q) 97 1 12 - 1 = drG q g 1 12
    rw [dr_122, rp_at (by omega), rl1.sc (k := 12) (by omega)]
  · rw [if_pos c', hcl]
    rfl
/-! undo -/
theorem sm_undo {l : Launch} {D : va_G} {cA : FieldType → ClassId} {z0 : Nat} {SK SV : Nat → Nat} : smI l D cA z0 SK SV yX8_undo cX8_undo 1 2 yX9_undo cX9_undo 1 1 [] := by
  intro ad am hE hM hK g s σ τ ρ c9 gr h I
  obtain ⟨n, S, hg, hr, le⟩ := I.2.1
  have hσ := I.pm
  have hb := I.bo
  have hρ := I.rho
  have hc := I.c6
  have hv := I.sv
  have rl := inv_rl hg le
  have hs := inv_st hg
  have hs2 := inv_st hr
  obtain ⟨k1, k2, k3, k4, k5, k6⟩ := inv_sec hg
  obtain ⟨j1, j2, -⟩ := inv_sec hr
  by_cases c0 : c9 = 0
  · subst c0
    have e0 : gr 0 1 = 0 := I.2.2.2.2.2.1
    exact sm_mk (h1 := h) (fc_undo0 hE g s σ τ hσ ρ 0 rfl) (ct_undo hM gr h 0 e0 (by omega)) I (by rw [if_pos e0]) rfl (by rw [if_pos e0])
  · obtain ⟨k9, rfl⟩ : ∃ k9, c9 = k9 + 1 := ⟨c9 - 1, by omega⟩
    have e1 : gr 0 1 = nI (k9 + 1) := I.2.2.2.2.2.1
    have e0 : ¬ gr 0 1 = 0 := by
      rw [e1]
      exact fun z => absurd (nIij (b := 0) (by omega) (by omega) z) (by omega)
    obtain ⟨i1, -, i3, i4, i5, i6, i7, i8, i9, i10⟩ := I
    have hp := i7 k9 (by omega)
    obtain ⟨n', S', h1, h2, h3⟩ := hp
    have hbb : bo3 (s (2 + ρ k9)) := inv_bo h1
    have ee : cpyG gr (172 * (k9 + 1)) 0 172 0 1 - 1 = nI k9 := by
      have e2 : cpyG gr (172 * (k9 + 1)) 0 172 0 1 = gr 0 1 := if_neg (by omega)
      rw [e2, e1, show (1 : Int32) = nI 1 from rfl, pk_sub (by omega)]
      rfl
    refine sm_mk (h1 := h) (fc_undo1 hE g s σ τ hσ ρ (k9 + 1) k9 rfl (by omega) hρ hbb) (ct_undo hM gr h (k9 + 1) e1 hc) (gr1 := ug (cpyG gr (172 * (k9 + 1)) 0 172) 0 1 (cpyG gr (172 * (k9 + 1)) 0 172 0 1 - 1)) ?_ (by rw [if_neg e0]; exact ee) rfl (by rw [if_neg e0])
    have r1 : ∀ k, k < 172 → ug (cpyG gr (172 * (k9 + 1)) 0 172) 0 1 (cpyG gr (172 * (k9 + 1)) 0 172 0 1 - 1) 1 k = gr 1 (172 * (k9 + 1) + k) := fun k hk => by
      rw [ug_ne (by omega)]
      unfold cpyG
      rw [if_pos (by omega), show k - 0 = k by omega]
    have r2 : ∀ a k, ¬ (a = 0 ∧ k = 1) → ¬ (a = 1 ∧ k < 172) → ug (cpyG gr (172 * (k9 + 1)) 0 172) 0 1 (cpyG gr (172 * (k9 + 1)) 0 172 0 1 - 1) a k = gr a k := fun a k ha hb2 => by
      rw [ug_ne ha]
      unfold cpyG
      exact if_neg (by omega)
    have r3 : ∀ k, rN (s (2 + ρ k9)) g 1 k = s (2 + ρ k9) k := fun k => if_pos rfl
    have r4 : ∀ a k, a ≠ 1 → rN (s (2 + ρ k9)) g a k = g a k := fun a k ha => if_neg ha
    refine ⟨i1, ⟨n', S', inv_le h1 (fun k _ => r3 k), inv_le h2 r1, le_cg (inv_n8 h1) (inv_ev h1) (inv_bk h1) h3 (fun k _ => r3 k) r1⟩, by omega, i4, i5, ?_, fun i hi => prK_cg (fun _ _ => rfl) (fun k hk => r2 _ _ (by omega) (by omega)) (i7 i (by omega)), ?_, ?_, ?_⟩
    · rw [ug_same]; exact ee
    · rw [r2 _ _ (by omega) (by omega), r4 _ _ (by omega)]; exact i8
    · unfold lnI
      rw [r4 _ _ (by omega)]; exact i9
    · intro k
      rw [r2 _ _ (by omega) (by omega), r4 _ _ (by omega)]; exact i10 k
/-! outage -/
theorem ou_eq {n : Nat} {S : Nat → Nat} {g : Nat → Nat → Int32} (h : invK g n S) : ∀ q k, (ouF n S g q k).1 = if otG n S q (pasN n S g k) 1 0 = 0 then nI (otK n S q k (pasN n S g k)) else -100000
  | 0, k => by
    unfold ouF otG otK
    split <;> rfl
  | q + 1, k => by
    unfold ouF otG otK
    rcases (inv_pasN h k).2.2.2.2.1 with e | e
    · have e1 : ¬ pasN n S g k 1 0 = 1 := by rw [e]; decide
      simp only [if_pos e, if_neg e1]
    · have e1 : ¬ pasN n S g k 1 0 = 0 := by rw [e]; decide
      simp only [if_pos e, if_neg e1]
      exact ou_eq h q (k + 1)
theorem si_s1 {g s gr : Nat → Nat → Int32} {σ τ : Nat → Nat → Nat} {ρ : Nat → Nat} {c9 : Nat} {f : Nat → Int32} (I : SI g s σ τ ρ c9 gr) : SI g (sS s 1 f) σ τ ρ c9 gr := by
  obtain ⟨i1, i2, i3, i4, i5, i6, i7, i8, i9, i10⟩ := I
  refine ⟨i1, i2, i3, i4, i5, i6, fun i hi => ?_, i8, i9, i10⟩
  rw [sS_n (by omega)]
  exact i7 i hi
/-- the same states, other scratch -/
theorem si_row {g s gr g' gr' : Nat → Nat → Int32} {σ τ : Nat → Nat → Nat} {ρ : Nat → Nat} {c9 : Nat} (I : SI g s σ τ ρ c9 gr) (ka : kpG g g') (kb : kpG gr gr') (ra : ∀ k, k < 172 → g' 1 k = g 1 k) (rb : ∀ k, k < 172 → gr' 1 k = gr 1 k) : SI g' s σ τ ρ c9 gr' := by
  obtain ⟨n, S, h1, h2, h3⟩ := I.2.1
  exact si_upd I I.1 (inv_le h1 ra) (inv_le h2 rb) (le_cg (inv_n8 h1) (inv_ev h1) (inv_bk h1) h3 ra rb) ka kb
theorem sm_outage {l : Launch} {D : va_G} {cA : FieldType → ClassId} {z0 : Nat} {SK SV : Nat → Nat} (a : Int32) : smI l D cA z0 SK SV yX8_outage cX8_outage 3 7 yX9_outage cX9_outage 4 12 [.int a] := by
  intro ad am hE hM hK g s σ τ ρ c9 gr h I
  obtain ⟨n, S, hg, hr, le⟩ := I.2.1
  have hσ := I.pm
  have hb := I.bo
  have hρ := I.rho
  have hc := I.c6
  have hv := I.sv
  have rl := inv_rl hg le
  have hs := inv_st hg
  have hs2 := inv_st hr
  obtain ⟨k1, k2, k3, k4, k5, k6⟩ := inv_sec hg
  obtain ⟨j1, j2, -⟩ := inv_sec hr
  by_cases c : 1 ≤ a ∧ a ≤ 100
  rotate_left
  · exact sm_mk (h1 := h) (fc_outagex hE g s σ τ hσ ρ c9 a (by rw [wnI_0]; exact c)) (ct_outage hM gr h n S a hr.1) I (by rw [if_neg c]; rfl) rfl (by rw [if_neg c])
  obtain ⟨m9, rfl, hm⟩ := nI_rg (N := 100) rfl ⟨Int32.le_trans (by decide) c.1, c.2⟩
  have hm1 : 1 ≤ m9 := by
    have z9 := c.1
    rw [show (1 : Int32) = nI 1 from rfl, nI_leI (by omega) (by omega)] at z9
    exact z9
  have hcl : (nI m9).toNatClampNeg = m9 := nI_clamp (by omega)
  have e0 : ∀ k, k < 172 → cpyG gr 0 1204 172 1 k = gr 1 k := fun k hk => cpy_at (by omega)
  have le2 : leG n g (cpyG gr 0 1204 172) := le_cg (inv_n8 hg) (inv_ev hg) (inv_bk hg) le (fun _ _ => rfl) e0
  have rl2 := inv_rl hg le2
  have rl3 := rl_otG (S := S) k4 k6 m9 rl2
  have rlp := rl_pasN (S := S) rl k4 k6 (ouF n S g m9 0).2
  refine sm_mk (h1 := h) (gr1 := cpyG (otG n S m9 (cpyG gr 0 1204 172)) 1204 0 172) (fc_outage hE g s σ τ hσ ρ c9 n S m9 hg hb hm1 hm) (ct_outage hM gr h n S (nI m9) hr.1) (si_row (si_s1 I) ?_ ?_ (fun k _ => if_pos rfl) ?_) ?_ rfl ?_
  · refine ⟨(if_neg (by omega)).trans ((kpG_of rlp.ka).1), (if_neg (by omega)).trans ((kpG_of rlp.ka).2.1), fun k => (if_neg (by omega)).trans ((kpG_of rlp.ka).2.2.1 k), fun k _ _ => if_pos rfl⟩
  · have kb := rl3.kb
    have cx : ∀ a k, ¬ (a = 1 ∧ 1204 ≤ k) → cpyG gr 0 1204 172 a k = gr a k := fun a k hk => if_neg (by omega)
    have cy : ∀ a k, ¬ (a = 1 ∧ k < 172) → cpyG (otG n S m9 (cpyG gr 0 1204 172)) 1204 0 172 a k = otG n S m9 (cpyG gr 0 1204 172) a k := fun a k hk => if_neg (by omega)
    refine ⟨?_, ?_, fun k => ?_, fun k h1 h2 => ?_⟩
    · rw [cy _ _ (by omega), kb _ _ (by omega) (by omega), cx _ _ (by omega)]
    · rw [cy _ _ (by omega), kb _ _ (by omega) (by omega), cx _ _ (by omega)]
    · rw [cy _ _ (by omega), kb _ _ (by omega) (by omega), cx _ _ (by omega)]
    · rw [cy _ _ (by omega), kb _ _ (by omega) (by omega), cx _ _ (by omega)]
  · intro k hk
    have e1 : cpyG (otG n S m9 (cpyG gr 0 1204 172)) 1204 0 172 1 k = otG n S m9 (cpyG gr 0 1204 172) 1 (1204 + (k - 0)) := if_pos (by omega)
    rw [e1, rl3.kb _ _ (by omega) (by omega)]
    unfold cpyG
    rw [if_pos (by omega), show 0 + (1204 + (k - 0) - 1204) = k by omega]
  · rw [if_pos c, hcl, ou_eq hg m9 0, rl3.sc (k := 0) (by omega), rl_otK k4 k6 m9 0 rl2]
    rfl
  · rw [if_pos c, hcl]
