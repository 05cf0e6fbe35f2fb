theorem sm_type {l : Launch} {D : va_G} {cA : FieldType → ClassId} {z0 : Nat} {SK SV : Nat → Nat} (x : Int32) : smI l D cA z0 SK SV yX8_type cX8_type 2 1 yX9_type cX9_type 2 1 [.int x] := by
  intro ad am hE hM hK g s σ τ ρ c9 gr h I
  obtain ⟨n, S, hg, hr, le⟩ := I.2.1
  have hσ := I.pm
  have hb := I.bo
  have hρ := I.rho
  have hc := I.c6
  have hv := I.sv
  have rl := inv_rl hg le
  have hs := inv_st hg
  have hs2 := inv_st hr
  obtain ⟨k1, k2, k3, k4, k5, k6⟩ := inv_sec hg
  obtain ⟨j1, j2, -⟩ := inv_sec hr
  have e4 : gr 0 4 = g 0 4 := I.2.2.2.2.2.2.2.1
  have e3 : ∀ k, gr 3 k = g 3 k := I.2.2.2.2.2.2.2.2.2
  have hl := I.ln
  have hlr := I.lr
  obtain ⟨l1, l2⟩ := hl
  by_cases c : 0 ≤ x ∧ x ≤ 255
  rotate_left
  · exact sm_mk (h1 := h) (fc_typex hE g s σ τ hσ ρ c9 x (by rw [wnI_0]; exact c)) (ct_type hM gr h (cl (g 0 4)) x (e4.trans l1) l2) I (by rw [if_neg c]; rfl) rfl (by rw [if_neg c])
  obtain ⟨n9, rfl, hn9⟩ := nI_rg (N := 255) rfl c
  have A := fc_type (l := l) (D := D) (cA := cA) (SK := SK) (SV := SV) hE g s σ τ hσ ρ c9 n9 ⟨l1, l2⟩ (by omega)
  have B := ct_type (l := l) (D := D) (cA := cA) (SK := SK) (SV := SV) hM gr h (cl (g 0 4)) (nI n9) (e4.trans l1) l2
  by_cases c8 : cl (g 0 4) < 120
  · have c9' : ¬ gr 0 4 = 120 := by
      rw [e4, l1]
      exact fun z => absurd (nIij (b := 120) (by omega) (by omega) z) (by omega)
    refine sm_mk (h1 := h) A B (s1 := s) (σ1 := σ) (τ1 := τ) (ρ1 := ρ) (c1 := c9) (g1 := ug (ug g 3 (cl (g 0 4)) (nI n9)) 0 4 (g 0 4 + 1)) (gr1 := ug (ug gr 3 (cl (g 0 4)) (nI n9)) 0 4 (gr 0 4 + 1)) ?_ ?_ ?_ ?_
    · obtain ⟨i1, ⟨n, S, h1, h2, h3⟩, i3, i4, i5, i6, i7, i8, i9, i10⟩ := I
      have e1 : ∀ k, ug (ug g 3 (cl (g 0 4)) (nI n9)) 0 4 (g 0 4 + 1) 1 k = g 1 k := fun k => (ug_ne (by omega)).trans (ug_ne (by omega))
      have f1 : ∀ k, ug (ug gr 3 (cl (g 0 4)) (nI n9)) 0 4 (gr 0 4 + 1) 1 k = gr 1 k := fun k => (ug_ne (by omega)).trans (ug_ne (by omega))
      have en : g 0 4 + 1 = nI (cl (g 0 4) + 1) := by
        have z := nI_1 (cl (g 0 4))
        rw [← l1] at z
        exact z
      have ec : cl (g 0 4 + 1) = cl (g 0 4) + 1 := by
        rw [en]
        exact nI_clamp (by omega)
      refine ⟨i1, ⟨n, S, inv_le h1 (fun k _ => e1 k), inv_le h2 (fun k _ => f1 k), le_cg (inv_n8 h1) (inv_ev h1) (inv_bk h1) h3 (fun k _ => e1 k) (fun k _ => f1 k)⟩, i3, i4, i5, ?_, fun i hi => prK_cg (fun _ _ => rfl) (fun k _ => f1 _) (i7 i hi), ?_, ?_, fun k => ?_⟩
      · rw [ug_ne (by omega), ug_ne (by omega)]; exact i6
      · rw [ug_same, ug_same, e4]
      · unfold lnI
        rw [ug_same, ec]
        exact ⟨en, by omega⟩
      · rw [show ug (ug gr 3 (cl (g 0 4)) (nI n9)) 0 4 (gr 0 4 + 1) 3 k = ug gr 3 (cl (g 0 4)) (nI n9) 3 k from ug_ne (by omega), show ug (ug g 3 (cl (g 0 4)) (nI n9)) 0 4 (g 0 4 + 1) 3 k = ug g 3 (cl (g 0 4)) (nI n9) 3 k from ug_ne (by omega)]
        by_cases ck : k = cl (g 0 4)
        · rw [ck, ug_same, ug_same]
        · rw [ug_ne (by omega), ug_ne (by omega)]; exact e3 k
    · rw [if_pos c, if_neg c9', e4]
      unfold fc_type_r sc_append_r
      rw [if_pos c8]
    · unfold fc_type_w sc_append_w
      rw [if_pos c8]
    · rw [if_pos c, if_neg c9']
  · have c9' : gr 0 4 = 120 := by
      rw [e4, l1, show cl (g 0 4) = 120 by omega]; rfl
    refine sm_mk (h1 := h) A B I ?_ ?_ ?_
    · rw [if_pos c, if_pos c9']
      unfold fc_type_r sc_append_r
      rw [if_neg c8]
    · unfold fc_type_w sc_append_w
      rw [if_neg c8]
    · rw [if_pos c, if_pos c9']
/-- what reading leaves in both -/
theorem si_read {g s gr : Nat → Nat → Int32} {σ τ : Nat → Nat → Nat} {ρ : Nat → Nat} {c9 : Nat} (I : SI g s σ τ ρ c9 gr) : SI (kN g (rdT g s)) (sS s 1 ((rdT g s) 1)) σ τ ρ c9 (rdZ 0 gr).2 := by
  have hl : lnI (fr g s 1) := I.ln
  have z := rdz_ok (d := 0) (G := fr g s 1) (R := gr) hl I.2.2.2.2.2.2.2.1 I.2.2.2.2.2.2.2.2.2 (fun h => absurd rfl h)
  have kS := kS2_rsZ (g := fr g s 1)
  have o4 : (rdT g s) 0 4 = g 0 4 := kS 0 4 (by omega) (by omega)
  have o1 : (rdT g s) 0 1 = g 0 1 := kS 0 1 (by omega) (by omega)
  have o3 : ∀ k, (rdT g s) 3 k = g 3 k := fun k => kS 3 k (by omega) (by omega)
  refine si_row (si_s1 I) ⟨(if_neg (by omega)).trans o1, (if_neg (by omega)).trans o4, fun k => (if_neg (by omega)).trans (o3 k), fun k _ _ => if_pos rfl⟩ ⟨kqR_rd 0 1 (by omega), kqR_rd 0 4 (by omega), fun k => kqR_rd 3 k (by omega), fun k _ _ => z.2 k (Or.inl rfl)⟩ (fun k _ => if_pos rfl) (fun k _ => z.2 k (Or.inl rfl))
theorem sm_textFault {l : Launch} {D : va_G} {cA : FieldType → ClassId} {z0 : Nat} {SK SV : Nat → Nat} : smI l D cA z0 SK SV yX8_textFault cX8_textFault 1 11 yX9_textFault cX9_textFault 1 8 [] := by
  intro ad am hE hM hK g s σ τ ρ c9 gr h I
  obtain ⟨n, S, hg, hr, le⟩ := I.2.1
  have hσ := I.pm
  have hb := I.bo
  have hρ := I.rho
  have hc := I.c6
  have hv := I.sv
  have rl := inv_rl hg le
  have hs := inv_st hg
  have hs2 := inv_st hr
  obtain ⟨k1, k2, k3, k4, k5, k6⟩ := inv_sec hg
  obtain ⟨j1, j2, -⟩ := inv_sec hr
  have z := (rdz_ok (d := 0) (G := fr g s 1) (R := gr) I.ln I.2.2.2.2.2.2.2.1 I.2.2.2.2.2.2.2.2.2 (fun h => absurd rfl h)).1
  refine sm_mk (h1 := h) (fc_textFault hE g s σ τ hσ ρ c9 I.ln hK) (ct_textFault hM gr h I.lr) (si_read I) ?_ rfl rfl
  unfold ct_textFault_r fc_textFault_r rdT
  rcases z with ⟨z1, z2⟩ | ⟨z1, z2⟩
  · rw [if_neg z1]; exact z2.1.symm
  · rw [if_pos z1]; exact z2.1.symm
theorem sm_load {l : Launch} {D : va_G} {cA : FieldType → ClassId} {z0 : Nat} {SK SV : Nat → Nat} : smI l D cA z0 SK SV yX8_load cX8_load 1 11 yX9_load cX9_load 1 8 [] := by
  intro ad am hE hM hK g s σ τ ρ c9 gr h I
  obtain ⟨n, S, hg, hr, le⟩ := I.2.1
  have hσ := I.pm
  have hb := I.bo
  have hρ := I.rho
  have hc := I.c6
  have hv := I.sv
  have rl := inv_rl hg le
  have hs := inv_st hg
  have hs2 := inv_st hr
  obtain ⟨k1, k2, k3, k4, k5, k6⟩ := inv_sec hg
  obtain ⟨j1, j2, -⟩ := inv_sec hr
  have z := (rdz_ok (d := 0) (G := fr g s 1) (R := gr) I.ln I.2.2.2.2.2.2.2.1 I.2.2.2.2.2.2.2.2.2 (fun h => absurd rfl h)).1
  have Ir := si_read I
  have A := fc_load (l := l) (D := D) (cA := cA) hE g s σ τ hσ ρ c9 I.ln hK hb hρ hc
  have B := ct_load (l := l) (D := D) (cA := cA) (SK := SK) (SV := SV) hM gr h I.lr hv
  rcases z with ⟨z1, z2⟩ | ⟨z1, z2⟩
  rotate_left
  · have n1 : ¬ rdT g s 0 20 = -100000 := z2.2
    exact sm_mk (h1 := h) A B Ir (by unfold ct_load_r fc_load_r; rw [if_pos z1, if_neg n1]) (by unfold fc_load_w; rw [if_neg n1]) (by unfold ct_load_w ct_load_v1; rw [if_pos z1])
  have n1 : rdT g s 0 20 = -100000 := z2.1
  have Is := si_save Ir
  have kS := kS2_rsZ (g := fr g s 1)
  obtain ⟨V2, eV2⟩ : ∃ V, V = svG (rdZ 0 gr).2 := ⟨_, rfl⟩
  rw [← eV2] at Is
  have f4 : V2 0 4 = gr 0 4 := by rw [eV2]; exact (sv_ne (by omega)).trans (kqR_rd 0 4 (by omega))
  have f3 : ∀ k, V2 3 k = gr 3 k := fun k => by rw [eV2]; exact (sv_ne (by omega)).trans (kqR_rd 3 k (by omega))
  have b0 : ∀ a k, ¬ (a = 1 ∧ k < 172) → beginG V2 a k = V2 a k := fun a k hk => if_neg hk
  have y := rdz_ok (d := 1) (G := fr g s 1) (R := beginG V2) I.ln ((b0 0 4 (by omega)).trans (f4.trans I.2.2.2.2.2.2.2.1)) (fun k => (b0 3 k (by omega)).trans ((f3 k).trans (I.2.2.2.2.2.2.2.2.2 k))) (fun _ k hk => bg_k (by omega))
  obtain ⟨V4, eV4⟩ : ∃ V, V = (rdZ 1 (beginG V2)).2 := ⟨_, rfl⟩
  have y2 := y.2
  rcases y.1 with ⟨y0, y1⟩ | ⟨y0, y1⟩
  rotate_left
  · exact absurd n1 y1.2
  rw [← eV4] at y1 y2
  obtain ⟨-, -, -, -, -, n', S', q1, -, q3, -⟩ := y1
  have q3' := q3 (by decide)
  have es1 : svs (kN g (rdT g s)) (sS s 1 ((rdT g s) 1)) ρ c9 1 = rsZ (fr g s 1) 1 := sv_1.trans (if_pos rfl)
  obtain ⟨W, eW⟩ : ∃ W, W = rN ((svs (kN g (rdT g s)) (sS s 1 ((rdT g s) 1)) ρ c9) 1) (kN g (rdT g s)) := ⟨_, rfl⟩
  have w1 : ∀ k, W 1 k = rsZ (fr g s 1) 1 k := fun k => by
    rw [eW, es1]
    exact if_pos rfl
  have w0 : ∀ a k, a ≠ 1 → W a k = kN g (rdT g s) a k := fun a k ha => by rw [eW]; exact if_neg ha
  have hW : invK W n' S' := inv_le q1 (fun k _ => w1 k)
  have leW : leG n' W V4 := le_cg (inv_n8 q1) (inv_ev q1) (inv_bk q1) q3' (fun k _ => w1 k) (fun _ _ => rfl)
  have kw : ∀ a k, ¬ (a = 8 ∨ a = 1 ∨ (a = 0 ∧ (k = 9 ∨ k = 10 ∨ k = 11 ∨ k = 12 ∨ k = 16))) → V4 a k = V2 a k := fun a k hk => by
    rw [eV4]
    exact (kqR_rd a k hk).trans (b0 a k (by omega))
  have Iz := si_upw (g' := W) (gr' := V4) Is hσ hW (inv_tr hW leW) leW (w0 0 4 (by omega)) (fun k => w0 3 k (by omega)) ⟨kw 0 1 (by omega), kw 0 4 (by omega), fun k => kw 3 k (by omega), fun k h1 _ => (y2 k (Or.inr h1)).trans (b0 1 k (by omega))⟩
  refine sm_mk (h1 := h) A B Iz ?_ ?_ ?_
  · unfold ct_load_r fc_load_r ct_load_v4 ct_load_v3 ct_load_v2 ct_load_v1
    rw [if_neg z1, if_pos n1, ← eV2, ← eV4, ← eW]
    exact leW.1 12 (by omega)
  · unfold fc_load_w
    rw [if_pos n1, ← eW]
  · unfold ct_load_w ct_load_v4 ct_load_v3 ct_load_v2 ct_load_v1
    rw [if_neg z1, ← eV2, ← eV4]
