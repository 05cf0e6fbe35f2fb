theorem ifw {x A B : Int32} {P : Prop} [Decidable P] (q : (x = 0) = ¬ P) : (if x = 0 then A else B) = if P then B else A := by
  by_cases h : P
  · rw [if_pos h, if_neg (by rw [q]; exact fun z => z h)]
  · rw [if_neg h, if_pos (by rw [q]; exact h)]
theorem sm_failures {l : Launch} {D : va_G} {cA : FieldType → ClassId} {z0 : Nat} {SK SV : Nat → Nat} : smI l D cA z0 SK SV yX8_failures cX8_failures 1 0 yX9_failures cX9_failures 1 0 [] := by
  intro ad am hE hM hK g s σ τ ρ c9 gr h I
  obtain ⟨n, S, hg, hr, le⟩ := I.2.1
  have hσ := I.pm
  have hb := I.bo
  have hρ := I.rho
  have hc := I.c6
  have hv := I.sv
  have rl := inv_rl hg le
  have hs := inv_st hg
  have hs2 := inv_st hr
  obtain ⟨k1, k2, k3, k4, k5, k6⟩ := inv_sec hg
  obtain ⟨j1, j2, -⟩ := inv_sec hr
  exact sm_mk (fc_failures hE g s σ τ hσ ρ c9) (ct_failures hM gr h) I (rl.sc (k := 1) (by omega)) rfl rfl
theorem sm_interval {l : Launch} {D : va_G} {cA : FieldType → ClassId} {z0 : Nat} {SK SV : Nat → Nat} : smI l D cA z0 SK SV yX8_interval cX8_interval 1 0 yX9_interval cX9_interval 1 0 [] := by
  intro ad am hE hM hK g s σ τ ρ c9 gr h I
  obtain ⟨n, S, hg, hr, le⟩ := I.2.1
  have hσ := I.pm
  have hb := I.bo
  have hρ := I.rho
  have hc := I.c6
  have hv := I.sv
  have rl := inv_rl hg le
  have hs := inv_st hg
  have hs2 := inv_st hr
  obtain ⟨k1, k2, k3, k4, k5, k6⟩ := inv_sec hg
  obtain ⟨j1, j2, -⟩ := inv_sec hr
  exact sm_mk (fc_interval hE g s σ τ hσ ρ c9) (ct_interval hM gr h) I (rl.sc (k := 2) (by omega)) rfl rfl
theorem sm_frames {l : Launch} {D : va_G} {cA : FieldType → ClassId} {z0 : Nat} {SK SV : Nat → Nat} : smI l D cA z0 SK SV yX8_frames cX8_frames 1 0 yX9_frames cX9_frames 1 0 [] := by
  intro ad am hE hM hK g s σ τ ρ c9 gr h I
  obtain ⟨n, S, hg, hr, le⟩ := I.2.1
  have hσ := I.pm
  have hb := I.bo
  have hρ := I.rho
  have hc := I.c6
  have hv := I.sv
  have rl := inv_rl hg le
  have hs := inv_st hg
  have hs2 := inv_st hr
  obtain ⟨k1, k2, k3, k4, k5, k6⟩ := inv_sec hg
  obtain ⟨j1, j2, -⟩ := inv_sec hr
  exact sm_mk (fc_frames hE g s σ τ hσ ρ c9) (ct_frames hM gr h) I (rl.sc (k := 3) (by omega)) rfl rfl
theorem sm_time {l : Launch} {D : va_G} {cA : FieldType → ClassId} {z0 : Nat} {SK SV : Nat → Nat} : smI l D cA z0 SK SV yX8_time cX8_time 1 0 yX9_time cX9_time 1 0 [] := by
  intro ad am hE hM hK g s σ τ ρ c9 gr h I
  obtain ⟨n, S, hg, hr, le⟩ := I.2.1
  have hσ := I.pm
  have hb := I.bo
  have hρ := I.rho
  have hc := I.c6
  have hv := I.sv
  have rl := inv_rl hg le
  have hs := inv_st hg
  have hs2 := inv_st hr
  obtain ⟨k1, k2, k3, k4, k5, k6⟩ := inv_sec hg
  obtain ⟨j1, j2, -⟩ := inv_sec hr
  exact sm_mk (fc_time hE g s σ τ hσ ρ c9) (ct_time hM gr h) I (rl.sc (k := 4) (by omega)) rfl rfl
theorem sm_pathCount {l : Launch} {D : va_G} {cA : FieldType → ClassId} {z0 : Nat} {SK SV : Nat → Nat} : smI l D cA z0 SK SV yX8_pathCount cX8_pathCount 1 0 yX9_pathCount cX9_pathCount 1 0 [] := by
  intro ad am hE hM hK g s σ τ ρ c9 gr h I
  obtain ⟨n, S, hg, hr, le⟩ := I.2.1
  have hσ := I.pm
  have hb := I.bo
  have hρ := I.rho
  have hc := I.c6
  have hv := I.sv
  have rl := inv_rl hg le
  have hs := inv_st hg
  have hs2 := inv_st hr
  obtain ⟨k1, k2, k3, k4, k5, k6⟩ := inv_sec hg
  obtain ⟨j1, j2, -⟩ := inv_sec hr
  exact sm_mk (fc_pathCount hE g s σ τ hσ ρ c9) (ct_pathCount hM gr h) I (rl.sc (k := 12) (by omega)) rfl rfl
theorem sm_backupCount {l : Launch} {D : va_G} {cA : FieldType → ClassId} {z0 : Nat} {SK SV : Nat → Nat} : smI l D cA z0 SK SV yX8_backupCount cX8_backupCount 1 0 yX9_backupCount cX9_backupCount 1 0 [] := by
  intro ad am hE hM hK g s σ τ ρ c9 gr h I
  obtain ⟨n, S, hg, hr, le⟩ := I.2.1
  have hσ := I.pm
  have hb := I.bo
  have hρ := I.rho
  have hc := I.c6
  have hv := I.sv
  have rl := inv_rl hg le
  have hs := inv_st hg
  have hs2 := inv_st hr
  obtain ⟨k1, k2, k3, k4, k5, k6⟩ := inv_sec hg
  obtain ⟨j1, j2, -⟩ := inv_sec hr
  exact sm_mk (fc_backupCount hE g s σ τ hσ ρ c9) (ct_backupCount hM gr h) I (rl.sc (k := 13) (by omega)) rfl rfl
theorem sm_eventCount {l : Launch} {D : va_G} {cA : FieldType → ClassId} {z0 : Nat} {SK SV : Nat → Nat} : smI l D cA z0 SK SV yX8_eventCount cX8_eventCount 1 0 yX9_eventCount cX9_eventCount 1 0 [] := by
  intro ad am hE hM hK g s σ τ ρ c9 gr h I
  obtain ⟨n, S, hg, hr, le⟩ := I.2.1
  have hσ := I.pm
  have hb := I.bo
  have hρ := I.rho
  have hc := I.c6
  have hv := I.sv
  have rl := inv_rl hg le
  have hs := inv_st hg
  have hs2 := inv_st hr
  obtain ⟨k1, k2, k3, k4, k5, k6⟩ := inv_sec hg
  obtain ⟨j1, j2, -⟩ := inv_sec hr
  exact sm_mk (fc_eventCount hE g s σ τ hσ ρ c9) (ct_eventCount hM gr h) I (rl.sc (k := 14) (by omega)) rfl rfl
theorem sm_isUp {l : Launch} {D : va_G} {cA : FieldType → ClassId} {z0 : Nat} {SK SV : Nat → Nat} : smI l D cA z0 SK SV yX8_isUp cX8_isUp 1 1 yX9_isUp cX9_isUp 1 0 [] := by
  intro ad am hE hM hK g s σ τ ρ c9 gr h I
  obtain ⟨n, S, hg, hr, le⟩ := I.2.1
  have hσ := I.pm
  have hb := I.bo
  have hρ := I.rho
  have hc := I.c6
  have hv := I.sv
  have rl := inv_rl hg le
  have hs := inv_st hg
  have hs2 := inv_st hr
  obtain ⟨k1, k2, k3, k4, k5, k6⟩ := inv_sec hg
  obtain ⟨j1, j2, -⟩ := inv_sec hr
  exact sm_mk (fc_isUp hE g s σ τ hσ ρ c9) (ct_isUp hM gr h) I ((rl.sc (k := 0) (by omega)).trans (btI_b hg.2.2.2.2.1).symm) rfl rfl
theorem si_clr {g s gr : Nat → Nat → Int32} {σ τ : Nat → Nat → Nat} {ρ : Nat → Nat} {c9 : Nat} (I : SI g s σ τ ρ c9 gr) : SI (ug g 0 4 0) s σ τ ρ c9 (ug gr 0 4 0) := by
  obtain ⟨i1, ⟨n, S, h1, h2, h3⟩, i3, i4, i5, i6, i7, i8, i9, i10⟩ := I
  refine ⟨i1, ⟨n, S, inv_le h1 (fun k _ => ug_ne (by omega)), inv_le h2 (fun k _ => ug_ne (by omega)), le_cg (inv_n8 h1) (inv_ev h1) (inv_bk h1) h3 (fun k _ => ug_ne (by omega)) (fun k _ => ug_ne (by omega))⟩, i3, i4, i5, (ug_ne (by omega)).trans i6, fun i hi => prK_cg (fun _ _ => rfl) (fun k _ => ug_ne (by omega)) (i7 i hi), by rw [ug_same, ug_same], ⟨by rw [ug_same]; rfl, by rw [ug_same]; exact Nat.zero_le _⟩, fun k => ?_⟩
  rw [ug_ne (by omega), ug_ne (by omega)]
  exact i10 k
theorem sm_clearText {l : Launch} {D : va_G} {cA : FieldType → ClassId} {z0 : Nat} {SK SV : Nat → Nat} : smI l D cA z0 SK SV yX8_clearText cX8_clearText 2 0 yX9_clearText cX9_clearText 2 0 [] := by
  intro ad am hE hM hK g s σ τ ρ c9 gr h I
  obtain ⟨n, S, hg, hr, le⟩ := I.2.1
  have hσ := I.pm
  have hb := I.bo
  have hρ := I.rho
  have hc := I.c6
  have hv := I.sv
  have rl := inv_rl hg le
  have hs := inv_st hg
  have hs2 := inv_st hr
  obtain ⟨k1, k2, k3, k4, k5, k6⟩ := inv_sec hg
  obtain ⟨j1, j2, -⟩ := inv_sec hr
  exact sm_mk (fc_clearText hE g s σ τ hσ ρ c9) (ct_clearText hM gr h) (si_clr I) I.2.2.2.2.2.2.2.1 rfl rfl
theorem sm_beam {l : Launch} {D : va_G} {cA : FieldType → ClassId} {z0 : Nat} {SK SV : Nat → Nat} (a : Int32) : smI l D cA z0 SK SV yX8_beam cX8_beam 2 1 yX9_beam cX9_beam 2 2 [.int a] := by
  intro ad am hE hM hK g s σ τ ρ c9 gr h I
  obtain ⟨n, S, hg, hr, le⟩ := I.2.1
  have hσ := I.pm
  have hb := I.bo
  have hρ := I.rho
  have hc := I.c6
  have hv := I.sv
  have rl := inv_rl hg le
  have hs := inv_st hg
  have hs2 := inv_st hr
  obtain ⟨k1, k2, k3, k4, k5, k6⟩ := inv_sec hg
  obtain ⟨j1, j2, -⟩ := inv_sec hr
  by_cases ha : 0 ≤ a ∧ a ≤ 1
  rotate_left
  · have hi : isI a = 0 := by rw [isI_0]; exact ha
    exact sm_mk (fc_beamx hE g s σ τ hσ ρ c9 a hi) (ct_beam hM gr h a) I (by simp only [if_neg ha, fc_beamx_r]) rfl rfl
  rcases st2 ha with rfl | rfl
  · exact sm_mk (fc_beam0 hE g s σ τ hσ ρ c9) (ct_beam hM gr h (0)) I ((if_pos (by decide)).trans (show gr 1 18 = g 1 18 from rl.sc (by omega))) rfl rfl
  · exact sm_mk (fc_beam1 hE g s σ τ hσ ρ c9) (ct_beam hM gr h (1)) I ((if_pos (by decide)).trans (show gr 1 38 = g 1 38 from rl.sc (by omega))) rfl rfl
theorem sm_direction {l : Launch} {D : va_G} {cA : FieldType → ClassId} {z0 : Nat} {SK SV : Nat → Nat} (a b : Int32) : smI l D cA z0 SK SV yX8_direction cX8_direction 4 2 yX9_direction cX9_direction 3 3 [.int a, .int b] := by
  intro ad am hE hM hK g s σ τ ρ c9 gr h I
  obtain ⟨n, S, hg, hr, le⟩ := I.2.1
  have hσ := I.pm
  have hb := I.bo
  have hρ := I.rho
  have hc := I.c6
  have hv := I.sv
  have rl := inv_rl hg le
  have hs := inv_st hg
  have hs2 := inv_st hr
  obtain ⟨k1, k2, k3, k4, k5, k6⟩ := inv_sec hg
  obtain ⟨j1, j2, -⟩ := inv_sec hr
  by_cases ha : 0 ≤ a ∧ a ≤ 1
  rotate_left
  · have hi : isI a = 0 := by rw [isI_0]; exact ha
    exact sm_mk (fc_directionx hE g s σ τ hσ ρ c9 a b hi) (ct_direction hM gr h n a b hs2) I (by simp only [if_neg ha, fc_directionx_r]) rfl rfl
  rcases st2 ha with rfl | rfl
  · refine sm_mk (fc_direction0 hE g s σ τ hσ ρ c9 b) (ct_direction hM gr h n (0) b hs2) I ?_ rfl rfl
    rw [if_pos (by decide)]
    show (if 0 ≤ b ∧ b ≤ 6 * gr 1 15 - 1 then ptI (gr 1 15) (gr 1 16) b else -100002) = _
    rw [rl.sc (k := 15) (by omega), rl.sc (k := 16) (by omega)]
    unfold fc_direction0_r
    have q := hbC_0 (x := b) k1 (by omega)
    by_cases c : 0 ≤ b ∧ b ≤ 6 * g 1 15 - 1
    · simp only [ifw q, if_pos c]; exact pt_C (st_p0 hs)
    · simp only [ifw q, if_neg c]
  · refine sm_mk (fc_direction1 hE g s σ τ hσ ρ c9 b) (ct_direction hM gr h n (1) b hs2) I ?_ rfl rfl
    rw [if_pos (by decide)]
    show (if 0 ≤ b ∧ b ≤ 6 * gr 1 35 - 1 then ptI (gr 1 35) (gr 1 36) b else -100002) = _
    rw [rl.sc (k := 35) (by omega), rl.sc (k := 36) (by omega)]
    unfold fc_direction1_r
    have q := hbC_0 (x := b) k2 (by omega)
    by_cases c : 0 ≤ b ∧ b ≤ 6 * g 1 35 - 1
    · simp only [ifw q, if_pos c]; exact pt_C (st_p1 hs)
    · simp only [ifw q, if_neg c]
theorem sm_gain {l : Launch} {D : va_G} {cA : FieldType → ClassId} {z0 : Nat} {SK SV : Nat → Nat} (a b t : Int32) : smI l D cA z0 SK SV yX8_gain cX8_gain 5 2 yX9_gain cX9_gain 4 4 [.int a, .int b, .int t] := by
  intro ad am hE hM hK g s σ τ ρ c9 gr h I
  obtain ⟨n, S, hg, hr, le⟩ := I.2.1
  have hσ := I.pm
  have hb := I.bo
  have hρ := I.rho
  have hc := I.c6
  have hv := I.sv
  have rl := inv_rl hg le
  have hs := inv_st hg
  have hs2 := inv_st hr
  obtain ⟨k1, k2, k3, k4, k5, k6⟩ := inv_sec hg
  obtain ⟨j1, j2, -⟩ := inv_sec hr
  by_cases ha : 0 ≤ a ∧ a ≤ 1
  rotate_left
  · have hi : isI a = 0 := by rw [isI_0]; exact ha
    exact sm_mk (fc_gainx hE g s σ τ hσ ρ c9 a b t hi) (ct_gain hM gr h n a b t hs2) I (by simp only [if_neg ha, fc_gainx_r]) rfl rfl
  rcases st2 ha with rfl | rfl
  · refine sm_mk (fc_gain0 hE g s σ τ hσ ρ c9 b t) (ct_gain hM gr h n (0) b t hs2) I ?_ rfl rfl
    rw [if_pos (by decide)]
    show (if (b = -1 ∨ (0 ≤ b ∧ b ≤ 6 * gr 1 15 - 1)) then (if (0 ≤ t ∧ t ≤ 63) then gaI (gr 1 15) (gr 1 16) b t else -100002) else -100002) = _
    rw [rl.sc (k := 15) (by omega), rl.sc (k := 16) (by omega)]
    unfold fc_gain0_r
    have q := hoC_0 (x := b) k1 (by omega)
    have q2 := wnI_0 (x := t) (a := 0) (b := 63)
    by_cases c : (b = -1 ∨ (0 ≤ b ∧ b ≤ 6 * g 1 15 - 1))
    · simp only [ifw q, if_pos c]
      by_cases c2 : 0 ≤ t ∧ t ≤ 63
      · simp only [ifw q2, if_pos c2]; exact ga_C (st_p0 hs)
      · simp only [ifw q2, if_neg c2]
    · simp only [ifw q, if_neg c]
  · refine sm_mk (fc_gain1 hE g s σ τ hσ ρ c9 b t) (ct_gain hM gr h n (1) b t hs2) I ?_ rfl rfl
    rw [if_pos (by decide)]
    show (if (b = -1 ∨ (0 ≤ b ∧ b ≤ 6 * gr 1 35 - 1)) then (if (0 ≤ t ∧ t ≤ 63) then gaI (gr 1 35) (gr 1 36) b t else -100002) else -100002) = _
    rw [rl.sc (k := 35) (by omega), rl.sc (k := 36) (by omega)]
    unfold fc_gain1_r
    have q := hoC_0 (x := b) k2 (by omega)
    have q2 := wnI_0 (x := t) (a := 0) (b := 63)
    by_cases c : (b = -1 ∨ (0 ≤ b ∧ b ≤ 6 * g 1 35 - 1))
    · simp only [ifw q, if_pos c]
      by_cases c2 : 0 ≤ t ∧ t ≤ 63
      · simp only [ifw q2, if_pos c2]; exact ga_C (st_p1 hs)
      · simp only [ifw q2, if_neg c2]
    · simp only [ifw q, if_neg c]
theorem sm_quality {l : Launch} {D : va_G} {cA : FieldType → ClassId} {z0 : Nat} {SK SV : Nat → Nat} (a b t : Int32) : smI l D cA z0 SK SV yX8_quality cX8_quality 4 4 yX9_quality cX9_quality 4 6 [.int a, .int b, .int t] := by
  intro ad am hE hM hK g s σ τ ρ c9 gr h I
  obtain ⟨n, S, hg, hr, le⟩ := I.2.1
  have hσ := I.pm
  have hb := I.bo
  have hρ := I.rho
  have hc := I.c6
  have hv := I.sv
  have rl := inv_rl hg le
  have hs := inv_st hg
  have hs2 := inv_st hr
  obtain ⟨k1, k2, k3, k4, k5, k6⟩ := inv_sec hg
  obtain ⟨j1, j2, -⟩ := inv_sec hr
  by_cases ha : 0 ≤ a ∧ a ≤ 1
  rotate_left
  · have hi : isI a = 0 := by rw [isI_0]; exact ha
    exact sm_mk (fc_qualityx hE g s σ τ hσ ρ c9 a b t hi) (ct_quality hM gr h n a b t hs2) I (by simp only [if_neg ha, fc_qualityx_r]) rfl rfl
  rcases st2 ha with rfl | rfl
  · refine sm_mk (fc_quality0 hE g s σ τ hσ ρ c9 n b t hs) (ct_quality hM gr h n (0) b t hs2) I ?_ rfl rfl
    rw [if_pos (by decide)]
    show (if (b = -1 ∨ (0 ≤ b ∧ b ≤ 6 * gr 1 15 - 1)) then (if (t = -1 ∨ (0 ≤ t ∧ t ≤ 6 * gr 1 35 - 1)) then quaG gr 0 b t n else -100002) else -100002) = _
    rw [rl.sc (k := 15) (by omega), rl.sc (k := 35) (by omega), rl_qua rl (by omega)]
    unfold fc_quality0_r
    have q := hoC_0 (x := b) k1 (by omega)
    have q2 := hoC_0 (x := t) k2 (by omega)
    by_cases c : (b = -1 ∨ (0 ≤ b ∧ b ≤ 6 * g 1 15 - 1))
    · simp only [ifw q, if_pos c]
      by_cases c2 : (t = -1 ∨ (0 ≤ t ∧ t ≤ 6 * g 1 35 - 1))
      · simp only [ifw q2, if_pos c2]
      · simp only [ifw q2, if_neg c2]
    · simp only [ifw q, if_neg c]
  · refine sm_mk (fc_quality1 hE g s σ τ hσ ρ c9 n b t hs) (ct_quality hM gr h n (1) b t hs2) I ?_ rfl rfl
    rw [if_pos (by decide)]
    show (if (b = -1 ∨ (0 ≤ b ∧ b ≤ 6 * gr 1 15 - 1)) then (if (t = -1 ∨ (0 ≤ t ∧ t ≤ 6 * gr 1 35 - 1)) then quaG gr 1 b t n else -100002) else -100002) = _
    rw [rl.sc (k := 15) (by omega), rl.sc (k := 35) (by omega), rl_qua rl (by omega)]
    unfold fc_quality1_r
    have q := hoC_0 (x := b) k1 (by omega)
    have q2 := hoC_0 (x := t) k2 (by omega)
    by_cases c : (b = -1 ∨ (0 ≤ b ∧ b ≤ 6 * g 1 15 - 1))
    · simp only [ifw q, if_pos c]
      by_cases c2 : (t = -1 ∨ (0 ≤ t ∧ t ≤ 6 * g 1 35 - 1))
      · simp only [ifw q2, if_pos c2]
      · simp only [ifw q2, if_neg c2]
    · simp only [ifw q, if_neg c]
theorem sm_heard {l : Launch} {D : va_G} {cA : FieldType → ClassId} {z0 : Nat} {SK SV : Nat → Nat} (a b : Int32) : smI l D cA z0 SK SV yX8_heard cX8_heard 3 1 yX9_heard cX9_heard 3 2 [.int a, .int b] := by
  intro ad am hE hM hK g s σ τ ρ c9 gr h I
  obtain ⟨n, S, hg, hr, le⟩ := I.2.1
  have hσ := I.pm
  have hb := I.bo
  have hρ := I.rho
  have hc := I.c6
  have hv := I.sv
  have rl := inv_rl hg le
  have hs := inv_st hg
  have hs2 := inv_st hr
  obtain ⟨k1, k2, k3, k4, k5, k6⟩ := inv_sec hg
  obtain ⟨j1, j2, -⟩ := inv_sec hr
  by_cases ha : 0 ≤ a ∧ a ≤ 1
  rotate_left
  · have hi : isI a = 0 := by rw [isI_0]; exact ha
    exact sm_mk (fc_heardy hE g s σ τ hσ ρ c9 a b hi) (ct_heard hM gr h S a b (inv_sec hr)) I (by simp only [if_neg ha, fc_heardy_r]) rfl rfl
  rcases st2 ha with rfl | rfl
  · by_cases c : 0 ≤ b ∧ b ≤ g 1 35 - 1
    · obtain ⟨j, hj, rfl⟩ := path_of k2 (by omega) c
      refine sm_mk (fc_heard0 hE g s σ τ hσ ρ c9 (S 1) j k2 (by omega) hj) (ct_heard hM gr h S (0) (nI j) (inv_sec hr)) I ?_ rfl rfl
      rw [if_pos (by decide)]
      show (if 0 ≤ nI j ∧ nI j ≤ gr 1 35 - 1 then gr 1 (15 + (4 + (nI j).toNatClampNeg)) else -100001) = _
      rw [rl.sc (k := 35) (by omega), if_pos c, nI_clamp (by omega), rl.sc (k := 15 + (4 + j)) (by omega)]
      unfold fc_heard0_r
      rw [show 15 + (4 + j) = 19 + j by omega]
    · refine sm_mk (fc_heardx0 hE g s σ τ hσ ρ c9 b (by rw [hsC_0 k2 (by omega)]; exact c)) (ct_heard hM gr h S (0) b (inv_sec hr)) I ?_ rfl rfl
      rw [if_pos (by decide)]
      show (if 0 ≤ b ∧ b ≤ gr 1 35 - 1 then gr 1 (15 + (4 + b.toNatClampNeg)) else -100001) = _
      rw [rl.sc (k := 35) (by omega), if_neg c]
      rfl
  · by_cases c : 0 ≤ b ∧ b ≤ g 1 15 - 1
    · obtain ⟨j, hj, rfl⟩ := path_of k1 (by omega) c
      refine sm_mk (fc_heard1 hE g s σ τ hσ ρ c9 (S 0) j k1 (by omega) hj) (ct_heard hM gr h S (1) (nI j) (inv_sec hr)) I ?_ rfl rfl
      rw [if_pos (by decide)]
      show (if 0 ≤ nI j ∧ nI j ≤ gr 1 15 - 1 then gr 1 (35 + (4 + (nI j).toNatClampNeg)) else -100001) = _
      rw [rl.sc (k := 15) (by omega), if_pos c, nI_clamp (by omega), rl.sc (k := 35 + (4 + j)) (by omega)]
      unfold fc_heard1_r
      rw [show 35 + (4 + j) = 39 + j by omega]
    · refine sm_mk (fc_heardx1 hE g s σ τ hσ ρ c9 b (by rw [hsC_0 k1 (by omega)]; exact c)) (ct_heard hM gr h S (1) b (inv_sec hr)) I ?_ rfl rfl
      rw [if_pos (by decide)]
      show (if 0 ≤ b ∧ b ≤ gr 1 15 - 1 then gr 1 (35 + (4 + b.toNatClampNeg)) else -100001) = _
      rw [rl.sc (k := 15) (by omega), if_neg c]
      rfl
theorem sm_pathDirection {l : Launch} {D : va_G} {cA : FieldType → ClassId} {z0 : Nat} {SK SV : Nat → Nat} (a b : Int32) : smI l D cA z0 SK SV yX8_pathDirection cX8_pathDirection 3 1 yX9_pathDirection cX9_pathDirection 3 2 [.int a, .int b] := by
  intro ad am hE hM hK g s σ τ ρ c9 gr h I
  obtain ⟨n, S, hg, hr, le⟩ := I.2.1
  have hσ := I.pm
  have hb := I.bo
  have hρ := I.rho
  have hc := I.c6
  have hv := I.sv
  have rl := inv_rl hg le
  have hs := inv_st hg
  have hs2 := inv_st hr
  obtain ⟨k1, k2, k3, k4, k5, k6⟩ := inv_sec hg
  obtain ⟨j1, j2, -⟩ := inv_sec hr
  have h12 : g 1 12 = nI n := hs.1
  have h8 := hs.2.1
  by_cases c : 0 ≤ a ∧ a ≤ g 1 12 - 1
  · obtain ⟨j, hj, rfl⟩ := path_of h12 (by omega) c
    refine sm_mk (fc_pathDirection hE g s σ τ hσ ρ c9 n j b h12 h8 hj) (ct_pathDirection hM gr h n (nI j) b hs2) I ?_ rfl rfl
    rw [rl.sc (k := 12) (by omega), if_pos c, nI_clamp (by omega)]
    unfold fc_pathDirection_r
    have q := isI_0 (x := b)
    by_cases c2 : 0 ≤ b ∧ b ≤ 1
    · simp only [ifw q, if_pos c2]
      rcases st2 c2 with rfl | rfl
      · rw [if_pos rfl]
        exact rl.at_ (k := 55 + 6 * j + 0) (by omega)
      · rw [if_neg (by decide)]
        exact rl.at_ (k := 55 + 6 * j + 1) (by omega)
    · simp only [ifw q, if_neg c2]
  · refine sm_mk (fc_pathDirectionx hE g s σ τ hσ ρ c9 a b (hp_x h12 h8 c)) (ct_pathDirection hM gr h n a b hs2) I ?_ rfl rfl
    rw [rl.sc (k := 12) (by omega), if_neg c]
    rfl
theorem sm_backupBeam {l : Launch} {D : va_G} {cA : FieldType → ClassId} {z0 : Nat} {SK SV : Nat → Nat} (a b : Int32) : smI l D cA z0 SK SV yX8_backupBeam cX8_backupBeam 3 1 yX9_backupBeam cX9_backupBeam 3 2 [.int a, .int b] := by
  intro ad am hE hM hK g s σ τ ρ c9 gr h I
  obtain ⟨n, S, hg, hr, le⟩ := I.2.1
  have hσ := I.pm
  have hb := I.bo
  have hρ := I.rho
  have hc := I.c6
  have hv := I.sv
  have rl := inv_rl hg le
  have hs := inv_st hg
  have hs2 := inv_st hr
  obtain ⟨k1, k2, k3, k4, k5, k6⟩ := inv_sec hg
  obtain ⟨j1, j2, -⟩ := inv_sec hr
  obtain ⟨B, hB, hB3⟩ := inv_bk hg
  have hBr : gr 1 13 = nI B := (rl.sc (k := 13) (by omega)).trans hB
  by_cases c : 0 ≤ a ∧ a ≤ g 1 13 - 1
  · obtain ⟨j, hj, rfl⟩ := path_of hB (by omega) c
    refine sm_mk (fc_backupBeam hE g s σ τ hσ ρ c9 B j b hB hB3 hj) (ct_backupBeam hM gr h B (nI j) b hBr hB3) I ?_ rfl rfl
    rw [rl.sc (k := 13) (by omega), if_pos c, nI_clamp (by omega)]
    unfold fc_backupBeam_r
    have q := isI_0 (x := b)
    by_cases c2 : 0 ≤ b ∧ b ≤ 1
    · simp only [ifw q, if_pos c2]
      rcases st2 c2 with rfl | rfl
      · rw [if_pos rfl]
        exact rl_bk rl hB hB3 hj (r := 0) (by omega)
      · rw [if_neg (by decide)]
        exact rl_bk rl hB hB3 hj (r := 1) (by omega)
    · simp only [ifw q, if_neg c2]
  · refine sm_mk (fc_backupBeamx hE g s σ τ hσ ρ c9 a b (hb_x hB hB3 c)) (ct_backupBeam hM gr h B a b hBr hB3) I ?_ rfl rfl
    rw [rl.sc (k := 13) (by omega), if_neg c]
    rfl
theorem sm_backupQuality {l : Launch} {D : va_G} {cA : FieldType → ClassId} {z0 : Nat} {SK SV : Nat → Nat} (a : Int32) : smI l D cA z0 SK SV yX8_backupQuality cX8_backupQuality 2 1 yX9_backupQuality cX9_backupQuality 2 2 [.int a] := by
  intro ad am hE hM hK g s σ τ ρ c9 gr h I
  obtain ⟨n, S, hg, hr, le⟩ := I.2.1
  have hσ := I.pm
  have hb := I.bo
  have hρ := I.rho
  have hc := I.c6
  have hv := I.sv
  have rl := inv_rl hg le
  have hs := inv_st hg
  have hs2 := inv_st hr
  obtain ⟨k1, k2, k3, k4, k5, k6⟩ := inv_sec hg
  obtain ⟨j1, j2, -⟩ := inv_sec hr
  obtain ⟨B, hB, hB3⟩ := inv_bk hg
  have hBr : gr 1 13 = nI B := (rl.sc (k := 13) (by omega)).trans hB
  by_cases c : 0 ≤ a ∧ a ≤ g 1 13 - 1
  · obtain ⟨j, hj, rfl⟩ := path_of hB (by omega) c
    refine sm_mk (fc_backupQuality hE g s σ τ hσ ρ c9 B j hB hB3 hj) (ct_backupQuality hM gr h B (nI j) hBr hB3) I ?_ rfl rfl
    rw [rl.sc (k := 13) (by omega), if_pos c, nI_clamp (by omega)]
    exact rl_bk rl hB hB3 hj (r := 2) (by omega)
  · refine sm_mk (fc_backupQualityx hE g s σ τ hσ ρ c9 a (hb_x hB hB3 c)) (ct_backupQuality hM gr h B a hBr hB3) I ?_ rfl rfl
    rw [rl.sc (k := 13) (by omega), if_neg c]
    rfl
theorem sm_eventKind {l : Launch} {D : va_G} {cA : FieldType → ClassId} {z0 : Nat} {SK SV : Nat → Nat} (a : Int32) : smI l D cA z0 SK SV yX8_eventKind cX8_eventKind 2 1 yX9_eventKind cX9_eventKind 2 2 [.int a] := by
  intro ad am hE hM hK g s σ τ ρ c9 gr h I
  obtain ⟨n, S, hg, hr, le⟩ := I.2.1
  have hσ := I.pm
  have hb := I.bo
  have hρ := I.rho
  have hc := I.c6
  have hv := I.sv
  have rl := inv_rl hg le
  have hs := inv_st hg
  have hs2 := inv_st hr
  obtain ⟨k1, k2, k3, k4, k5, k6⟩ := inv_sec hg
  obtain ⟨j1, j2, -⟩ := inv_sec hr
  obtain ⟨E, hEv, hE2⟩ := inv_ev hg
  have hEr : gr 1 14 = nI E := (rl.sc (k := 14) (by omega)).trans hEv
  by_cases c : 0 ≤ a ∧ a ≤ g 1 14 - 1
  · obtain ⟨j, hj, rfl⟩ := path_of hEv (by omega) c
    refine sm_mk (fc_eventKind hE g s σ τ hσ ρ c9 E j hEv hE2 hj) (ct_eventKind hM gr h E (nI j) hEr hE2) I ?_ rfl rfl
    rw [rl.sc (k := 14) (by omega), if_pos c, nI_clamp (by omega)]
    exact rl.le.2.2 (112 + 3 * (E - 1 - j) + 0) (by omega) (by rw [hEv, nI_clamp (by omega)]; omega)
  · refine sm_mk (fc_eventKindx hE g s σ τ hσ ρ c9 a (he_x hEv hE2 c)) (ct_eventKind hM gr h E a hEr hE2) I ?_ rfl rfl
    rw [rl.sc (k := 14) (by omega), if_neg c]
    rfl
theorem sm_eventValue {l : Launch} {D : va_G} {cA : FieldType → ClassId} {z0 : Nat} {SK SV : Nat → Nat} (a : Int32) : smI l D cA z0 SK SV yX8_eventValue cX8_eventValue 2 1 yX9_eventValue cX9_eventValue 2 2 [.int a] := by
  intro ad am hE hM hK g s σ τ ρ c9 gr h I
  obtain ⟨n, S, hg, hr, le⟩ := I.2.1
  have hσ := I.pm
  have hb := I.bo
  have hρ := I.rho
  have hc := I.c6
  have hv := I.sv
  have rl := inv_rl hg le
  have hs := inv_st hg
  have hs2 := inv_st hr
  obtain ⟨k1, k2, k3, k4, k5, k6⟩ := inv_sec hg
  obtain ⟨j1, j2, -⟩ := inv_sec hr
  obtain ⟨E, hEv, hE2⟩ := inv_ev hg
  have hEr : gr 1 14 = nI E := (rl.sc (k := 14) (by omega)).trans hEv
  by_cases c : 0 ≤ a ∧ a ≤ g 1 14 - 1
  · obtain ⟨j, hj, rfl⟩ := path_of hEv (by omega) c
    refine sm_mk (fc_eventValue hE g s σ τ hσ ρ c9 E j hEv hE2 hj) (ct_eventValue hM gr h E (nI j) hEr hE2) I ?_ rfl rfl
    rw [rl.sc (k := 14) (by omega), if_pos c, nI_clamp (by omega)]
    exact rl.le.2.2 (112 + 3 * (E - 1 - j) + 1) (by omega) (by rw [hEv, nI_clamp (by omega)]; omega)
  · refine sm_mk (fc_eventValuex hE g s σ τ hσ ρ c9 a (he_x hEv hE2 c)) (ct_eventValue hM gr h E a hEr hE2) I ?_ rfl rfl
    rw [rl.sc (k := 14) (by omega), if_neg c]
    rfl
theorem sm_eventInterval {l : Launch} {D : va_G} {cA : FieldType → ClassId} {z0 : Nat} {SK SV : Nat → Nat} (a : Int32) : smI l D cA z0 SK SV yX8_eventInterval cX8_eventInterval 2 1 yX9_eventInterval cX9_eventInterval 2 2 [.int a] := by
  intro ad am hE hM hK g s σ τ ρ c9 gr h I
  obtain ⟨n, S, hg, hr, le⟩ := I.2.1
  have hσ := I.pm
  have hb := I.bo
  have hρ := I.rho
  have hc := I.c6
  have hv := I.sv
  have rl := inv_rl hg le
  have hs := inv_st hg
  have hs2 := inv_st hr
  obtain ⟨k1, k2, k3, k4, k5, k6⟩ := inv_sec hg
  obtain ⟨j1, j2, -⟩ := inv_sec hr
  obtain ⟨E, hEv, hE2⟩ := inv_ev hg
  have hEr : gr 1 14 = nI E := (rl.sc (k := 14) (by omega)).trans hEv
  by_cases c : 0 ≤ a ∧ a ≤ g 1 14 - 1
  · obtain ⟨j, hj, rfl⟩ := path_of hEv (by omega) c
    refine sm_mk (fc_eventInterval hE g s σ τ hσ ρ c9 E j hEv hE2 hj) (ct_eventInterval hM gr h E (nI j) hEr hE2) I ?_ rfl rfl
    rw [rl.sc (k := 14) (by omega), if_pos c, nI_clamp (by omega)]
    exact rl.le.2.2 (112 + 3 * (E - 1 - j) + 2) (by omega) (by rw [hEv, nI_clamp (by omega)]; omega)
  · refine sm_mk (fc_eventIntervalx hE g s σ τ hσ ρ c9 a (he_x hEv hE2 c)) (ct_eventInterval hM gr h E a hEr hE2) I ?_ rfl rfl
    rw [rl.sc (k := 14) (by omega), if_neg c]
    rfl
