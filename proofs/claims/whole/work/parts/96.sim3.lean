theorem z00 : (0 : Int32) ≤ 0 ∧ (0 : Int32) ≤ 1 := by decide
theorem z11 : (0 : Int32) ≤ 1 ∧ (1 : Int32) ≤ 1 := by decide
theorem pos_of1 {x : Int32} (h : 1 ≤ x) : 0 < x := by
  rw [Int32.le_iff_toInt_le] at h
  rw [Int32.lt_iff_toInt_lt]
  have e1 : (1 : Int32).toInt = 1 := by decide
  have e0 : (0 : Int32).toInt = 0 := by decide
  omega
theorem sm_setThreshold {l : Launch} {D : va_G} {cA : FieldType → ClassId} {z0 : Nat} {SK SV : Nat → Nat} (x : Int32) : smI l D cA z0 SK SV yX8_setThreshold cX8_setThreshold 3 3 yX9_setThreshold cX9_setThreshold 2 3 [.int x] := by
  intro ad am hE hM hK g s σ τ ρ c9 gr h I
  obtain ⟨n, S, hg, hr, le⟩ := I.2.1
  have hσ := I.pm
  have hb := I.bo
  have hρ := I.rho
  have hc := I.c6
  have hv := I.sv
  have rl := inv_rl hg le
  have hs := inv_st hg
  have hs2 := inv_st hr
  obtain ⟨k1, k2, k3, k4, k5, k6⟩ := inv_sec hg
  obtain ⟨j1, j2, -⟩ := inv_sec hr
  have I1 := si_save I
  have hr1 := inv_sv hr
  have le1 := le_sv hg le
  have rl1 := inv_rl hg le1
  by_cases u0 : -200 ≤ x ∧ x ≤ 200
  rotate_left
  · have w0 : wnI x (-200) (200) = 0 := by rw [wnI_0]; exact u0
    exact sm_mk (h1 := h) (fc_setThreshold hE g s σ τ hσ ρ c9 x hb hρ hc) (ct_setThreshold hM gr h x hv) I (by simp only [fc_setThreshold_r, if_neg u0, if_pos w0]) (by simp only [fc_setThreshold_w, if_neg u0, if_pos w0]) (by simp only [if_neg u0, if_pos w0])
  have w0 : ¬ wnI x (-200) (200) = 0 := by rw [wnI_0]; exact fun z => z u0
  have rl2 := rl_ug (k := 6) (x := x) (y := x) rl1 (by omega) (by omega) (by omega) rfl
  exact sm_mk (h1 := h) (fc_setThreshold hE g s σ τ hσ ρ c9 x hb hρ hc) (ct_setThreshold hM gr h x hv) (si_upd I1 hσ (inv_6 hg u0.1) (inv_6 hr1 u0.1) rl2.le (kpG_of rl2.ka) (kpG_of rl2.kb)) (by simp only [fc_setThreshold_r, if_pos u0, if_neg w0]; exact (sv_at 6 (by omega)).trans (rl.sc (k := 6) (by omega))) (by simp only [fc_setThreshold_w, if_pos u0, if_neg w0]) (by simp only [if_pos u0, if_neg w0])
theorem sm_setFade {l : Launch} {D : va_G} {cA : FieldType → ClassId} {z0 : Nat} {SK SV : Nat → Nat} (x y : Int32) : smI l D cA z0 SK SV yX8_setFade cX8_setFade 4 3 yX9_setFade cX9_setFade 4 3 [.int x, .int y] := by
  intro ad am hE hM hK g s σ τ ρ c9 gr h I
  obtain ⟨n, S, hg, hr, le⟩ := I.2.1
  have hσ := I.pm
  have hb := I.bo
  have hρ := I.rho
  have hc := I.c6
  have hv := I.sv
  have rl := inv_rl hg le
  have hs := inv_st hg
  have hs2 := inv_st hr
  obtain ⟨k1, k2, k3, k4, k5, k6⟩ := inv_sec hg
  obtain ⟨j1, j2, -⟩ := inv_sec hr
  have I1 := si_save I
  have hr1 := inv_sv hr
  have le1 := le_sv hg le
  have rl1 := inv_rl hg le1
  by_cases u0 : 0 ≤ x ∧ x ≤ 60
  rotate_left
  · have w0 : wnI x (0) (60) = 0 := by rw [wnI_0]; exact u0
    exact sm_mk (h1 := h) (fc_setFade hE g s σ τ hσ ρ c9 x y hb hρ hc) (ct_setFade hM gr h x y hv) I (by simp only [fc_setFade_r, if_neg u0, if_pos w0]) (by simp only [fc_setFade_w, if_neg u0, if_pos w0]) (by simp only [if_neg u0, if_pos w0])
  have w0 : ¬ wnI x (0) (60) = 0 := by rw [wnI_0]; exact fun z => z u0
  have rl2 := rl_ug (k := 5) (x := y) (y := y) (rl_ug (k := 7) (x := x) (y := x) rl1 (by omega) (by omega) (by omega) rfl) (by omega) (by omega) (by omega) rfl
  exact sm_mk (h1 := h) (fc_setFade hE g s σ τ hσ ρ c9 x y hb hρ hc) (ct_setFade hM gr h x y hv) (si_upd I1 hσ (inv_u (inv_7 hg (nI_rg rfl u0)) (by omega)) (inv_u (inv_7 hr1 (nI_rg rfl u0)) (by omega)) rl2.le (kpG_of rl2.ka) (kpG_of rl2.kb)) (by simp only [fc_setFade_r, if_pos u0, if_neg w0]; exact (sv_at 7 (by omega)).trans (rl.sc (k := 7) (by omega))) (by simp only [fc_setFade_w, if_pos u0, if_neg w0]) (by simp only [if_pos u0, if_neg w0])
theorem sm_setTracking {l : Launch} {D : va_G} {cA : FieldType → ClassId} {z0 : Nat} {SK SV : Nat → Nat} (on x : Int32) (ho : on = 0 ∨ on = 1) : smI l D cA z0 SK SV yX8_setTracking cX8_setTracking 4 3 yX9_setTracking cX9_setTracking 4 3 [.int on, .int x] := by
  intro ad am hE hM hK g s σ τ ρ c9 gr h I
  obtain ⟨n, S, hg, hr, le⟩ := I.2.1
  have hσ := I.pm
  have hb := I.bo
  have hρ := I.rho
  have hc := I.c6
  have hv := I.sv
  have rl := inv_rl hg le
  have hs := inv_st hg
  have hs2 := inv_st hr
  obtain ⟨k1, k2, k3, k4, k5, k6⟩ := inv_sec hg
  obtain ⟨j1, j2, -⟩ := inv_sec hr
  have I1 := si_save I
  have hr1 := inv_sv hr
  have le1 := le_sv hg le
  have rl1 := inv_rl hg le1
  by_cases u0 : 0 ≤ x ∧ x ≤ 40
  rotate_left
  · have w0 : wnI x (0) (40) = 0 := by rw [wnI_0]; exact u0
    exact sm_mk (h1 := h) (fc_setTracking hE g s σ τ hσ ρ c9 on x hb hρ hc ho) (ct_setTracking hM gr h on x hv) I (by simp only [fc_setTracking_r, if_neg u0, if_pos w0]) (by simp only [fc_setTracking_w, if_neg u0, if_pos w0]) (by simp only [if_neg u0, if_pos w0])
  have w0 : ¬ wnI x (0) (40) = 0 := by rw [wnI_0]; exact fun z => z u0
  have rl2 := rl_ug (k := 9) (x := x) (y := x) (rl_ug (k := 8) (x := on) (y := on) rl1 (by omega) (by omega) (by omega) rfl) (by omega) (by omega) (by omega) rfl
  exact sm_mk (h1 := h) (fc_setTracking hE g s σ τ hσ ρ c9 on x hb hρ hc ho) (ct_setTracking hM gr h on x hv) (si_upd I1 hσ (inv_u (inv_8 hg ho) (by omega)) (inv_u (inv_8 hr1 ho) (by omega)) rl2.le (kpG_of rl2.ka) (kpG_of rl2.kb)) (by simp only [fc_setTracking_r, if_pos u0, if_neg w0]; exact ((sv_at 8 (by omega)).trans (rl.sc (k := 8) (by omega))).trans (btI_b hg.2.2.2.2.2.1).symm) (by simp only [fc_setTracking_w, if_pos u0, if_neg w0]) (by simp only [if_pos u0, if_neg w0, b01_id ho])
theorem sm_setRecovery {l : Launch} {D : va_G} {cA : FieldType → ClassId} {z0 : Nat} {SK SV : Nat → Nat} (x on : Int32) (ho : on = 0 ∨ on = 1) : smI l D cA z0 SK SV yX8_setRecovery cX8_setRecovery 4 3 yX9_setRecovery cX9_setRecovery 4 3 [.int x, .int on] := by
  intro ad am hE hM hK g s σ τ ρ c9 gr h I
  obtain ⟨n, S, hg, hr, le⟩ := I.2.1
  have hσ := I.pm
  have hb := I.bo
  have hρ := I.rho
  have hc := I.c6
  have hv := I.sv
  have rl := inv_rl hg le
  have hs := inv_st hg
  have hs2 := inv_st hr
  obtain ⟨k1, k2, k3, k4, k5, k6⟩ := inv_sec hg
  obtain ⟨j1, j2, -⟩ := inv_sec hr
  have I1 := si_save I
  have hr1 := inv_sv hr
  have le1 := le_sv hg le
  have rl1 := inv_rl hg le1
  by_cases u0 : 1 ≤ x ∧ x ≤ 9
  rotate_left
  · have w0 : wnI x (1) (9) = 0 := by rw [wnI_0]; exact u0
    exact sm_mk (h1 := h) (fc_setRecovery hE g s σ τ hσ ρ c9 x on hb hρ hc ho) (ct_setRecovery hM gr h x on hv) I (by simp only [fc_setRecovery_r, if_neg u0, if_pos w0]) (by simp only [fc_setRecovery_w, if_neg u0, if_pos w0]) (by simp only [if_neg u0, if_pos w0])
  have w0 : ¬ wnI x (1) (9) = 0 := by rw [wnI_0]; exact fun z => z u0
  have rl2 := rl_ug (k := 11) (x := on) (y := on) (rl_ug (k := 10) (x := x) (y := x) rl1 (by omega) (by omega) (by omega) rfl) (by omega) (by omega) (by omega) rfl
  exact sm_mk (h1 := h) (fc_setRecovery hE g s σ τ hσ ρ c9 x on hb hρ hc ho) (ct_setRecovery hM gr h x on hv) (si_upd I1 hσ (inv_11 (inv_10 hg (pos_of1 u0.1)) ho) (inv_11 (inv_10 hr1 (pos_of1 u0.1)) ho) rl2.le (kpG_of rl2.ka) (kpG_of rl2.kb)) (by simp only [fc_setRecovery_r, if_pos u0, if_neg w0]; exact (sv_at 10 (by omega)).trans (rl.sc (k := 10) (by omega))) (by simp only [fc_setRecovery_w, if_pos u0, if_neg w0]) (by simp only [if_pos u0, if_neg w0, b01_id ho])
theorem sm_rotate {l : Launch} {D : va_G} {cA : FieldType → ClassId} {z0 : Nat} {SK SV : Nat → Nat} (a b : Int32) : smI l D cA z0 SK SV yX8_rotate cX8_rotate 4 3 yX9_rotate cX9_rotate 3 2 [.int a, .int b] := by
  intro ad am hE hM hK g s σ τ ρ c9 gr h I
  obtain ⟨n, S, hg, hr, le⟩ := I.2.1
  have hσ := I.pm
  have hb := I.bo
  have hρ := I.rho
  have hc := I.c6
  have hv := I.sv
  have rl := inv_rl hg le
  have hs := inv_st hg
  have hs2 := inv_st hr
  obtain ⟨k1, k2, k3, k4, k5, k6⟩ := inv_sec hg
  obtain ⟨j1, j2, -⟩ := inv_sec hr
  have I1 := si_save I
  have hr1 := inv_sv hr
  have le1 := le_sv hg le
  have rl1 := inv_rl hg le1
  by_cases ha : 0 ≤ a ∧ a ≤ 1
  rotate_left
  · have hi : isI a = 0 := by rw [isI_0]; exact ha
    exact sm_mk (h1 := h) (fc_rotatex hE g s σ τ hσ ρ c9 a b hi) (ct_rotate hM gr h a b hv) I (by simp only [if_neg ha, fc_rotatex_r]) rfl (by simp only [if_neg ha])
  rcases st2 ha with rfl | rfl
  · have ea : arI (svG gr 1 16 + b) 64 = trnI (g 1 16) b := by rw [trn_ar, sv_at 16 (by omega), rl.sc (k := 16) (by omega)]
    by_cases u0 : -63 ≤ b ∧ b ≤ 63
    rotate_left
    · have w0 : wnI b (-63) (63) = 0 := by rw [wnI_0]; exact u0
      exact sm_mk (h1 := h) (fc_rotate0 hE g s σ τ hσ ρ c9 b hb hρ hc) (ct_rotate hM gr h (0) b hv) I (by simp only [fc_rotate0_r, if_pos z00, if_neg u0, if_pos w0]) (by simp only [fc_rotate0_w, if_pos z00, if_neg u0, if_pos w0]) (by simp only [if_pos z00, if_neg u0, if_pos w0])
    have w0 : ¬ wnI b (-63) (63) = 0 := by rw [wnI_0]; exact fun z => z u0
    have rl2 := rl_ug (k := 16) (x := trnI (g 1 16) b) (y := trnI (g 1 16) b) rl1 (by omega) (by omega) (by omega) rfl
    refine sm_mk (h1 := h) (fc_rotate0 hE g s σ τ hσ ρ c9 b hb hρ hc) (ct_rotate hM gr h (0) b hv) (si_upd I1 hσ (inv_u hg (by omega)) (inv_u hr1 (by omega)) rl2.le (kpG_of rl2.ka) (kpG_of rl2.kb)) (by simp only [fc_rotate0_r, if_pos z00, if_pos u0, if_neg w0]; exact ea) (by simp only [fc_rotate0_w, if_pos z00, if_pos u0, if_neg w0]) ?_
    simp only [if_pos z00, if_pos u0, if_neg w0]
    exact congrArg (fun z => layM (ug (svG gr) 1 16 z) h) ea
  · have ea : arI (svG gr 1 36 + b) 64 = trnI (g 1 36) b := by rw [trn_ar, sv_at 36 (by omega), rl.sc (k := 36) (by omega)]
    by_cases u0 : -63 ≤ b ∧ b ≤ 63
    rotate_left
    · have w0 : wnI b (-63) (63) = 0 := by rw [wnI_0]; exact u0
      exact sm_mk (h1 := h) (fc_rotate1 hE g s σ τ hσ ρ c9 b hb hρ hc) (ct_rotate hM gr h (1) b hv) I (by simp only [fc_rotate1_r, if_pos z11, if_neg u0, if_pos w0]) (by simp only [fc_rotate1_w, if_pos z11, if_neg u0, if_pos w0]) (by simp only [if_pos z11, if_neg u0, if_pos w0])
    have w0 : ¬ wnI b (-63) (63) = 0 := by rw [wnI_0]; exact fun z => z u0
    have rl2 := rl_ug (k := 36) (x := trnI (g 1 36) b) (y := trnI (g 1 36) b) rl1 (by omega) (by omega) (by omega) rfl
    refine sm_mk (h1 := h) (fc_rotate1 hE g s σ τ hσ ρ c9 b hb hρ hc) (ct_rotate hM gr h (1) b hv) (si_upd I1 hσ (inv_u hg (by omega)) (inv_u hr1 (by omega)) rl2.le (kpG_of rl2.ka) (kpG_of rl2.kb)) (by simp only [fc_rotate1_r, if_pos z11, if_pos u0, if_neg w0]; exact ea) (by simp only [fc_rotate1_w, if_pos z11, if_pos u0, if_neg w0]) ?_
    simp only [if_pos z11, if_pos u0, if_neg w0]
    exact congrArg (fun z => layM (ug (svG gr) 1 36 z) h) ea
theorem sm_select {l : Launch} {D : va_G} {cA : FieldType → ClassId} {z0 : Nat} {SK SV : Nat → Nat} (a b : Int32) : smI l D cA z0 SK SV yX8_select cX8_select 4 3 yX9_select cX9_select 4 2 [.int a, .int b] := by
  intro ad am hE hM hK g s σ τ ρ c9 gr h I
  obtain ⟨n, S, hg, hr, le⟩ := I.2.1
  have hσ := I.pm
  have hb := I.bo
  have hρ := I.rho
  have hc := I.c6
  have hv := I.sv
  have rl := inv_rl hg le
  have hs := inv_st hg
  have hs2 := inv_st hr
  obtain ⟨k1, k2, k3, k4, k5, k6⟩ := inv_sec hg
  obtain ⟨j1, j2, -⟩ := inv_sec hr
  have I1 := si_save I
  have hr1 := inv_sv hr
  have le1 := le_sv hg le
  have rl1 := inv_rl hg le1
  by_cases ha : 0 ≤ a ∧ a ≤ 1
  rotate_left
  · have hi : isI a = 0 := by rw [isI_0]; exact ha
    exact sm_mk (h1 := h) (fc_selectx hE g s σ τ hσ ρ c9 a b hi) (ct_select hM gr h a b hv) I (by simp only [if_neg ha, fc_selectx_r]) rfl (by simp only [if_neg ha])
  rcases st2 ha with rfl | rfl
  · have e6 : gr 1 15 = g 1 15 := rl.sc (by omega)
    have A := fc_select0 (l := l) (D := D) (cA := cA) (SK := SK) (SV := SV) hE g s σ τ hσ ρ c9 b hb hρ hc
    have B := ct_select (l := l) (D := D) (cA := cA) (SK := SK) (SV := SV) hM gr h (0) b hv
    have qq := hbC_0 (x := b) k1 (by omega)
    by_cases c : 0 ≤ b ∧ b ≤ 6 * g 1 15 - 1
    · have c' : ¬ hbC (g 1 15) b = 0 := by rw [qq]; exact fun z => z c
      obtain ⟨j, hj, ej⟩ := path_of (n := 6 * S 0) (by rw [k1, show (6 : Int32) = nI 6 from rfl, pk_mul]) (by omega) c
      have c2 : 0 ≤ b ∧ b ≤ 6 * gr 1 15 - 1 := by rw [e6]; exact c
      have rl2 := rl_ug (k := 18) (x := b) (y := b) rl1 (by omega) (by omega) (by omega) rfl
      refine sm_mk (h1 := h) A B (si_upd I1 hσ (inv_bm (s := 0) (by omega) hg ⟨j, hj, ej⟩) (inv_bm (s := 0) (by omega) hr1 ⟨j, hj, ej⟩) rl2.le (kpG_of rl2.ka) (kpG_of rl2.kb)) ?_ (by simp only [fc_select0_w, if_neg c']) ?_
      · rw [if_pos z00]
        refine (if_pos c2).trans ?_
        unfold fc_select0_r
        rw [if_neg c']
        exact (sv_at 18 (by omega)).trans (rl.sc (k := 18) (by omega))
      · rw [if_pos z00]
        exact congrArg (fun z => layM z h) (if_pos c2)
    · have c' : hbC (g 1 15) b = 0 := by rw [qq]; exact c
      have c2 : ¬ (0 ≤ b ∧ b ≤ 6 * gr 1 15 - 1) := by rw [e6]; exact c
      refine sm_mk (h1 := h) A B I ?_ (by simp only [fc_select0_w, if_pos c']) ?_
      · rw [if_pos z00]
        refine (if_neg c2).trans ?_
        unfold fc_select0_r
        rw [if_pos c']
      · rw [if_pos z00]
        exact congrArg (fun z => layM z h) (if_neg c2)
  · have e6 : gr 1 35 = g 1 35 := rl.sc (by omega)
    have A := fc_select1 (l := l) (D := D) (cA := cA) (SK := SK) (SV := SV) hE g s σ τ hσ ρ c9 b hb hρ hc
    have B := ct_select (l := l) (D := D) (cA := cA) (SK := SK) (SV := SV) hM gr h (1) b hv
    have qq := hbC_0 (x := b) k2 (by omega)
    by_cases c : 0 ≤ b ∧ b ≤ 6 * g 1 35 - 1
    · have c' : ¬ hbC (g 1 35) b = 0 := by rw [qq]; exact fun z => z c
      obtain ⟨j, hj, ej⟩ := path_of (n := 6 * S 1) (by rw [k2, show (6 : Int32) = nI 6 from rfl, pk_mul]) (by omega) c
      have c2 : 0 ≤ b ∧ b ≤ 6 * gr 1 35 - 1 := by rw [e6]; exact c
      have rl2 := rl_ug (k := 38) (x := b) (y := b) rl1 (by omega) (by omega) (by omega) rfl
      refine sm_mk (h1 := h) A B (si_upd I1 hσ (inv_bm (s := 1) (by omega) hg ⟨j, hj, ej⟩) (inv_bm (s := 1) (by omega) hr1 ⟨j, hj, ej⟩) rl2.le (kpG_of rl2.ka) (kpG_of rl2.kb)) ?_ (by simp only [fc_select1_w, if_neg c']) ?_
      · rw [if_pos z11]
        refine (if_pos c2).trans ?_
        unfold fc_select1_r
        rw [if_neg c']
        exact (sv_at 38 (by omega)).trans (rl.sc (k := 38) (by omega))
      · rw [if_pos z11]
        exact congrArg (fun z => layM z h) (if_pos c2)
    · have c' : hbC (g 1 35) b = 0 := by rw [qq]; exact c
      have c2 : ¬ (0 ≤ b ∧ b ≤ 6 * gr 1 35 - 1) := by rw [e6]; exact c
      refine sm_mk (h1 := h) A B I ?_ (by simp only [fc_select1_w, if_pos c']) ?_
      · rw [if_pos z11]
        refine (if_neg c2).trans ?_
        unfold fc_select1_r
        rw [if_pos c']
      · rw [if_pos z11]
        exact congrArg (fun z => layM z h) (if_neg c2)
theorem set0_eq {g : Nat → Nat → Int32} {x y z : Int32} : ug (ug (fillG (fillG (ug (ug (ug (ug g 1 15 x) 1 16 y) 1 17 z) 1 18 (-100000)) 19 16 (-100000)) 39 16 (-100000)) 1 0 0) 1 13 0 = setG0 x y z g := by
  unfold setG0
  rw [ug_sw (by omega)]
theorem set1_eq {g : Nat → Nat → Int32} {x y z : Int32} : ug (ug (fillG (fillG (ug (ug (ug (ug g 1 35 x) 1 36 y) 1 37 z) 1 38 (-100000)) 19 16 (-100000)) 39 16 (-100000)) 1 0 0) 1 13 0 = setG1 x y z g := by
  unfold setG1
  rw [ug_sw (by omega), fill_cm]
theorem rl_set0 {n : Nat} {a0 b0 a b : Nat → Nat → Int32} {x y z : Int32} (h : rlG n a0 b0 a b) : rlG n a0 b0 (setG0 x y z a) (setG0 x y z b) := by
  unfold setG0
  exact rl_ug (rl_b0 (rl_fill (rl_fill (rl_ug (rl_ug (rl_ug (rl_ug h (by omega) (by omega) (by omega) rfl) (by omega) (by omega) (by omega) rfl) (by omega) (by omega) (by omega) rfl) (by omega) (by omega) (by omega) rfl) (by omega)) (by omega))) (by omega) (by omega) (by omega) rfl
theorem rl_set1 {n : Nat} {a0 b0 a b : Nat → Nat → Int32} {x y z : Int32} (h : rlG n a0 b0 a b) : rlG n a0 b0 (setG1 x y z a) (setG1 x y z b) := by
  unfold setG1
  exact rl_ug (rl_b0 (rl_fill (rl_fill (rl_ug (rl_ug (rl_ug (rl_ug h (by omega) (by omega) (by omega) rfl) (by omega) (by omega) (by omega) rfl) (by omega) (by omega) (by omega) rfl) (by omega) (by omega) (by omega) rfl) (by omega)) (by omega))) (by omega) (by omega) (by omega) rfl
theorem sm_setStation {l : Launch} {D : va_G} {cA : FieldType → ClassId} {z0 : Nat} {SK SV : Nat → Nat} (a x y z : Int32) : smI l D cA z0 SK SV yX8_setStation cX8_setStation 6 3 yX9_setStation cX9_setStation 6 2 [.int a, .int x, .int y, .int z] := by
  intro ad am hE hM hK g s σ τ ρ c9 gr h I
  obtain ⟨n, S, hg, hr, le⟩ := I.2.1
  have hσ := I.pm
  have hb := I.bo
  have hρ := I.rho
  have hc := I.c6
  have hv := I.sv
  have rl := inv_rl hg le
  have hs := inv_st hg
  have hs2 := inv_st hr
  obtain ⟨k1, k2, k3, k4, k5, k6⟩ := inv_sec hg
  obtain ⟨j1, j2, -⟩ := inv_sec hr
  have I1 := si_save I
  have hr1 := inv_sv hr
  have le1 := le_sv hg le
  have rl1 := inv_rl hg le1
  by_cases ha : 0 ≤ a ∧ a ≤ 1
  rotate_left
  · have hi : isI a = 0 := by rw [isI_0]; exact ha
    exact sm_mk (h1 := h) (fc_setStationx hE g s σ τ hσ ρ c9 a x y z hi) (ct_setStation hM gr h a x y z hv) I (by simp only [if_neg ha, fc_setStationx_r]) rfl (by simp only [if_neg ha])
  rcases st2 ha with rfl | rfl
  · skip
    by_cases u0 : 2 ≤ x ∧ x ≤ 16
    rotate_left
    · have w0 : wnI x (2) (16) = 0 := by rw [wnI_0]; exact u0
      exact sm_mk (h1 := h) (fc_setStation0 hE g s σ τ hσ ρ c9 x y z hb hρ hc) (ct_setStation hM gr h (0) x y z hv) I (by simp only [fc_setStation0_r, if_pos z00, if_neg u0, if_pos w0]) (by simp only [fc_setStation0_w, if_pos z00, if_neg u0, if_pos w0]) (by simp only [if_pos z00, if_neg u0, if_pos w0])
    have w0 : ¬ wnI x (2) (16) = 0 := by rw [wnI_0]; exact fun z => z u0
    by_cases u1 : 0 ≤ y ∧ y ≤ 63
    rotate_left
    · have w1 : wnI y (0) (63) = 0 := by rw [wnI_0]; exact u1
      exact sm_mk (h1 := h) (fc_setStation0 hE g s σ τ hσ ρ c9 x y z hb hρ hc) (ct_setStation hM gr h (0) x y z hv) I (by simp only [fc_setStation0_r, if_pos z00, if_pos u0, if_neg w0, if_neg u1, if_pos w1]) (by simp only [fc_setStation0_w, if_pos z00, if_pos u0, if_neg w0, if_neg u1, if_pos w1]) (by simp only [if_pos z00, if_pos u0, if_neg w0, if_neg u1, if_pos w1])
    have w1 : ¬ wnI y (0) (63) = 0 := by rw [wnI_0]; exact fun z => z u1
    by_cases u2 : 0 ≤ z ∧ z ≤ 100
    rotate_left
    · have w2 : wnI z (0) (100) = 0 := by rw [wnI_0]; exact u2
      exact sm_mk (h1 := h) (fc_setStation0 hE g s σ τ hσ ρ c9 x y z hb hρ hc) (ct_setStation hM gr h (0) x y z hv) I (by simp only [fc_setStation0_r, if_pos z00, if_pos u0, if_neg w0, if_pos u1, if_neg w1, if_neg u2, if_pos w2]) (by simp only [fc_setStation0_w, if_pos z00, if_pos u0, if_neg w0, if_pos u1, if_neg w1, if_neg u2, if_pos w2]) (by simp only [if_pos z00, if_pos u0, if_neg w0, if_pos u1, if_neg w1, if_neg u2, if_pos w2])
    have w2 : ¬ wnI z (0) (100) = 0 := by rw [wnI_0]; exact fun z => z u2
    obtain ⟨X, rfl, hX⟩ := nI_rg (N := 16) rfl ⟨Int32.le_trans (by decide) u0.1, u0.2⟩
    obtain ⟨Z9, rfl, hZ⟩ := nI_rg (N := 100) rfl u2
    have hX2 : 2 ≤ X := by
      have z9 := u0.1
      rw [show (2 : Int32) = nI 2 from rfl, nI_leI (by omega) (by omega)] at z9
      exact z9
    have rl2 := rl_set0 (x := nI X) (y := y) (z := nI Z9) rl1
    refine sm_mk (h1 := h) (fc_setStation0 hE g s σ τ hσ ρ c9 (nI X) y (nI Z9) hb hρ hc) (ct_setStation hM gr h (0) (nI X) y (nI Z9) hv) (si_upd I1 hσ (inv_st0 hg ⟨hX2, hX⟩ hZ) (inv_st0 hr1 ⟨hX2, hX⟩ hZ) rl2.le (kpG_of rl2.ka) (kpG_of rl2.kb)) ?_ (by simp only [fc_setStation0_w, if_pos z00, if_pos u0, if_neg w0, if_pos u1, if_neg w1, if_pos u2, if_neg w2]) ?_
    · simp only [fc_setStation0_r, if_pos z00, if_pos u0, if_neg w0, if_pos u1, if_neg w1, if_pos u2, if_neg w2]
      exact (sv_at 15 (by omega)).trans (rl.sc (k := 15) (by omega))
    · simp only [if_pos z00, if_pos u0, if_neg w0, if_pos u1, if_neg w1, if_pos u2, if_neg w2]
      exact congrArg (fun z => layM z h) set0_eq
  · skip
    by_cases u0 : 2 ≤ x ∧ x ≤ 16
    rotate_left
    · have w0 : wnI x (2) (16) = 0 := by rw [wnI_0]; exact u0
      exact sm_mk (h1 := h) (fc_setStation1 hE g s σ τ hσ ρ c9 x y z hb hρ hc) (ct_setStation hM gr h (1) x y z hv) I (by simp only [fc_setStation1_r, if_pos z11, if_neg u0, if_pos w0]) (by simp only [fc_setStation1_w, if_pos z11, if_neg u0, if_pos w0]) (by simp only [if_pos z11, if_neg u0, if_pos w0])
    have w0 : ¬ wnI x (2) (16) = 0 := by rw [wnI_0]; exact fun z => z u0
    by_cases u1 : 0 ≤ y ∧ y ≤ 63
    rotate_left
    · have w1 : wnI y (0) (63) = 0 := by rw [wnI_0]; exact u1
      exact sm_mk (h1 := h) (fc_setStation1 hE g s σ τ hσ ρ c9 x y z hb hρ hc) (ct_setStation hM gr h (1) x y z hv) I (by simp only [fc_setStation1_r, if_pos z11, if_pos u0, if_neg w0, if_neg u1, if_pos w1]) (by simp only [fc_setStation1_w, if_pos z11, if_pos u0, if_neg w0, if_neg u1, if_pos w1]) (by simp only [if_pos z11, if_pos u0, if_neg w0, if_neg u1, if_pos w1])
    have w1 : ¬ wnI y (0) (63) = 0 := by rw [wnI_0]; exact fun z => z u1
    by_cases u2 : 0 ≤ z ∧ z ≤ 100
    rotate_left
    · have w2 : wnI z (0) (100) = 0 := by rw [wnI_0]; exact u2
      exact sm_mk (h1 := h) (fc_setStation1 hE g s σ τ hσ ρ c9 x y z hb hρ hc) (ct_setStation hM gr h (1) x y z hv) I (by simp only [fc_setStation1_r, if_pos z11, if_pos u0, if_neg w0, if_pos u1, if_neg w1, if_neg u2, if_pos w2]) (by simp only [fc_setStation1_w, if_pos z11, if_pos u0, if_neg w0, if_pos u1, if_neg w1, if_neg u2, if_pos w2]) (by simp only [if_pos z11, if_pos u0, if_neg w0, if_pos u1, if_neg w1, if_neg u2, if_pos w2])
    have w2 : ¬ wnI z (0) (100) = 0 := by rw [wnI_0]; exact fun z => z u2
    obtain ⟨X, rfl, hX⟩ := nI_rg (N := 16) rfl ⟨Int32.le_trans (by decide) u0.1, u0.2⟩
    obtain ⟨Z9, rfl, hZ⟩ := nI_rg (N := 100) rfl u2
    have hX2 : 2 ≤ X := by
      have z9 := u0.1
      rw [show (2 : Int32) = nI 2 from rfl, nI_leI (by omega) (by omega)] at z9
      exact z9
    have rl2 := rl_set1 (x := nI X) (y := y) (z := nI Z9) rl1
    refine sm_mk (h1 := h) (fc_setStation1 hE g s σ τ hσ ρ c9 (nI X) y (nI Z9) hb hρ hc) (ct_setStation hM gr h (1) (nI X) y (nI Z9) hv) (si_upd I1 hσ (inv_st1 hg ⟨hX2, hX⟩ hZ) (inv_st1 hr1 ⟨hX2, hX⟩ hZ) rl2.le (kpG_of rl2.ka) (kpG_of rl2.kb)) ?_ (by simp only [fc_setStation1_w, if_pos z11, if_pos u0, if_neg w0, if_pos u1, if_neg w1, if_pos u2, if_neg w2]) ?_
    · simp only [fc_setStation1_r, if_pos z11, if_pos u0, if_neg w0, if_pos u1, if_neg w1, if_pos u2, if_neg w2]
      exact (sv_at 35 (by omega)).trans (rl.sc (k := 35) (by omega))
    · simp only [if_pos z11, if_pos u0, if_neg w0, if_pos u1, if_neg w1, if_pos u2, if_neg w2]
      exact congrArg (fun z => layM z h) set1_eq
theorem sm_sweep {l : Launch} {D : va_G} {cA : FieldType → ClassId} {z0 : Nat} {SK SV : Nat → Nat} (a  : Int32) : smI l D cA z0 SK SV yX8_sweep cX8_sweep 2 6 yX9_sweep cX9_sweep 2 11 [.int a] := by
  intro ad am hE hM hK g s σ τ ρ c9 gr h I
  obtain ⟨n, S, hg, hr, le⟩ := I.2.1
  have hσ := I.pm
  have hb := I.bo
  have hρ := I.rho
  have hc := I.c6
  have hv := I.sv
  have rl := inv_rl hg le
  have hs := inv_st hg
  have hs2 := inv_st hr
  obtain ⟨k1, k2, k3, k4, k5, k6⟩ := inv_sec hg
  obtain ⟨j1, j2, -⟩ := inv_sec hr
  have I1 := si_save I
  have hr1 := inv_sv hr
  have le1 := le_sv hg le
  have rl1 := inv_rl hg le1
  by_cases ha : 0 ≤ a ∧ a ≤ 1
  rotate_left
  · have hi : isI a = 0 := by rw [isI_0]; exact ha
    exact sm_mk (h1 := h) (fc_sweepx hE g s σ τ hσ ρ c9 a  hi) (ct_sweep hM gr h n S a (hr.1) hv) I (by simp only [if_neg ha, fc_sweepx_r]) rfl (by simp only [if_neg ha])
  rcases st2 ha with rfl | rfl
  · have rl2 := rl_dsw (S := S) (f := 0) rl1 (by omega) k4 k6
    refine sm_mk (h1 := h) (fc_sweep0 hE g s σ τ hσ ρ c9 n S hb hρ hc hg) (ct_sweep hM gr h n S (0) hr.1 hv) (si_upd I1 hσ (inv_rs (f := 0) (by omega) hg) (inv_rs (f := 0) (by omega) hr1) rl2.le (kpG_of rl2.ka) (kpG_of rl2.kb)) ?_ rfl ?_
    · rw [if_pos z00]
      exact rl_phR (S := S) (f := 0) rl1 (by omega) k4 k6
    · rw [if_pos z00]
      rfl
  · have rl2 := rl_dsw (S := S) (f := 1) rl1 (by omega) k6 k4
    refine sm_mk (h1 := h) (fc_sweep1 hE g s σ τ hσ ρ c9 n S hb hρ hc hg) (ct_sweep hM gr h n S (1) hr.1 hv) (si_upd I1 hσ (inv_rs (f := 1) (by omega) hg) (inv_rs (f := 1) (by omega) hr1) rl2.le (kpG_of rl2.ka) (kpG_of rl2.kb)) ?_ rfl ?_
    · rw [if_pos z11]
      exact rl_phR (S := S) (f := 1) rl1 (by omega) k6 k4
    · rw [if_pos z11]
      rfl
theorem sm_pass {l : Launch} {D : va_G} {cA : FieldType → ClassId} {z0 : Nat} {SK SV : Nat → Nat} (a : Int32) : smI l D cA z0 SK SV yX8_pass cX8_pass 3 7 yX9_pass cX9_pass 3 12 [.int a] := by
  intro ad am hE hM hK g s σ τ ρ c9 gr h I
  obtain ⟨n, S, hg, hr, le⟩ := I.2.1
  have hσ := I.pm
  have hb := I.bo
  have hρ := I.rho
  have hc := I.c6
  have hv := I.sv
  have rl := inv_rl hg le
  have hs := inv_st hg
  have hs2 := inv_st hr
  obtain ⟨k1, k2, k3, k4, k5, k6⟩ := inv_sec hg
  obtain ⟨j1, j2, -⟩ := inv_sec hr
  have I1 := si_save I
  have hr1 := inv_sv hr
  have le1 := le_sv hg le
  have rl1 := inv_rl hg le1
  by_cases c : 1 ≤ a ∧ a ≤ 50
  · obtain ⟨m9, rfl, hm⟩ := nI_rg (N := 50) rfl ⟨Int32.le_trans (by decide) c.1, c.2⟩
    have hm1 : 1 ≤ m9 := by
      have z9 := c.1
      rw [show (1 : Int32) = nI 1 from rfl, nI_leI (by omega) (by omega)] at z9
      exact z9
    have rl2 := rl_pasN (S := S) rl1 k4 k6 m9
    have hcl : (nI m9).toNatClampNeg = m9 := nI_clamp (by omega)
    refine sm_mk (h1 := h) (fc_pass hE g s σ τ hσ ρ c9 n S m9 hb hρ hc hg hm1 hm) (ct_pass hM gr h n S (nI m9) hr.1 hv) (si_upd I1 hσ (inv_pasN hg m9) (inv_pasN hr1 m9) rl2.le (kpG_of rl2.ka) (kpG_of rl2.kb)) ?_ rfl ?_
    · rw [if_pos c, hcl, btI_b (inv_pasN hg m9).2.2.2.2.1]
      exact rl2.sc (by omega)
    · rw [if_pos c, hcl]
  · exact sm_mk (h1 := h) (fc_passx hE g s σ τ hσ ρ c9 a (by rw [wnI_0]; exact c)) (ct_pass hM gr h n S a hr.1 hv) I (by rw [if_neg c]; rfl) rfl (by rw [if_neg c])
theorem sm_setBlock {l : Launch} {D : va_G} {cA : FieldType → ClassId} {z0 : Nat} {SK SV : Nat → Nat} (a x : Int32) : smI l D cA z0 SK SV yX8_setBlock cX8_setBlock 4 3 yX9_setBlock cX9_setBlock 4 2 [.int a, .int x] := by
  intro ad am hE hM hK g s σ τ ρ c9 gr h I
  obtain ⟨n, S, hg, hr, le⟩ := I.2.1
  have hσ := I.pm
  have hb := I.bo
  have hρ := I.rho
  have hc := I.c6
  have hv := I.sv
  have rl := inv_rl hg le
  have hs := inv_st hg
  have hs2 := inv_st hr
  obtain ⟨k1, k2, k3, k4, k5, k6⟩ := inv_sec hg
  obtain ⟨j1, j2, -⟩ := inv_sec hr
  have I1 := si_save I
  have hr1 := inv_sv hr
  have le1 := le_sv hg le
  have rl1 := inv_rl hg le1
  have h12 : g 1 12 = nI n := hs.1
  have h8 := hs.2.1
  have e12 : gr 1 12 = g 1 12 := rl.sc (by omega)
  by_cases c : 0 ≤ a ∧ a ≤ g 1 12 - 1
  rotate_left
  · have c' : ¬ (0 ≤ a ∧ a ≤ gr 1 12 - 1) := by rw [e12]; exact c
    exact sm_mk (h1 := h) (fc_setBlockx hE g s σ τ hσ ρ c9 a x (hp_x h12 h8 c)) (ct_setBlock hM gr h n a x hs2 hv) I (by rw [if_neg c']; rfl) rfl (by rw [if_neg c'])
  have c' : 0 ≤ a ∧ a ≤ gr 1 12 - 1 := by rw [e12]; exact c
  obtain ⟨q, hq, rfl⟩ := path_of h12 (by omega) c
  have hcl : (nI q).toNatClampNeg = q := nI_clamp (by omega)
  by_cases u0 : 0 ≤ x ∧ x ≤ 200
  rotate_left
  · have w0 : wnI x (0) (200) = 0 := by rw [wnI_0]; exact u0
    exact sm_mk (h1 := h) (fc_setBlock hE g s σ τ hσ ρ c9 n q x hb hρ hc h12 h8 hq) (ct_setBlock hM gr h n (nI q) x hs2 hv) I (by simp only [fc_setBlock_r, if_pos c', if_neg u0, if_pos w0]) (by simp only [fc_setBlock_w, if_pos c', if_neg u0, if_pos w0]) (by simp only [if_pos c', if_neg u0, if_pos w0])
  have w0 : ¬ wnI x (0) (200) = 0 := by rw [wnI_0]; exact fun z => z u0
  have rl2 := rl_ug (k := 55 + 6 * q + 3) (x := x) (y := x) rl1 (by omega) (by omega) (by omega) rfl
  refine sm_mk (h1 := h) (fc_setBlock hE g s σ τ hσ ρ c9 n q x hb hρ hc h12 h8 hq) (ct_setBlock hM gr h n (nI q) x hs2 hv) (si_upd I1 hσ (inv_pth hg hq (by omega) (fun z => absurd z (by omega)) (fun _ => nI_rg rfl u0)) (inv_pth hr1 hq (by omega) (fun z => absurd z (by omega)) (fun _ => nI_rg rfl u0)) rl2.le (kpG_of rl2.ka) (kpG_of rl2.kb)) ?_ (by simp only [fc_setBlock_w, if_pos c', if_pos u0, if_neg w0]) (by simp only [if_pos c', if_pos u0, if_neg w0, hcl])
  simp only [fc_setBlock_r, if_pos c', if_pos u0, if_neg w0, hcl]
  exact (sv_at _ (by omega)).trans (rl.at_ (k := 55 + 6 * q + 3) (by omega))
theorem sm_setDrift {l : Launch} {D : va_G} {cA : FieldType → ClassId} {z0 : Nat} {SK SV : Nat → Nat} (a x y : Int32) : smI l D cA z0 SK SV yX8_setDrift cX8_setDrift 4 3 yX9_setDrift cX9_setDrift 4 2 [.int a, .int x, .int y] := by
  intro ad am hE hM hK g s σ τ ρ c9 gr h I
  obtain ⟨n, S, hg, hr, le⟩ := I.2.1
  have hσ := I.pm
  have hb := I.bo
  have hρ := I.rho
  have hc := I.c6
  have hv := I.sv
  have rl := inv_rl hg le
  have hs := inv_st hg
  have hs2 := inv_st hr
  obtain ⟨k1, k2, k3, k4, k5, k6⟩ := inv_sec hg
  obtain ⟨j1, j2, -⟩ := inv_sec hr
  have I1 := si_save I
  have hr1 := inv_sv hr
  have le1 := le_sv hg le
  have rl1 := inv_rl hg le1
  have h12 : g 1 12 = nI n := hs.1
  have h8 := hs.2.1
  have e12 : gr 1 12 = g 1 12 := rl.sc (by omega)
  by_cases c : 0 ≤ a ∧ a ≤ g 1 12 - 1
  rotate_left
  · have c' : ¬ (0 ≤ a ∧ a ≤ gr 1 12 - 1) := by rw [e12]; exact c
    exact sm_mk (h1 := h) (fc_setDriftx hE g s σ τ hσ ρ c9 a x y (hp_x h12 h8 c)) (ct_setDrift hM gr h n a x y hs2 hv) I (by rw [if_neg c']; rfl) rfl (by rw [if_neg c'])
  have c' : 0 ≤ a ∧ a ≤ gr 1 12 - 1 := by rw [e12]; exact c
  obtain ⟨q, hq, rfl⟩ := path_of h12 (by omega) c
  have hcl : (nI q).toNatClampNeg = q := nI_clamp (by omega)
  by_cases u0 : -3 ≤ x ∧ x ≤ 3
  rotate_left
  · have w0 : wnI x (-3) (3) = 0 := by rw [wnI_0]; exact u0
    exact sm_mk (h1 := h) (fc_setDrift hE g s σ τ hσ ρ c9 n q x y hb hρ hc h12 h8 hq) (ct_setDrift hM gr h n (nI q) x y hs2 hv) I (by simp only [fc_setDrift_r, if_pos c', if_neg u0, if_pos w0]) (by simp only [fc_setDrift_w, if_pos c', if_neg u0, if_pos w0]) (by simp only [if_pos c', if_neg u0, if_pos w0])
  have w0 : ¬ wnI x (-3) (3) = 0 := by rw [wnI_0]; exact fun z => z u0
  by_cases u1 : -3 ≤ y ∧ y ≤ 3
  rotate_left
  · have w1 : wnI y (-3) (3) = 0 := by rw [wnI_0]; exact u1
    exact sm_mk (h1 := h) (fc_setDrift hE g s σ τ hσ ρ c9 n q x y hb hρ hc h12 h8 hq) (ct_setDrift hM gr h n (nI q) x y hs2 hv) I (by simp only [fc_setDrift_r, if_pos c', if_pos u0, if_neg w0, if_neg u1, if_pos w1]) (by simp only [fc_setDrift_w, if_pos c', if_pos u0, if_neg w0, if_neg u1, if_pos w1]) (by simp only [if_pos c', if_pos u0, if_neg w0, if_neg u1, if_pos w1])
  have w1 : ¬ wnI y (-3) (3) = 0 := by rw [wnI_0]; exact fun z => z u1
  have rl2 := rl_ug (k := 55 + 6 * q + 5) (x := y) (y := y) (rl_ug (k := 55 + 6 * q + 4) (x := x) (y := x) rl1 (by omega) (by omega) (by omega) rfl) (by omega) (by omega) (by omega) rfl
  exact sm_mk (h1 := h) (fc_setDrift hE g s σ τ hσ ρ c9 n q x y hb hρ hc h12 h8 hq) (ct_setDrift hM gr h n (nI q) x y hs2 hv) (si_upd I1 hσ (inv_pth (inv_pth hg hq (r := 4) (by omega) (fun z => absurd z (by omega)) (fun z => absurd z (by omega))) hq (r := 5) (by omega) (fun z => absurd z (by omega)) (fun z => absurd z (by omega))) (inv_pth (inv_pth hr1 hq (r := 4) (by omega) (fun z => absurd z (by omega)) (fun z => absurd z (by omega))) hq (r := 5) (by omega) (fun z => absurd z (by omega)) (fun z => absurd z (by omega))) rl2.le (kpG_of rl2.ka) (kpG_of rl2.kb)) (by simp only [fc_setDrift_r, if_pos c', if_pos u0, if_neg w0, if_pos u1, if_neg w1]) (by simp only [fc_setDrift_w, if_pos c', if_pos u0, if_neg w0, if_pos u1, if_neg w1]) (by simp only [if_pos c', if_pos u0, if_neg w0, if_pos u1, if_neg w1, hcl])
