/-! refine -/
theorem ct_refinex {l : Launch} {D : va_G} {cA : FieldType → ClassId} {z0 : Nat} {SK SV : Nat → Nat} {ad : Nat → Nat} (hE : aD (fun q => z0 ≤ q) ad 9) (g : Nat → Nat → Int32) (h : Int64) (a : Int32) (c1 : ¬ (0 ≤ a ∧ a ≤ 1)) : bF l D cA z0 SK SV ad shM 9 yX9_refine cX9_refine 6 (some .int) 9 [.ref 0, .int a] (layM g h) (some (.int (-100001))) (layM g h) := by
  refine bCT_intro (tb := tb_X9_refine) (own := RX9) hE pn_X9 rfl tk_X9_refine rfl (Nat.le_of_ble_eq_true rfl) ?_
  intro p e s0 m args below meth c C hr
  refine bv_blk C frk_X9 csk_X9 1 1 rfl (L1 := ([(0, .ref 0), (1, .int a)] : Lc)) (st1 := ([.int a] : List Value)) (w1 := (layM g h)) (by rfl) ?_
  refine bv_fS1 C rfl (ct_isStation_f hE _ a c1) ml_X9_130 st_X9_isStation ini_X9 cd_X9_isStation ok_X9_isStation rfl ⟨Nat.le_of_ble_eq_true rfl, Nat.le_of_ble_eq_true rfl⟩ ⟨Nat.zero_le _, Nat.zero_le _⟩ (rest := ([] : List Value)) rfl (Nat.le_of_ble_eq_true rfl) ?_
  refine bv_if_ne (j := 5) C rfl rfl (fun h => absurd h (by decide)) (fun _ => ?_)
  refine bv_blk C frk_X9 csk_X9 1 4 rfl (L1 := ([(0, .ref 0), (1, .int a)] : Lc)) (st1 := ([.int (-100001)] : List Value)) (w1 := (layM g h)) (by rfl) ?_
  exact bv_iret C rfl hr rfl ⟨rfl, rfl⟩
theorem inv_rfS {n f : Nat} {x : Int32} {t : T3} {S : Nat → Nat} (h : invK t.1 n S) : invK (rfS f n x t).1 n S := by
  have e : (rfS f n x t).1 = sntG t.1 f (b0W f x (t.1 1 (38 - 20 * f))) (b1W f x (t.1 1 (38 - 20 * f))) 4 n := by
    unfold rfS
    split <;> rfl
  rw [e]
  exact inv_snt h
theorem inv_rfI {n f : Nat} {x : Int32} {S : Nat → Nat} : ∀ (q k : Nat) {t : T3}, invK t.1 n S → invK (rfI f n x q k t).1 n S
  | 0, _, _, h => h
  | q + 1, k, t, h => by
    unfold rfI
    exact inv_rfI q (k + 1) (inv_rfS h)
theorem inv_rfO {n f : Nat} {x : Int32} {S : Nat → Nat} : ∀ (q k : Nat) {t : T3}, invK t.1 n S → invK (rfO f n x q k t).1 n S
  | 0, _, _, h => h
  | q + 1, k, t, h => by
    unfold rfO
    exact inv_rfO q (k + 1) (inv_rfI 5 0 h)
theorem inv_rfT {n f : Nat} {S : Nat → Nat} {g : Nat → Nat → Int32} (h : invK g n S) : invK (rfT f n g).1 n S := by
  have hB : invK (rfB f n g).1 n S := inv_snt h
  unfold rfT
  split
  · exact inv_rfO 2 0 hB
  · exact inv_rfO 3 0 hB
theorem inv_rfE {n f : Nat} {S : Nat → Nat} {g : Nat → Nat → Int32} (hf : f < 2) (h : invK g n S) (hu : g 1 0 = 1) : invK (rfE f n (rfT f n g)) n S := by
  have hT := inv_rfT (f := f) h
  have rl : rlG n g g g g := rlG_of (inv_n8 h) ⟨fun _ _ => rfl, fun _ _ _ => rfl, fun _ _ _ => rfl⟩ (inv_ev h) (inv_bk h)
  obtain ⟨-, r2, -⟩ := rfT_rl hf h hu rl
  unfold rfE
  rcases r2 with ⟨c1, -⟩ | ⟨c1, -, -, c4⟩
  · rw [if_pos c1]; exact hT
  · have c5 : ¬ (rfT f n g).2.2 = -100000 := fun z => by rw [z] at c1; exact absurd c1 Int32.lt_irrefl
    rw [if_neg c5]
    split
    · exact inv_snt hT
    · exact inv_bm hf (inv_snt hT) c4
theorem sm_refine {l : Launch} {D : va_G} {cA : FieldType → ClassId} {z0 : Nat} {SK SV : Nat → Nat} (a : Int32) : smI l D cA z0 SK SV yX8_refine cX8_refine 2 5 yX9_refine cX9_refine 6 9 [.int a] := by
  intro ad am hE hM hK g s σ τ ρ c9 gr h I
  obtain ⟨n, S, hg, hr, le⟩ := I.2.1
  have hσ := I.pm
  have hb := I.bo
  have hρ := I.rho
  have hc := I.c6
  have hv := I.sv
  have rl := inv_rl hg le
  have hs := inv_st hg
  have hs2 := inv_st hr
  obtain ⟨k1, k2, k3, k4, k5, k6⟩ := inv_sec hg
  obtain ⟨j1, j2, -⟩ := inv_sec hr
  have I1 := si_save I
  have hr1 := inv_sv hr
  have le1 := le_sv hg le
  have rl1 := inv_rl hg le1
  by_cases ha : 0 ≤ a ∧ a ≤ 1
  rotate_left
  · exact sm_mk (h1 := h) (fc_refinex hE g s σ τ hσ ρ c9 a (by rw [isI_0]; exact ha)) (ct_refinex hM gr h a ha) I rfl rfl rfl
  have e0 : gr 1 0 = g 1 0 := rl.sc (by omega)
  rcases st2 ha with rfl | rfl
  · by_cases c : g 1 0 = 0
    · have c' : gr 1 0 = 0 := e0.trans c
      exact sm_mk (h1 := h) (fc_refine0 hE g s σ τ hσ ρ c9 n hb hρ hc hs) (ct_refine0 hM gr h n hs2 hv) I (by simp only [fc_refine0_r, if_pos c, if_pos c']) (by simp only [fc_refine0_w, if_pos c]) (by simp only [if_pos c'])
    · have c' : ¬ gr 1 0 = 0 := by rw [e0]; exact c
      have hu : g 1 0 = 1 := by
        rcases hg.2.2.2.2.1 with z | z
        · exact absurd z c
        · exact z
      have rl2 := rfE_rl (f := 0) (by omega) hg hu rl1
      have hg2 := inv_rfE (f := 0) (by omega) hg hu
      exact sm_mk (h1 := h) (fc_refine0 hE g s σ τ hσ ρ c9 n hb hρ hc hs) (ct_refine0 hM gr h n hs2 hv) (si_upd I1 hσ hg2 (inv_tr hg2 rl2.le) rl2.le (kpG_of rl2.ka) (kpG_of rl2.kb)) (by simp only [fc_refine0_r, if_neg c, if_neg c']; exact rl2.sc (by omega)) (by simp only [fc_refine0_w, if_neg c]) (by simp only [if_neg c'])
  · by_cases c : g 1 0 = 0
    · have c' : gr 1 0 = 0 := e0.trans c
      exact sm_mk (h1 := h) (fc_refine1 hE g s σ τ hσ ρ c9 n hb hρ hc hs) (ct_refine1 hM gr h n hs2 hv) I (by simp only [fc_refine1_r, if_pos c, if_pos c']) (by simp only [fc_refine1_w, if_pos c]) (by simp only [if_pos c'])
    · have c' : ¬ gr 1 0 = 0 := by rw [e0]; exact c
      have hu : g 1 0 = 1 := by
        rcases hg.2.2.2.2.1 with z | z
        · exact absurd z c
        · exact z
      have rl2 := rfE_rl (f := 1) (by omega) hg hu rl1
      have hg2 := inv_rfE (f := 1) (by omega) hg hu
      exact sm_mk (h1 := h) (fc_refine1 hE g s σ τ hσ ρ c9 n hb hρ hc hs) (ct_refine1 hM gr h n hs2 hv) (si_upd I1 hσ hg2 (inv_tr hg2 rl2.le) rl2.le (kpG_of rl2.ka) (kpG_of rl2.kb)) (by simp only [fc_refine1_r, if_neg c, if_neg c']; exact rl2.sc (by omega)) (by simp only [fc_refine1_w, if_neg c]) (by simp only [if_neg c'])
