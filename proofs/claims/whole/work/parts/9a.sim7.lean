/-! the best pair -/
theorem qs_lo {s : UInt32} : ∀ (f : Nat) (lo hi : Int32), -700 ≤ lo.toInt → lo.toInt < hi.toInt → hi.toInt ≤ 400 → -700 ≤ (qsI s f lo hi).toInt
  | 0, lo, hi, h1, _, _ => h1
  | f + 1, lo, hi, h1, h2, h3 => by
    unfold qsI
    by_cases c : hi - lo ≤ 1
    · rw [if_pos c]; exact h1
    · rw [if_neg c]
      have hc := qs_gap c h1 h2 h3
      have hm := qs_mid h1 h2 h3
      split
      · exact qs_lo f _ _ h1 (by rw [hm]; omega) (by rw [hm]; omega)
      · exact qs_lo f _ _ (by rw [hm]; omega) (by rw [hm]; omega) h3
theorem qua_hi {g : Nat → Nat → Int32} {fr n : Nat} {x y : Int32} (hn : ¬ n = 0) : ¬ quaG g fr x y n ≤ -100000 := by
  unfold quaG
  rw [if_neg hn, Int32.le_iff_toInt_le]
  have h := qs_lo (s := recG g fr x y n) 11 (-700) 400 (by decide) (by decide) (by decide)
  have e0 : (-100000 : Int32).toInt = -100000 := by decide
  omega
theorem bpI_in {g : Nat → Nat → Int32} {n i : Nat} (hi : i < 16) : ∀ (q j : Nat) (t : P2), j + q ≤ 16 → (∃ x : Nat, x < 256 ∧ t.1 = nI x) → ∃ x : Nat, x < 256 ∧ (bpI g n i q j t).1 = nI x
  | 0, _, _, _, h => h
  | q + 1, j, t, hj, h => by
    unfold bpI
    refine bpI_in hi q (j + 1) _ (by omega) ?_
    split
    · exact h
    · refine ⟨16 * i + j, by omega, ?_⟩
      show 16 * nI i + nI j = nI (16 * i + j)
      rw [show (16 : Int32) = nI 16 from rfl, pk_mul, nI_add]
theorem bpO_in {g : Nat → Nat → Int32} {n S1 : Nat} (h1 : S1 ≤ 16) : ∀ (r i : Nat) (t : P2), i + r ≤ 16 → (∃ x : Nat, x < 256 ∧ t.1 = nI x) → ∃ x : Nat, x < 256 ∧ (bpO g n S1 r i t).1 = nI x
  | 0, _, _, _, h => h
  | r + 1, i, t, hi, h => by
    unfold bpO
    exact bpO_in h1 r (i + 1) _ (by omega) (bpI_in (by omega) S1 0 t (by omega) h)
theorem bp_eq {g : Nat → Nat → Int32} {n S0 S1 : Nat} (h0 : 0 < S0) (h1 : 0 < S1) (hn : ¬ n = 0) : bpO g n S1 S0 0 (-100000, -100000) = bpO g n S1 S0 0 (0, quaG g 0 0 0 n) := by
  obtain ⟨r, rfl⟩ : ∃ r, S0 = r + 1 := ⟨S0 - 1, by omega⟩
  obtain ⟨q, rfl⟩ : ∃ q, S1 = q + 1 := ⟨S1 - 1, by omega⟩
  unfold bpO bpI
  have e1 : quaG g 0 (nI 0) (nI 0) n = quaG g 0 0 0 n := rfl
  have e2 : (16 : Int32) * nI 0 + nI 0 = 0 := by decide
  simp only [e1, e2, if_neg (qua_hi (g := g) (fr := 0) (x := 0) (y := 0) hn), Int32.le_refl, if_true]
theorem bpI_n0 {g : Nat → Nat → Int32} {i : Nat} : ∀ (q j : Nat), bpI g 0 i q j (-100000, -100000) = (-100000, -100000)
  | 0, _ => rfl
  | q + 1, j => by
    unfold bpI
    have e : quaG g 0 (nI i) (nI j) 0 = -100000 := rfl
    simp only [e, Int32.le_refl, if_true]
    exact bpI_n0 q (j + 1)
theorem bpO_n0 {g : Nat → Nat → Int32} {S1 : Nat} : ∀ (r i : Nat), bpO g 0 S1 r i (-100000, -100000) = (-100000, -100000)
  | 0, _ => rfl
  | r + 1, i => by
    unfold bpO
    rw [bpI_n0]
    exact bpO_n0 r (i + 1)
theorem bpI_rl {n i : Nat} {a0 b0 a b : Nat → Nat → Int32} (h : rlG n a0 b0 a b) : ∀ (q j : Nat) (t : P2), bpI b n i q j t = bpI a n i q j t
  | 0, _, _ => rfl
  | q + 1, j, t => by
    unfold bpI
    rw [rl_qua h (by omega)]
    exact bpI_rl h q (j + 1) _
theorem bpO_rl {n S1 : Nat} {a0 b0 a b : Nat → Nat → Int32} (h : rlG n a0 b0 a b) : ∀ (r i : Nat) (t : P2), bpO b n S1 r i t = bpO a n S1 r i t
  | 0, _, _ => rfl
  | r + 1, i, t => by
    unfold bpO
    rw [bpI_rl h]
    exact bpO_rl h r (i + 1) _
theorem bp_ref {n S0 S1 : Nat} {a0 b0 a b : Nat → Nat → Int32} (h : rlG n a0 b0 a b) (h0 : 0 < S0) (h1 : 0 < S1) : (if n = 0 then -100000 else (bpO b n S1 S0 0 (0, quaG b 0 0 0 n)).1) = (bpO a n S1 S0 0 (-100000, -100000)).1 := by
  by_cases hn : n = 0
  · subst hn
    rw [if_pos rfl, bpO_n0]
  · rw [if_neg hn, bpO_rl h, rl_qua h (by omega), bp_eq h0 h1 hn]
theorem n_12 {g : Nat → Nat → Int32} {n : Nat} (h : g 1 12 = nI n) (hn : n ≤ 8) : (g 1 12 = 0) = (n = 0) := by
  apply propext
  rw [h]
  exact nI_eq (a := n) (b := 0) (by omega) (by omega)
theorem sm_bestPair {l : Launch} {D : va_G} {cA : FieldType → ClassId} {z0 : Nat} {SK SV : Nat → Nat} : smI l D cA z0 SK SV yX8_bestPair cX8_bestPair 1 5 yX9_bestPair cX9_bestPair 6 6 [] := by
  intro ad am hE hM hK g s σ τ ρ c9 gr h I
  obtain ⟨n, S, hg, hr, le⟩ := I.2.1
  have hσ := I.pm
  have hb := I.bo
  have hρ := I.rho
  have hc := I.c6
  have hv := I.sv
  have rl := inv_rl hg le
  have hs := inv_st hg
  have hs2 := inv_st hr
  obtain ⟨k1, k2, k3, k4, k5, k6⟩ := inv_sec hg
  obtain ⟨j1, j2, -⟩ := inv_sec hr
  exact sm_mk (h1 := h) (fc_bestPair hE g s σ τ hσ ρ c9 n (S 0) (S 1) hs k1 k2 k4 k6) (ct_bestPair hM gr h n (S 0) (S 1) hs2 j1 j2 k4 k6) I (bp_ref rl (by omega) (by omega)) rfl rfl
theorem sm_shortfall {l : Launch} {D : va_G} {cA : FieldType → ClassId} {z0 : Nat} {SK SV : Nat → Nat} : smI l D cA z0 SK SV yX8_shortfall cX8_shortfall 4 5 yX9_shortfall cX9_shortfall 2 7 [] := by
  intro ad am hE hM hK g s σ τ ρ c9 gr h I
  obtain ⟨n, S, hg, hr, le⟩ := I.2.1
  have hσ := I.pm
  have hb := I.bo
  have hρ := I.rho
  have hc := I.c6
  have hv := I.sv
  have rl := inv_rl hg le
  have hs := inv_st hg
  have hs2 := inv_st hr
  obtain ⟨k1, k2, k3, k4, k5, k6⟩ := inv_sec hg
  obtain ⟨j1, j2, -⟩ := inv_sec hr
  refine sm_mk (h1 := h) (fc_shortfall hE g s σ τ hσ ρ c9 n (S 0) (S 1) hs k1 k2 k4 k6) (ct_shortfall hM gr h n (S 0) (S 1) hs2 j1 j2 k4 k6) I ?_ rfl rfl
  unfold ct_shortfall_r fc_shortfall_r
  rw [bp_ref rl (by omega) (by omega), rl.sc (k := 18) (by omega), rl.sc (k := 38) (by omega), rl_qua rl (by omega), rl_qua rl (by omega)]
  have e1 := n_12 (g := gr) hs2.1 hs2.2.1
  by_cases c : n = 0
  · have c1 : gr 1 12 = 0 := by rw [e1]; exact c
    rw [if_pos c1]
    subst c
    rw [bpO_n0, if_pos rfl]
  · have c1 : ¬ gr 1 12 = 0 := by rw [e1]; exact c
    rw [if_neg c1]
    have c2 : ¬ (bpO g n (S 1) (S 0) 0 (-100000, -100000)).1 = -100000 := by
      rw [bp_eq (by omega) (by omega) c]
      obtain ⟨x, hx, e⟩ := bpO_in (g := g) (n := n) (S1 := S 1) k6 (S 0) 0 (0, quaG g 0 0 0 n) (by omega) ⟨0, by omega, rfl⟩
      rw [e]
      intro z
      have h9 := congrArg Int32.toInt z
      rw [nI_toInt (by omega)] at h9
      have e0 : (-100000 : Int32).toInt = -100000 := by decide
      omega
    rw [if_neg c2]
/-! the digest -/
theorem fold_cg {f f' : Nat → Int32} {h : Int64} : ∀ n, (∀ k, k < n → f' k = f k) → foldX f' n h = foldX f n h
  | 0, _ => rfl
  | n + 1, H => by
    rw [foldX_s, foldX_s, fold_cg n (fun k hk => H k (by omega)), H n (by omega)]
theorem fold_ad {f : Nat → Int32} {a : Nat} {h : Int64} : ∀ b, foldX f (a + b) h = foldX (fun k => f (a + k)) b (foldX f a h)
  | 0 => rfl
  | b + 1 => by
    rw [show a + (b + 1) = (a + b) + 1 by omega, foldX_s, foldX_s, fold_ad b]
theorem phX_f {g : Nat → Nat → Int32} {h : Int64} : ∀ n, phX g n h = foldX (fun k => g 1 (55 + k)) (6 * n) h
  | 0 => rfl
  | n + 1 => by
    rw [show 6 * (n + 1) = 6 * n + 6 by omega, fold_ad, ← phX_f n]
    exact fold_cg 6 (fun k _ => by rw [show 55 + 6 * n + k = 55 + (6 * n + k) by omega])
theorem bkX_f {g : Nat → Nat → Int32} {h : Int64} : ∀ n, bkX g n h = foldX (fun k => g 1 (103 + k)) (3 * n) h
  | 0 => rfl
  | n + 1 => by
    rw [show 3 * (n + 1) = 3 * n + 1 + 1 + 1 by omega, foldX_s, foldX_s, foldX_s, ← bkX_f n]
    rfl
theorem evX_f {g : Nat → Nat → Int32} {h : Int64} : ∀ n, evX g n h = foldX (fun k => g 1 (112 + k)) (3 * n) h
  | 0 => rfl
  | n + 1 => by
    rw [show 3 * (n + 1) = 3 * n + 1 + 1 + 1 by omega, foldX_s, foldX_s, foldX_s, ← evX_f n]
    rfl
theorem hs_eq {g : Nat → Nat → Int32} {n bk E S0 S1 : Nat} (h0 : b01 (g 1 0)) (h8 : b01 (g 1 8)) (h11 : b01 (g 1 11)) : hsX n bk E S0 S1 g = hsR n bk E S0 S1 g := by
  unfold hsX hsR
  rw [btI_b h0, btI_b h8, btI_b h11, evX_f, bkX_f, phX_f, fold_ad, fold_ad]
  have e1 : ∀ h, foldX (fun k => g 1 (35 + (4 + k))) S0 h = foldX (fun k => g 1 (39 + k)) S0 h := fun h => fold_cg S0 (fun k _ => by rw [show 35 + (4 + k) = 39 + k by omega])
  have e2 : ∀ h, foldX (fun k => g 1 (15 + (4 + k))) S1 h = foldX (fun k => g 1 (19 + k)) S1 h := fun h => fold_cg S1 (fun k _ => by rw [show 15 + (4 + k) = 19 + k by omega])
  rw [e1, e2]
theorem hs_rl {n bk E S0 S1 : Nat} {a0 b0 a b : Nat → Nat → Int32} (h : rlG n a0 b0 a b) (hB : a 1 13 = nI bk) (hB3 : bk ≤ 3) (hE : a 1 14 = nI E) (hE2 : E ≤ 20) (h0 : S0 ≤ 16) (h1 : S1 ≤ 16) : hsR n bk E S0 S1 b = hsR n bk E S0 S1 a := by
  unfold hsR
  rw [h.sc (k := 0) (by omega), h.sc (k := 1) (by omega), h.sc (k := 2) (by omega), h.sc (k := 3) (by omega), h.sc (k := 4) (by omega), h.sc (k := 5) (by omega), h.sc (k := 6) (by omega), h.sc (k := 7) (by omega), h.sc (k := 8) (by omega), h.sc (k := 9) (by omega), h.sc (k := 10) (by omega), h.sc (k := 11) (by omega)]
  rw [fold_cg (f := fun k => a 1 (15 + k)) (4 + S1) (fun k hk => h.sc (by omega)), fold_cg (f := fun k => a 1 (35 + k)) (4 + S0) (fun k hk => h.sc (by omega)), fold_cg (f := fun k => a 1 (55 + k)) (6 * n) (fun k hk => h.at_ (by omega)), fold_cg (f := fun k => a 1 (103 + k)) (3 * bk) (fun k hk => h.le.2.1 _ (by omega) (by rw [hB, nI_clamp (by omega)]; omega)), fold_cg (f := fun k => a 1 (112 + k)) (3 * E) (fun k hk => h.le.2.2 _ (by omega) (by rw [hE, nI_clamp (by omega)]; omega))]
/-- a call of both that answers a long number -/
def smL (l : Launch) (D : va_G) (cA : FieldType → ClassId) (z0 : Nat) (SK SV : Nat → Nat) (y : MethodName) (by1 : ByteArray) (mL d : Nat) (y2 : MethodName) (by2 : ByteArray) (mL2 d2 : Nat) (As : List Value) : Prop :=
  ∀ (ad am : Nat → Nat), aD (fun q => z0 ≤ q) ad 182 → aD (fun q => z0 ≤ q) am 9 → adK ad SK SV → ∀ (g s : Nat → Nat → Int32) (σ τ : Nat → Nat → Nat) (ρ : Nat → Nat) (c9 : Nat) (gr : Nat → Nat → Int32) (h : Int64), SI g s σ τ ρ c9 gr →
    ∃ (v : Int64) (g1 s1 : Nat → Nat → Int32) (σ1 τ1 : Nat → Nat → Nat) (ρ1 : Nat → Nat) (c1 : Nat) (gr1 : Nat → Nat → Int32) (h1 : Int64), SI g1 s1 σ1 τ1 ρ1 c1 gr1 ∧
      bF l D cA z0 SK SV ad shF 182 y by1 mL (some .long) d (.ref 0 :: As) (layF g s σ τ ρ c9) (some (.long v)) (layF g1 s1 σ1 τ1 ρ1 c1) ∧
      bF l D cA z0 SK SV am shM 9 y2 by2 mL2 (some .long) d2 (.ref 0 :: As) (layM gr h) (some (.long v)) (layM gr1 h1)
theorem sm_digest {l : Launch} {D : va_G} {cA : FieldType → ClassId} {z0 : Nat} {SK SV : Nat → Nat} : smL l D cA z0 SK SV yX8_digest cX8_digest 1 3 yX9_digest cX9_digest 2 2 [] := by
  intro ad am hE hM hK g s σ τ ρ c9 gr h I
  obtain ⟨n, S, hg, hr, le⟩ := I.2.1
  have hσ := I.pm
  have hb := I.bo
  have hρ := I.rho
  have hc := I.c6
  have hv := I.sv
  have rl := inv_rl hg le
  have hs := inv_st hg
  have hs2 := inv_st hr
  obtain ⟨k1, k2, k3, k4, k5, k6⟩ := inv_sec hg
  obtain ⟨j1, j2, -⟩ := inv_sec hr
  obtain ⟨B, hB, hB3⟩ := inv_bk hg
  obtain ⟨E, hEv, hE2⟩ := inv_ev hg
  have e : hsR n B E (S 0) (S 1) gr = hsX n B E (S 0) (S 1) g := by
    rw [hs_eq hg.2.2.2.2.1 hg.2.2.2.2.2.1 hg.2.2.2.2.2.2.1]
    exact hs_rl rl hB hB3 hEv hE2 k4 k6
  refine ⟨hsX n B E (S 0) (S 1) g, g, s, σ, τ, ρ, c9, gr, hsR n B E (S 0) (S 1) gr, I, fc_digest hE g s σ τ hσ ρ c9 n B E (S 0) (S 1) hs.1 hs.2.1 hB hB3 hEv hE2 k1 k4 k2 k6, ?_⟩
  have k9 := ct_digest (l := l) (D := D) (cA := cA) (SK := SK) (SV := SV) hM gr h n B E (S 0) (S 1) hs2.1 hs2.2.1 ((rl.sc (k := 13) (by omega)).trans hB) hB3 ((rl.sc (k := 14) (by omega)).trans hEv) hE2 j1 k4 j2 k6
  rw [← e]
  exact k9
