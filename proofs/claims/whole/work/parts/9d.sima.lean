theorem inv_bkG {g : Nat → Nat → Int32} {n b i j : Nat} {S : Nat → Nat} {z : Int32} (h : invK g n S) (hb : b < 3) (hB : g 1 13 = nI b) (hi : i < S 0) (hj : j < S 1) : invK (bkG b (nI i) (nI j) z g) n S := by
  obtain ⟨h1, h2, h3, h4, h5, h6, h7, h8, h9, h10⟩ := h
  have e : ∀ k, k ≠ 13 → (k < 103 ∨ 112 ≤ k) → bkG b (nI i) (nI j) z g 1 k = g 1 k := fun k a c => bkG_at a (by omega)
  have e13 : bkG b (nI i) (nI j) z g 1 13 = nI (b + 1) := ug_same
  refine ⟨⟨st_same (fun k hk => e k (by unfold stK at hk; omega) (by unfold stK at hk; omega)) h1.1, ⟨(e 15 (by omega) (by omega)).trans h1.2.1.1, (e 35 (by omega) (by omega)).trans h1.2.1.2.1, h1.2.1.2.2⟩, evK_at h1.2.2.1 (e 14 (by omega) (by omega)), ⟨b + 1, e13, by omega⟩⟩, thr_at h2 (e 6 (by omega) (by omega)), fun fr hf k a1 a2 => ?_, ?_, ?_, ?_, ?_, ?_, ?_, fun B hB2 b9 hb9 hB3 => ?_⟩
  · rw [e _ (by omega) (by omega)]; exact h3 fr hf k a1 a2
  · rw [e _ (by omega) (by omega)]; exact h4
  · rw [e _ (by omega) (by omega)]; exact h5
  · rw [e _ (by omega) (by omega)]; exact h6
  · rw [e _ (by omega) (by omega)]; exact h7
  · unfold bmN at h8 ⊢
    rw [e _ (by omega) (by omega), e _ (by omega) (by omega)]; exact h8
  · unfold bmU at h9 ⊢
    rw [e _ (by omega) (by omega), e _ (by omega) (by omega), e _ (by omega) (by omega)]; exact h9
  · rw [e13] at hB2
    have e9 := nIij (by omega) (by omega) hB2
    by_cases c : b9 = b
    · subst c
      exact ⟨⟨i, hi, bkG_0⟩, ⟨j, hj, bkG_1⟩⟩
    · rw [bkG_at (by omega) (by omega), bkG_at (by omega) (by omega)]
      exact h10 b hB b9 (by omega) (by omega)
def abN (sep : Int32) (S0 S1 : Nat) : Nat → (Nat → Nat → Int32) → Nat → Nat → Int32
  | 0, g => g
  | r + 1, g => abN sep S0 S1 r (abV g sep S0 S1)
theorem abN_id {sep : Int32} {S0 S1 : Nat} {g : Nat → Nat → Int32} (h : abV g sep S0 S1 = g) : ∀ r, abN sep S0 S1 r g = g
  | 0 => rfl
  | r + 1 => by
    unfold abN
    rw [h]
    exact abN_id h r
theorem FB_bk {g : Nat → Nat → Int32} {sep x y z : Int32} {b i j : Nat} (h : FB (bkG b x y z g) sep (b + 1) i j) : FB g sep b i j ∧ frA g (nI i) (nI j) sep x y = true := by
  have e : ∀ u v, frA (bkG b x y z g) (nI i) (nI j) sep u v = frA g (nI i) (nI j) sep u v := fun u v => by
    unfold frA
    rw [bkG_at (by omega) (by omega), bkG_at (by omega) (by omega), bkG_at (by omega) (by omega), bkG_at (by omega) (by omega)]
  obtain ⟨h1, h2⟩ := h
  rw [e, bkG_at (by omega) (by omega), bkG_at (by omega) (by omega)] at h1
  refine ⟨⟨h1, fun q hq => ?_⟩, ?_⟩
  · have h3 := h2 q (by omega)
    rw [e, bkG_at (by omega) (by omega), bkG_at (by omega) (by omega)] at h3
    exact h3
  · have h3 := h2 b (by omega)
    rw [e, bkG_0, bkG_1] at h3
    exact h3
theorem gdF_eq {n b k : Nat} {a0 b0 A B : Nat → Nat → Int32} {sep : Int32} (h : rlG n a0 b0 A B) (hk : k < 256) (hB : A 1 13 = nI b) (hb : b ≤ 3) : (gdF sep k b B = true) = FB A sep b (k / 16) (k % 16) := by
  unfold gdF FB
  rw [(k16 k hk).2, (k16 k hk).1, frF_all]
  have e : ∀ u v, frA B (nI (k / 16)) (nI (k % 16)) sep u v = frA A (nI (k / 16)) (nI (k % 16)) sep u v := fun u v => by
    unfold frA
    rw [h.sc (k := 15) (by omega), h.sc (k := 16) (by omega), h.sc (k := 35) (by omega), h.sc (k := 36) (by omega)]
  rw [e, h.sc (k := 18) (by omega), h.sc (k := 38) (by omega)]
  apply propext
  constructor
  · rintro ⟨z1, z2⟩
    refine ⟨z1, fun x hx => ?_⟩
    have z3 := z2 x (by omega) (by omega)
    rw [e, rl_bk h hB hb hx (r := 1) (by omega), show B 1 (103 + 3 * x) = A 1 (103 + 3 * x) from rl_bk h hB hb hx (r := 0) (by omega)] at z3
    exact z3
  · rintro ⟨z1, z2⟩
    refine ⟨z1, fun x _ hx => ?_⟩
    have hx2 : x < b := by omega
    rw [e, rl_bk h hB hb hx2 (r := 1) (by omega), show B 1 (103 + 3 * x) = A 1 (103 + 3 * x) from rl_bk h hB hb hx2 (r := 0) (by omega)]
    exact z2 x hx2
set_option maxRecDepth 100000 in
theorem gd_main {n : Nat} {a0 b0 : Nat → Nat → Int32} {sep : Int32} {S : Nat → Nat} (hs1 : 1 ≤ sep) : ∀ (f r b : Nat) {A B : Nat → Nat → Int32} (R : Nat → Prop), b + r = 3 → cnt9 (B 4) 256 < f → rlG n a0 b0 A B → invK A n S → A 1 13 = nI b →
    (∀ k, k < 256 → k / 16 < S 0 → k % 16 < S 1 → ¬ R k → B 4 k = A 4 k ∧ (A 4 k = -100000 ∨ -100000 < A 4 k)) → (∀ k, k < 256 → ¬ (k / 16 < S 0 ∧ k % 16 < S 1 ∧ ¬ R k) → B 4 k = -100000) → (∀ k, k < 256 → R k → ¬ FB A sep b (k / 16) (k % 16)) →
    rlG n a0 b0 (abN sep (S 0) (S 1) r A) (gdL sep f B) ∧ invK (abN sep (S 0) (S 1) r A) n S := by
  intro f
  induction f with
  | zero => intro r b A B R _ hc; exact absurd hc (Nat.not_lt_zero _)
  | succ f ih =>
    intro r b A B R hbr hc rl hi hB t1 t2 t3
    obtain ⟨k1, k2, k3, k4, k5, k6⟩ := inv_sec hi
    have p0 := st_p0 (inv_st hi)
    have p1 := st_p1 (inv_st hi)
    have hBr : B 1 13 = nI b := (rl.sc (by omega)).trans hB
    have hcl : (A 1 13).toNatClampNeg = b := by rw [hB]; exact nI_clamp (by omega)
    have bm := blF_mx (t := B 4) 256 0 none (fun b h => by cases h) (fun _ x hx => by omega)
    -- the places that the class may choose
    have pl : ∀ y x, y < S 0 → x < S 1 → FB A sep b y x → B 4 (16 * y + x) = A 4 (16 * y + x) ∧ (A 4 (16 * y + x) = -100000 ∨ -100000 < A 4 (16 * y + x)) := fun y x hy hx hf => by
      have q1 : (16 * y + x) / 16 = y := by omega
      have q2 : (16 * y + x) % 16 = x := by omega
      refine t1 (16 * y + x) (by omega) (by rw [q1]; exact hy) (by rw [q2]; exact hx) (fun z => ?_)
      have z2 := t3 (16 * y + x) (by omega) z
      rw [q1, q2] at z2
      exact z2 hf
    cases hbl : blF (B 4) 256 0 none with
    | none =>
      rw [gd_n hbl]
      have hall := bm.2 hbl
      have hT : abT A sep b (S 0) (S 1) = (-100000, -100000, -100000) := by
        unfold abT
        refine abO_hi p0 p1 (S 0) 0 _ (fun y x _ h3 hx hf => ?_)
        have z := (pl y x (by omega) hx hf).1
        rw [hall _ (by omega)] at z
        rw [← z]
        exact Int32.le_refl _
      have hid : abV A sep (S 0) (S 1) = A := by
        unfold abV abW
        rw [hcl, hT, if_pos rfl]
      rw [abN_id hid]
      exact ⟨rl, hi⟩
    | some k =>
      obtain ⟨hk, hk2, hk3⟩ := bm.1 k hbl
      have hk9 : k < 256 := by omega
      have hreg : k / 16 < S 0 ∧ k % 16 < S 1 ∧ ¬ R k := by
        refine Classical.byContradiction fun z => hk2 (t2 k hk9 z)
      obtain ⟨r1, r2, r3⟩ := hreg
      have hv := t1 k hk9 r1 r2 r3
      have hk4 : 16 * (k / 16) + k % 16 = k := by omega
      have hgt : -100000 < A 4 k := hv.2.resolve_left (fun z => hk2 (hv.1.trans z))
      by_cases c3 : b = 3
      · rw [gd_f hbl hBr c3]
        have : r = 0 := by omega
        subst this
        exact ⟨rl, hi⟩
      have hb3 : b < 3 := by omega
      rw [gd_s hbl hBr hb3]
      have hgd := gdF_eq (sep := sep) rl hk9 hB (by omega)
      by_cases hf : FB A sep b (k / 16) (k % 16)
      · rw [if_pos (by rw [hgd]; exact hf)]
        obtain ⟨r', rfl⟩ : ∃ r', r = r' + 1 := ⟨r - 1, by omega⟩
        have hmax : ∀ y x, y < S 0 → x < S 1 → FB A sep b y x → A 4 (16 * y + x) ≤ A 4 k ∧ (16 * y + x < k → A 4 (16 * y + x) < A 4 k) := fun y x hy hx hfx => by
          obtain ⟨q1, q2⟩ := pl y x hy hx hfx
          rcases q2 with q2 | q2
          · rw [q2]; exact ⟨Int32.le_of_lt hgt, fun _ => hgt⟩
          · have q3 := hk3 (16 * y + x) (by omega) (by rw [q1]; exact fun z => by rw [z] at q2; exact absurd q2 Int32.lt_irrefl)
            rw [q1, hv.1] at q3
            exact q3
        have hT : abT A sep b (S 0) (S 1) = (nI (k / 16), nI (k % 16), A 4 k) := by
          unfold abT
          have z := abO_at (g := A) (sep := sep) (b := b) (S1 := S 1) (i9 := k / 16) (x9 := k % 16) p0 p1 hf r2 (S 0) 0 (-100000, -100000, -100000) (by omega) (by omega) (by rw [hk4]; exact hgt) (fun y x _ h3 hx hfx => by rw [hk4]; exact (hmax y x (by omega) hx hfx).2 (by omega)) (fun y x h2 _ hx hfx => by rw [hk4]; exact (hmax y x (by omega) hx hfx).1)
          rw [hk4] at z
          exact z
        have hV : abV A sep (S 0) (S 1) = bkG b (nI (k / 16)) (nI (k % 16)) (A 4 k) A := by
          unfold abV abW
          rw [hcl, hT, if_neg (show ¬ A 4 k = -100000 from fun z => by rw [z] at hgt; exact absurd hgt Int32.lt_irrefl), bkG_c hB]
        have hD : gdA k b B = bkG b (nI (k / 16)) (nI (k % 16)) (A 4 k) B := by
          unfold gdA bkG
          rw [(k16 k hk9).2, (k16 k hk9).1, hv.1]
        unfold abN
        rw [hV, hD]
        refine ih r' (b + 1) (fun x => R x ∨ x = k) (by omega) ?_ (rl_r4 (rl_bkG hb3 hB rl)) (inv_bkG hi hb3 hB r1 r2) ug_same ?_ ?_ ?_
        · have z := cnt9_dn (t := B 4) (u := ug (bkG b (nI (k / 16)) (nI (k % 16)) (A 4 k) B) 4 k (-100000) 4) hk2 ug_same (fun q hq => (ug_ne (by omega)).trans bkG_4) 256 hk9
          omega
        · intro q hq z1 z2 z3
          rw [ug_ne (fun z => z3 (Or.inr z.2)), bkG_4, bkG_4]
          exact t1 q hq z1 z2 (fun z => z3 (Or.inl z))
        · intro q hq z
          by_cases cq : q = k
          · rw [cq, ug_same]
          · rw [ug_ne (by omega), bkG_4]
            exact t2 q hq (fun z2 => z ⟨z2.1, z2.2.1, fun z3 => z3.elim z2.2.2 cq⟩)
        · intro q hq z hfq
          have z2 := FB_bk hfq
          rcases z with z | z
          · exact t3 q hq z z2.1
          · rw [z] at z2
            have z3 := z2.2
            unfold frA at z3
            rw [apI_self hs1 (bm_ne (S := 16) ⟨k / 16, by omega, rfl⟩ (by omega))] at z3
            rw [Bool.false_and] at z3
            cases z3
      · rw [if_neg (by rw [hgd]; exact hf)]
        refine ih r b (fun x => R x ∨ x = k) hbr ?_ (rl_r4 rl) hi hB ?_ ?_ ?_
        · have z := cnt9_dn (t := B 4) (u := ug B 4 k (-100000) 4) hk2 ug_same (fun q hq => ug_ne (by omega)) 256 hk9
          omega
        · intro q hq z1 z2 z3
          rw [ug_ne (fun z => z3 (Or.inr z.2))]
          exact t1 q hq z1 z2 (fun z => z3 (Or.inl z))
        · intro q hq z
          by_cases cq : q = k
          · rw [cq, ug_same]
          · rw [ug_ne (by omega)]
            exact t2 q hq (fun z2 => z ⟨z2.1, z2.2.1, fun z3 => z3.elim z2.2.2 cq⟩)
        · intro q hq z
          rcases z with z | z
          · exact t3 q hq z
          · rw [z]; exact hf
theorem inv_fbO {n S1 : Nat} {S : Nat → Nat} : ∀ (r i : Nat) {g : Nat → Nat → Int32}, invK g n S → invK (fbO n S1 r i g) n S := by
  have st : ∀ {g : Nat → Nat → Int32} {i j : Nat}, invK g n S → invK (fbS n g i j) n S := fun {g i j} h => inv_le (inv_snt (fr := 0) (b0 := nI i) (b1 := nI j) (t := 4) (m := n) h) (fun k _ => ug_ne (by omega))
  have rowI : ∀ (q j i : Nat) {g : Nat → Nat → Int32}, invK g n S → invK (fbI n i q j g) n S := by
    intro q
    induction q with
    | zero => exact fun _ _ _ h => h
    | succ q ih =>
      intro j i g h
      unfold fbI
      exact ih (j + 1) i (st h)
  intro r
  induction r with
  | zero => exact fun _ _ h => h
  | succ r ih =>
    intro i g h
    unfold fbO
    exact ih (i + 1) (rowI S1 0 i h)
theorem inv_b0 {g : Nat → Nat → Int32} {n : Nat} {S : Nat → Nat} (h : invK g n S) : invK (ug g 1 13 0) n S := by
  obtain ⟨h1, h2, h3, h4, h5, h6, h7, h8, h9, h10⟩ := h
  refine ⟨⟨st_ug (by omega) h1.1, ⟨(ug_ne (by omega)).trans h1.2.1.1, (ug_ne (by omega)).trans h1.2.1.2.1, h1.2.1.2.2⟩, evK_at h1.2.2.1 (ug_ne (by omega)), ⟨0, ug_same, by omega⟩⟩, thr_at h2 (ug_ne (by omega)), fun fr hf k a1 a2 => ?_, ?_, ?_, ?_, ?_, ?_, ?_, fun B hB b9 hb9 hB3 => ?_⟩
  · rw [ug_ne (by omega)]; exact h3 fr hf k a1 a2
  · rw [ug_ne (by omega)]; exact h4
  · rw [ug_ne (by omega)]; exact h5
  · rw [ug_ne (by omega)]; exact h6
  · rw [ug_ne (by omega)]; exact h7
  · unfold bmN at h8 ⊢
    rw [ug_ne (by omega), ug_ne (by omega)]; exact h8
  · unfold bmU at h9 ⊢
    rw [ug_ne (by omega), ug_ne (by omega), ug_ne (by omega)]; exact h9
  · rw [ug_same] at hB
    have := nIij (a := 0) (b := B) (by omega) (by omega) hB
    omega
theorem svy_rl {n : Nat} {a0 g gr : Nat → Nat → Int32} {S : Nat → Nat} {sep : Int32} (hs1 : 1 ≤ sep) (hi : invK g n S) (h : rlG n a0 (svG gr) g (svG gr)) : rlG n a0 (svG gr) (fbW n (S 0) (S 1) sep g) (svyW n (S 0) (S 1) sep gr) ∧ invK (fbW n (S 0) (S 1) sep g) n S := by
  obtain ⟨k1, k2, k3, k4, k5, k6⟩ := inv_sec hi
  have rlf : rlG n a0 (svG gr) g (flP (svG gr) 256) := by
    have e : ∀ k, flP (svG gr) 256 1 k = svG gr 1 k := fun k => if_neg (by omega)
    refine ⟨h.n8, ⟨fun j hj => (e j).trans (h.le.1 j hj), fun j h1 h2 => (e j).trans (h.le.2.1 j h1 h2), fun j h1 h2 => (e j).trans (h.le.2.2 j h1 h2)⟩, h.ka, keG_tr h.kb fun i k _ h2 => if_neg (by omega), h.ev, h.bk⟩
  have tq : tQ (fun _ => False) g (flP (svG gr) 256) := fun k hk => ⟨fun z => z.elim, fun _ => if_pos ⟨rfl, hk⟩⟩
  obtain ⟨q1, q2, q3⟩ := fbO_rl k6 (S 0) 0 (by omega) hi.2.1 rlf tq
  have main := gd_main (S := S) hs1 257 3 0 (fun _ => False) (A := ug (fbO n (S 1) (S 0) 0 g) 1 13 0) (B := ug (fbO n (S 1) (S 0) 0 (flP (svG gr) 256)) 1 13 0) (by omega) (Nat.lt_of_le_of_lt (cnt9_le 256) (by omega)) (rl_b0 q1) (inv_b0 (inv_fbO (S 0) 0 hi)) ug_same (fun k hk z1 z2 _ => by
    rw [ug_ne (by omega), ug_ne (by omega)]
    exact (q3 k hk).1 (Or.inr ⟨by omega, by omega, z2⟩)) (fun k hk z => by
    rw [ug_ne (by omega)]
    exact (q3 k hk).2 (fun z2 => z (z2.elim (fun z3 => z3.elim) (fun z3 => ⟨by omega, z3.2.2, id⟩)))) (fun k _ z => z.elim)
  exact main
theorem sm_survey {l : Launch} {D : va_G} {cA : FieldType → ClassId} {z0 : Nat} {SK SV : Nat → Nat} (x : Int32) : smI l D cA z0 SK SV yX8_survey cX8_survey 2 6 yX9_survey cX9_survey 5 7 [.int x] := by
  intro ad am hE hM hK g s σ τ ρ c9 gr h I
  obtain ⟨n, S, hg, hr, le⟩ := I.2.1
  have hσ := I.pm
  have hb := I.bo
  have hρ := I.rho
  have hc := I.c6
  have hv := I.sv
  have rl := inv_rl hg le
  have hs := inv_st hg
  have hs2 := inv_st hr
  obtain ⟨k1, k2, k3, k4, k5, k6⟩ := inv_sec hg
  obtain ⟨j1, j2, -⟩ := inv_sec hr
  have I1 := si_save I
  have hr1 := inv_sv hr
  have le1 := le_sv hg le
  have rl1 := inv_rl hg le1
  by_cases c : 1 ≤ x ∧ x ≤ 32
  · have c' : ¬ wnI x 1 32 = 0 := by rw [wnI_0]; exact fun z => z c
    obtain ⟨rl2, hg2⟩ := svy_rl (sep := x) c.1 hg rl1
    exact sm_mk (h1 := h) (fc_survey hE g s σ τ hσ ρ c9 n (S 0) (S 1) x hb hρ hc hs k1 k2 k4 k6) (ct_survey hM gr h n (S 0) (S 1) x hs2 hv j1 j2 k4 k6) (si_upd I1 hσ hg2 (inv_tr hg2 rl2.le) rl2.le (kpG_of rl2.ka) (kpG_of rl2.kb)) (by simp only [fc_survey_r, if_neg c', if_pos c]; exact rl2.sc (by omega)) (by simp only [fc_survey_w, if_neg c']) (by simp only [if_pos c])
  · have c' : wnI x 1 32 = 0 := by rw [wnI_0]; exact c
    exact sm_mk (h1 := h) (fc_survey hE g s σ τ hσ ρ c9 n (S 0) (S 1) x hb hρ hc hs k1 k2 k4 k6) (ct_survey hM gr h n (S 0) (S 1) x hs2 hv j1 j2 k4 k6) I (by simp only [fc_survey_r, if_pos c', if_neg c]) (by simp only [fc_survey_w, if_pos c']) (by simp only [if_neg c])
