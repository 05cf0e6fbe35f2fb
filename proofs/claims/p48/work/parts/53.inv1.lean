/-! WHAT HOLDS OF A STATE BETWEEN CALLS -/
def b01 (x : Int32) : Prop := x = 0 ∨ x = 1
def bmN (S : Nat → Nat) (g : Nat → Nat → Int32) : Prop := (g 1 18 = -100000 ∨ bmK (S 0) (g 1 18)) ∧ (g 1 38 = -100000 ∨ bmK (S 1) (g 1 38))
def bmU (S : Nat → Nat) (g : Nat → Nat → Int32) : Prop := g 1 0 = 1 → bmK (S 0) (g 1 18) ∧ bmK (S 1) (g 1 38)
def bkV (S : Nat → Nat) (g : Nat → Nat → Int32) : Prop := ∀ B, g 1 13 = nI B → ∀ b, b < B → B ≤ 3 → (∃ i, i < S 0 ∧ g 1 (103 + 3 * b) = nI i) ∧ ∃ j, j < S 1 ∧ g 1 (103 + 3 * b + 1) = nI j
def invK (g : Nat → Nat → Int32) (n : Nat) (S : Nat → Nat) : Prop := goodR g n S ∧ thrK g ∧ tbK g S ∧ 0 < g 1 10 ∧ b01 (g 1 0) ∧ b01 (g 1 8) ∧ b01 (g 1 11) ∧ bmN S g ∧ bmU S g ∧ bkV S g
theorem inv_gen {g g' : Nat → Nat → Int32} {n : Nat} {S : Nat → Nat} (h : invK g n S) (ha : ∀ k, 6 ≤ k → k < 112 → k ≠ 14 → k ≠ 18 → k ≠ 38 → g' 1 k = g 1 k) (hE : evK g') (hup : b01 (g' 1 0)) (hb : bmN S g') (hu : bmU S g') : invK g' n S := by
  obtain ⟨h1, h2, h3, h4, h5, h6, h7, h8, h9, h10⟩ := h
  refine ⟨gd_kp h1 (fun k hk => ha k ?_ ?_ ?_ ?_ ?_) hE (bkK_at h1.2.2.2 (ha 13 (by omega) (by omega) (by omega) (by omega) (by omega))), thr_at h2 (ha 6 (by omega) (by omega) (by omega) (by omega) (by omega)), fun fr hf k h1 h2 => ?_, ?_, hup, ?_, ?_, hb, hu, fun B hB b hb hB3 => ?_⟩
  · unfold stK at hk; omega
  · unfold stK at hk; omega
  · unfold stK at hk; omega
  · unfold stK at hk; omega
  · unfold stK at hk; omega
  · rw [ha _ (by omega) (by omega) (by omega) (by omega) (by omega)]; exact h3 fr hf k h1 h2
  · rw [ha 10 (by omega) (by omega) (by omega) (by omega) (by omega)]; exact h4
  · rw [ha 8 (by omega) (by omega) (by omega) (by omega) (by omega)]; exact h6
  · rw [ha 11 (by omega) (by omega) (by omega) (by omega) (by omega)]; exact h7
  · rw [ha 13 (by omega) (by omega) (by omega) (by omega) (by omega)] at hB
    rw [ha _ (by omega) (by omega) (by omega) (by omega) (by omega), ha _ (by omega) (by omega) (by omega) (by omega) (by omega)]
    exact h10 B hB b hb hB3
theorem inv_eq {g g' : Nat → Nat → Int32} {n : Nat} {S : Nat → Nat} (h : invK g n S) (ha : ∀ k, 6 ≤ k → k < 112 → k ≠ 14 → g' 1 k = g 1 k) (hE : evK g') (h0 : g' 1 0 = g 1 0) : invK g' n S := by
  have e1 := ha 18 (by omega) (by omega) (by omega)
  have e2 := ha 38 (by omega) (by omega) (by omega)
  have h' := h
  obtain ⟨h1, h2, h3, h4, h5, h6, h7, h8, h9, h10⟩ := h
  refine inv_gen h' (fun k a b c _ _ => ha k a b c) hE (by rw [h0]; exact h5) ?_ ?_
  · unfold bmN at h8 ⊢
    rw [e1, e2]; exact h8
  · unfold bmU at h9 ⊢
    rw [e1, e2, h0]; exact h9
theorem inv_snt {g : Nat → Nat → Int32} {n fr m : Nat} {S : Nat → Nat} {b0 b1 t : Int32} (h : invK g n S) : invK (sntG g fr b0 b1 t m) n S :=
  inv_eq h (fun k a b c => by unfold sntG; rw [ug_ne (by omega), ug_ne (by omega), ug_ne (by omega), ug_ne (by omega)]) (evK_at h.1.2.2.1 (kf_snt (kf_rf g) 14 (by unfold frK; omega))) (kf_snt (kf_rf g) 0 (by unfold frK; omega))
theorem inv_nte {g : Nat → Nat → Int32} {n : Nat} {S : Nat → Nat} {kd v : Int32} (h : invK g n S) : invK (nteG g kd v) n S :=
  inv_eq h (fun k a b c => nte_13 k (by omega) c h.1.2.2.1) (evK_nte h.1.2.2.1) (nte_13 0 (by omega) (by omega) h.1.2.2.1)
/-- a present beam of a station that the station has -/
theorem inv_bm {g : Nat → Nat → Int32} {n s : Nat} {S : Nat → Nat} {x : Int32} (hs : s < 2) (h : invK g n S) (hx : bmK (S s) x) : invK (ug g 1 (18 + 20 * s) x) n S := by
  have h' := h
  obtain ⟨h1, h2, h3, h4, h5, h6, h7, h8, h9, h10⟩ := h
  refine inv_gen h' (fun k _ _ _ _ _ => ug_ne (by omega)) (evK_at h1.2.2.1 (ug_ne (by omega))) (by rw [ug_ne (by omega)]; exact h5) ?_ ?_
  · rcases (show s = 0 ∨ s = 1 by omega) with rfl | rfl
    · exact ⟨Or.inr (by rw [ug_same]; exact hx), by rw [ug_ne (by omega)]; exact h8.2⟩
    · exact ⟨by rw [ug_ne (by omega)]; exact h8.1, Or.inr (by rw [ug_same]; exact hx)⟩
  · unfold bmU at h9 ⊢
    rw [ug_ne (by omega)]
    intro hu
    rcases (show s = 0 ∨ s = 1 by omega) with rfl | rfl
    · exact ⟨by rw [ug_same]; exact hx, by rw [ug_ne (by omega)]; exact (h9 hu).2⟩
    · exact ⟨by rw [ug_ne (by omega)]; exact (h9 hu).1, by rw [ug_same]; exact hx⟩
/-- the failures -/
theorem inv_fl {g : Nat → Nat → Int32} {n : Nat} {S : Nat → Nat} {x : Int32} (h : invK g n S) : invK (ug g 1 1 x) n S :=
  inv_eq h (fun k _ _ _ => ug_ne (by omega)) (evK_at h.1.2.2.1 (ug_ne (by omega))) (ug_ne (by omega))
theorem inv_dn {g : Nat → Nat → Int32} {n : Nat} {S : Nat → Nat} (h : invK g n S) : invK (ug g 1 0 0) n S := by
  have h' := h
  obtain ⟨h1, h2, h3, h4, h5, h6, h7, h8, h9, h10⟩ := h
  refine inv_gen h' (fun k _ _ _ _ _ => ug_ne (by omega)) (evK_at h1.2.2.1 (ug_ne (by omega))) (Or.inl ug_same) ?_ ?_
  · unfold bmN at h8 ⊢
    rw [ug_ne (by omega), ug_ne (by omega)]; exact h8
  · unfold bmU
    rw [ug_same]
    exact fun z => absurd z (by decide)
theorem inv_upp {g : Nat → Nat → Int32} {n : Nat} {S : Nat → Nat} (h : invK g n S) (ha : bmK (S 0) (g 1 18)) (hb : bmK (S 1) (g 1 38)) : invK (ug g 1 0 1) n S := by
  have h' := h
  obtain ⟨h1, h2, h3, h4, h5, h6, h7, h8, h9, h10⟩ := h
  refine inv_gen h' (fun k _ _ _ _ _ => ug_ne (by omega)) (evK_at h1.2.2.1 (ug_ne (by omega))) (Or.inr ug_same) ?_ ?_
  · unfold bmN at h8 ⊢
    rw [ug_ne (by omega), ug_ne (by omega)]; exact h8
  · exact fun _ => ⟨by rw [ug_ne (by omega)]; exact ha, by rw [ug_ne (by omega)]; exact hb⟩
theorem inv_es {g : Nat → Nat → Int32} {n f : Nat} {S : Nat → Nat} {r : Int32} (h : invK g n S) (hr : r = 0 → bmK (S 0) (g 1 18) ∧ bmK (S 1) (g 1 38)) : invK (esG f r g) n S := by
  unfold esG
  split
  · next c => exact inv_nte (inv_fl (inv_upp h (hr c).1 (hr c).2))
  · exact inv_nte (inv_fl (inv_dn h))
theorem inv_ss {g : Nat → Nat → Int32} {n m fr : Nat} {S : Nat → Nat} (hf : fr < 2) (h : invK g n S) : invK (ssG fr m (S fr) g) n S := by
  have h' := h
  obtain ⟨h1, h2, h3, h4, h5, h6, h7, h8, h9, h10⟩ := h
  have hS := h1.2.1
  have hS16 : S fr ≤ 16 := by
    obtain ⟨-, -, a, b, c, d⟩ := hS
    rcases (show fr = 0 ∨ fr = 1 by omega) with rfl | rfl
    · exact b
    · exact d
  have el : ∀ q, q ≠ 3 ∧ q ≠ 4 ∧ q ≠ 5 ∧ (q < 19 + 20 * (1 - fr) ∨ 19 + 20 * (1 - fr) + 16 ≤ q) → ssG fr m (S fr) g 1 q = g 1 q := fun q hq => ss_else hq _ _ hS16
  refine ⟨gd_kp h1 (kp_ssG hf _ _ hS16 (kp_rf g)) (evK_at h1.2.2.1 (el 14 (by omega))) (bkK_at h1.2.2.2 (el 13 (by omega))), thr_at h2 (el 6 (by omega)), fun q hq k k1 k2 => ?_, by rw [el 10 (by omega)]; exact h4, by rw [el 0 (by omega)]; exact h5, by rw [el 8 (by omega)]; exact h6, by rw [el 11 (by omega)]; exact h7, ?_, ?_, fun B hB b hb hB3 => ?_⟩
  · by_cases e : q = fr
    · subst e
      rw [ss_keep hf k2 _ _ k1]
      exact h3 q hf k k1 k2
    · rw [el _ (by omega)]
      exact h3 q hq k k1 k2
  · unfold bmN at h8 ⊢
    rw [el 18 (by omega), el 38 (by omega)]; exact h8
  · unfold bmU at h9 ⊢
    rw [el 18 (by omega), el 38 (by omega), el 0 (by omega)]; exact h9
  · rw [el 13 (by omega)] at hB
    rw [el _ (by omega), el _ (by omega)]
    exact h10 B hB b hb hB3
theorem bm_wide {S b : Nat} (h : b < S) : bmK S (nI b) := ⟨b, by omega, rfl⟩
theorem inv_rs {g : Nat → Nat → Int32} {n f : Nat} {S : Nat → Nat} (hf : f < 2) (h : invK g n S) : invK (dswG f n S g) n S := by
  have h' := h
  obtain ⟨h1, h2, h3, -⟩ := h
  have hS := h1.2.1
  have hS1 : ∀ q, q < 2 → S q ≤ 16 := fun q hq => by
    obtain ⟨-, -, a, b, c, d⟩ := hS
    rcases (show q = 0 ∨ q = 1 by omega) with rfl | rfl
    · exact b
    · exact d
  have i1 : invK (ssG f n (S f) g) n S := inv_ss hf h'
  have i2 : invK (ssG (1 - f) n (S (1 - f)) (ssG f n (S f) g)) n S := inv_ss (by omega) i1
  rw [← (rs_all (f := f) hf (hS1 f hf) (hS1 (1 - f) (by omega)) h2 h3 rfl rfl rfl rfl rfl rfl).2]
  rcases (sw_one (n := n) hf (hS1 f hf) h2 (fun k a b => h3 f hf k a b)).2 with ⟨-, e1⟩ | ⟨-, b, hb, e1, -⟩
  · rw [if_pos e1]
    exact inv_es i1 (fun z => absurd z (by decide))
  · rw [if_neg (by rw [e1]; have := hS1 f hf; exact nI_nn (by omega))]
    have i3 : invK (sntG (ug (ssG (1 - f) n (S (1 - f)) (ssG f n (S f) g)) 1 (18 + 20 * f) (ssB f n (S f) g (-100000) (-100000))) f (b0W f (ssB f n (S f) g (-100000) (-100000)) (-1)) (b1W f (ssB f n (S f) g (-100000) (-100000)) (-1)) 9 n) n S := inv_snt (inv_bm hf i2 (by rw [e1]; exact bm_wide hb))
    rcases (sw_one (n := n) (show 1 - f < 2 by omega) (hS1 (1 - f) (by omega)) i1.2.1 (fun k a b => i1.2.2.1 (1 - f) (by omega) k a b)).2 with ⟨-, e2⟩ | ⟨-, d, hd, e2, -⟩
    · rw [if_pos e2]
      exact inv_es i2 (fun z => absurd z (by decide))
    · rw [if_neg (by rw [e2]; have := hS1 (1 - f) (by omega); exact nI_nn (by omega))]
      split
      · exact inv_es i3 (fun z => absurd z (by decide))
      · have i4 := inv_snt (fr := 1 - f) (m := n) (b0 := b0W (1 - f) (ssB (1 - f) n (S (1 - f)) (ssG f n (S f) g) (-100000) (-100000)) (-1)) (b1 := b1W (1 - f) (ssB (1 - f) n (S (1 - f)) (ssG f n (S f) g) (-100000) (-100000)) (-1)) (t := 9) (inv_bm (s := 1 - f) (x := ssB (1 - f) n (S (1 - f)) (ssG f n (S f) g) (-100000) (-100000)) (by omega) i3 (by rw [e2]; exact bm_wide hd))
        split
        · exact inv_es i4 (fun z => absurd z (by decide))
        · refine inv_es i4 (fun _ => ?_)
          have u : ∀ x y : Int32, x = nI b → y = nI d → ∀ gg : Nat → Nat → Int32, ∀ a1 a2 a3 a4 a5 a6 a7 a8 : Int32, bmK (S 0) (sntG (ug (sntG (ug gg 1 (18 + 20 * f) x) f a1 a2 9 n) 1 (18 + 20 * (1 - f)) y) (1 - f) a3 a4 9 n 1 18) ∧ bmK (S 1) (sntG (ug (sntG (ug gg 1 (18 + 20 * f) x) f a1 a2 9 n) 1 (18 + 20 * (1 - f)) y) (1 - f) a3 a4 9 n 1 38) := fun x y hx hy gg a1 a2 a3 a4 _ _ _ _ => by
            subst hx
            subst hy
            unfold sntG
            rcases (show f = 0 ∨ f = 1 by omega) with rfl | rfl
            · exact ⟨bm_wide hb, bm_wide hd⟩
            · exact ⟨bm_wide hd, bm_wide hb⟩
          exact u _ _ e1 e2 _ _ _ _ _ 0 0 0 0
/-- a neighbour is a beam that there is -/
def nbc (S b : Nat) (y : Int32) : Bool := Nat.blt (nbrI (nI S) (nI b) y).toNatClampNeg (6 * S) && (nbrI (nI S) (nI b) y == nI (nbrI (nI S) (nI b) y).toNatClampNeg)
theorem nb_all : ∀ S, S < 17 → ∀ b, b < 96 → (!(Nat.ble 2 S && Nat.blt b (6 * S)) || (nbc S b (-1) && nbc S b 1)) = true := by decide +kernel
theorem nbc_bm {S b : Nat} {y : Int32} (h : nbc S b y = true) : bmK S (nbrI (nI S) (nI b) y) := by
  simp only [nbc, Bool.and_eq_true, Nat.blt_eq, beq_iff_eq] at h
  exact ⟨_, h.1, h.2⟩
theorem nb_bm {S : Nat} {x : Int32} (h : bmK S x) (h1 : 2 ≤ S) (h2 : S ≤ 16) : bmK S (nbrI (nI S) x (-1)) ∧ bmK S (nbrI (nI S) x 1) := by
  obtain ⟨b, h3, rfl⟩ := h
  have := nb_all S (by omega) b (by omega)
  rw [Nat.ble_eq.mpr h1, Nat.blt_eq.mpr h3] at this
  simp only [Bool.and_self, Bool.not_true, Bool.false_or, Bool.and_eq_true] at this
  exact ⟨nbc_bm this.1, nbc_bm this.2⟩
theorem inv_trk {g : Nat → Nat → Int32} {n s : Nat} {S : Nat → Nat} (hs : s < 2) (h : invK g n S) (hb : bmK (S s) (g 1 (18 + 20 * s))) : invK (trkG s n S g) n S := by
  have hS := h.1.2.1
  have hS1 : 2 ≤ S s ∧ S s ≤ 16 := by
    obtain ⟨-, -, a, b, c, d⟩ := hS
    rcases (show s = 0 ∨ s = 1 by omega) with rfl | rfl
    · exact ⟨a, b⟩
    · exact ⟨c, d⟩
  have hn := nb_bm hb hS1.1 hS1.2
  have i3 : invK (tr3 s n S g) n S := inv_snt (inv_snt (inv_snt h))
  have u1 := inv_nte (kd := 4) (v := nI s) (inv_bm hs i3 hn.1)
  have u2 := inv_nte (kd := 4) (v := nI s) (inv_bm hs i3 hn.2)
  unfold trkG trlo
  split
  · exact i3
  · split
    · split
      · exact u2
      · exact i3
    · split
      · exact u1
      · exact i3
theorem inv_ps1 {g : Nat → Nat → Int32} {n : Nat} {S : Nat → Nat} (h : invK g n S) : invK (ps1 n g) n S := by
  have hn := h.1.1.2.1
  have at1 : ∀ k, (k < 55 ∨ 103 ≤ k) → k ≠ 2 → ps1 n g 1 k = g 1 k := fun k a b => ps1_at k a b hn
  obtain ⟨h1, h2, h3, h4, h5, h6, h7, h8, h9, h10⟩ := h
  refine ⟨gd_ps1 h1, thr_at h2 (at1 6 (by omega) (by omega)), fun fr hf k k1 k2 => by rw [at1 _ (by omega) (by omega)]; exact h3 fr hf k k1 k2, by rw [at1 10 (by omega) (by omega)]; exact h4, by rw [at1 0 (by omega) (by omega)]; exact h5, by rw [at1 8 (by omega) (by omega)]; exact h6, by rw [at1 11 (by omega) (by omega)]; exact h7, ?_, ?_, fun B hB b hb hB3 => ?_⟩
  · unfold bmN at h8 ⊢
    rw [at1 18 (by omega) (by omega), at1 38 (by omega) (by omega)]; exact h8
  · unfold bmU at h9 ⊢
    rw [at1 18 (by omega) (by omega), at1 38 (by omega) (by omega), at1 0 (by omega) (by omega)]; exact h9
  · rw [at1 13 (by omega) (by omega)] at hB
    rw [at1 _ (by omega) (by omega), at1 _ (by omega) (by omega)]
    exact h10 B hB b hb hB3
theorem inv_rb {g : Nat → Nat → Int32} {n b B : Nat} {S : Nat → Nat} (h : invK g n S) (hB : g 1 13 = nI B) (hb : b < B) (hB3 : B ≤ 3) : invK (rbG g b) n S := by
  have at1 : ∀ k, (k < 103 ∨ 109 ≤ k) → k ≠ 13 → rbG g b 1 k = g 1 k := fun k a c => kf_rb k a c
  have e13 : rbG g b 1 13 = nI (B - 1) := by
    unfold rbG
    rw [ug_same]
    unfold shK
    rw [if_neg (by omega), hB]
    exact pk_sub (b := 1) (by omega)
  obtain ⟨h1, h2, h3, h4, h5, h6, h7, h8, h9, h10⟩ := h
  refine ⟨gd_kp h1 (kp_rb (kp_rf g)) (evK_at h1.2.2.1 (at1 14 (by omega) (by omega))) ⟨B - 1, e13, by omega⟩, thr_at h2 (at1 6 (by omega) (by omega)), fun fr hf k k1 k2 => by rw [at1 _ (by omega) (by omega)]; exact h3 fr hf k k1 k2, by rw [at1 10 (by omega) (by omega)]; exact h4, by rw [at1 0 (by omega) (by omega)]; exact h5, by rw [at1 8 (by omega) (by omega)]; exact h6, by rw [at1 11 (by omega) (by omega)]; exact h7, ?_, ?_, fun B' hB' q hq hq3 => ?_⟩
  · unfold bmN at h8 ⊢
    rw [at1 18 (by omega) (by omega), at1 38 (by omega) (by omega)]; exact h8
  · unfold bmU at h9 ⊢
    rw [at1 18 (by omega) (by omega), at1 38 (by omega) (by omega), at1 0 (by omega) (by omega)]; exact h9
  · rw [e13] at hB'
    have eB : B' = B - 1 := ((nI_eq (a := B - 1) (b := B') (by omega) (by omega)).mp hB').symm
    have sh : ∀ k, rbG g b 1 (103 + k) = if 3 * b ≤ k ∧ k < 6 then g 1 (103 + k + 3) else g 1 (103 + k) := fun k => by
      unfold rbG
      rw [ug_ne (by omega)]
      unfold shK
      split
      · next c => rw [if_pos (by omega)]
      · next c => rw [if_neg (by omega)]
    rw [sh (3 * q), show 103 + 3 * q + 1 = 103 + (3 * q + 1) by omega, sh (3 * q + 1)]
    by_cases c : b ≤ q
    · rw [if_pos (by omega), if_pos (by omega), show 103 + 3 * q + 3 = 103 + 3 * (q + 1) by omega, show 103 + (3 * q + 1) + 3 = 103 + 3 * (q + 1) + 1 by omega]
      exact h10 B hB (q + 1) (by omega) hB3
    · rw [if_neg (by omega), if_neg (by omega)]
      exact h10 B hB q (by omega) hB3
theorem inv_rcF {n : Nat} {S : Nat → Nat} : ∀ (m b B : Nat) (g : Nat → Nat → Int32), g 1 13 = nI B → b + m = B → B ≤ 3 → invK g n S → invK (rcF n m b g) n S
  | 0, b, B, g, _, _, _, h => inv_nte (inv_dn h)
  | m + 1, b, B, g, hB, hm, hB3, h => by
    have is : invK (rcS n b g) n S := inv_snt h
    unfold rcF
    split
    · have kS : ∀ k, k ≠ 3 → k ≠ 4 → k ≠ 5 → rcS n b g 1 k = g 1 k := fun k a c d => by
        unfold rcS sntG
        rw [ug_ne (by omega), ug_ne (by omega), ug_ne (by omega), ug_ne (by omega)]
      obtain ⟨⟨i, hi, ei⟩, ⟨j, hj, ej⟩⟩ := h.2.2.2.2.2.2.2.2.2 B hB b (by omega) hB3
      have i1 : invK (ug (rcS n b g) 1 18 (rcS n b g 1 (103 + 3 * b))) n S := inv_bm (s := 0) (by omega) is (by rw [kS _ (by omega) (by omega) (by omega), ei]; exact bm_wide hi)
      have i2 : invK (rcT n b g) n S := inv_bm (s := 1) (by omega) i1 (by rw [ug_ne (by omega), kS _ (by omega) (by omega) (by omega), ej]; exact bm_wide hj)
      exact inv_nte (inv_rb (B := B) i2 ((kf_rcT 13 (by unfold frK; omega)).trans hB) (by omega) hB3)
    · exact inv_rcF m (b + 1) B _ ((kf_snt (kf_rf g) 13 (by unfold frK; omega)).trans hB) (by omega) hB3 is
theorem inv_tlk {g : Nat → Nat → Int32} {n : Nat} {S : Nat → Nat} (h : invK g n S) : invK (tlkG n g) n S := by
  have i2 : invK (tk2 n g) n S := inv_snt (inv_snt h)
  unfold tlkG
  split
  · exact inv_fl i2
  · unfold tkR
    split
    · exact inv_fl i2
    · obtain ⟨B, hB, hB3⟩ := i2.1.2.2.2
      rw [ug_ne (by omega), hB, nI_clamp (by omega)]
      exact inv_rcF B 0 B _ ((ug_ne (by omega)).trans ((ug_ne (by omega)).trans hB)) (by omega) hB3 (inv_fl (inv_fl i2))
