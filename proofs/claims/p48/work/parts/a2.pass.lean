/-! WHAT AN INTERVAL CHANGES -/
def pBk (k : Nat) : Prop := k = 13 ∨ (103 ≤ k ∧ k < 112)
/-- an interval: all but the settings, the stations and the backups -/
def pP (k : Nat) : Prop := k = 0 ∨ k = 1 ∨ k = 2 ∨ k = 14 ∨ k = 18 ∨ k = 38 ∨ (19 ≤ k ∧ k < 35) ∨ (39 ≤ k ∧ k < 103) ∨ 112 ≤ k
def pPB (k : Nat) : Prop := pP k ∨ pBk k
/-- the backups are some of those that were there, in their order -/
def sbK (g g' : Nat → Nat → Int32) : Prop := ∀ B, g 1 13 = nI B → B ≤ 3 → ∃ (B' : Nat) (m : Nat → Nat), B' ≤ 3 ∧ g' 1 13 = nI B' ∧ (∀ b, b < B' → m b < B ∧ ∀ r, r < 3 → g' 1 (103 + 3 * b + r) = g 1 (103 + 3 * m b + r)) ∧ ∀ c b, c < b → b < B' → m c < m b
theorem sbK_eq {g g' : Nat → Nat → Int32} (h : ∀ k, pBk k → g' 1 k = g 1 k) : sbK g g' := fun B hB hB3 => ⟨B, fun b => b, hB3, (h 13 (by unfold pBk; omega)).trans hB, fun b hb => ⟨hb, fun r hr => h _ (by unfold pBk; omega)⟩, fun c b hc _ => hc⟩
theorem sbK_e {g g1 g2 : Nat → Nat → Int32} (h : sbK g g1) (e : ∀ k, pBk k → g2 1 k = g1 1 k) : sbK g g2 := fun B hB hB3 => by
  obtain ⟨B', m, h1, h2, h3, h4⟩ := h B hB hB3
  exact ⟨B', m, h1, (e 13 (by unfold pBk; omega)).trans h2, fun b hb => ⟨(h3 b hb).1, fun r hr => (e _ (by unfold pBk; omega)).trans ((h3 b hb).2 r hr)⟩, h4⟩
theorem sbK_p {g g1 g2 : Nat → Nat → Int32} (e : ∀ k, pBk k → g1 1 k = g 1 k) (h : sbK g1 g2) : sbK g g2 := fun B hB hB3 => by
  obtain ⟨B', m, h1, h2, h3, h4⟩ := h B ((e 13 (by unfold pBk; omega)).trans hB) hB3
  exact ⟨B', m, h1, h2, fun b hb => ⟨(h3 b hb).1, fun r hr => ((h3 b hb).2 r hr).trans (e _ (by have := (h3 b hb).1; unfold pBk; omega))⟩, h4⟩
theorem sbK_rb {g : Nat → Nat → Int32} {B b : Nat} (hB : g 1 13 = nI B) (hB3 : B ≤ 3) (hb : b < B) : sbK g (rbG g b) := by
  intro B2 hB2 hB23
  have eB : B2 = B := by
    exact nIij (by omega) (by omega) (hB2.symm.trans hB)
  subst eB
  have e13 : rbG g b 1 13 = nI (B2 - 1) := by
    unfold rbG
    rw [ug_same]
    unfold shK
    rw [if_neg (by omega), hB]
    exact pk_sub (b := 1) (by omega)
  have sh : ∀ k, rbG g b 1 (103 + k) = if 3 * b ≤ k ∧ k < 6 then g 1 (103 + k + 3) else g 1 (103 + k) := fun k => by
    unfold rbG
    rw [ug_ne (by omega)]
    unfold shK
    split
    · next c => rw [if_pos (by omega)]
    · next c => rw [if_neg (by omega)]
  refine ⟨B2 - 1, fun q => if q < b then q else q + 1, by omega, e13, fun q hq => ⟨?_, fun r hr => ?_⟩, fun c q hc hq => ?_⟩
  · show (if q < b then q else q + 1) < B2
    split <;> omega
  · show rbG g b 1 (103 + 3 * q + r) = g 1 (103 + 3 * (if q < b then q else q + 1) + r)
    rw [show 103 + 3 * q + r = 103 + (3 * q + r) by omega, sh]
    by_cases c : q < b
    · rw [if_neg (by omega), if_pos c, show 103 + (3 * q + r) = 103 + 3 * q + r by omega]
    · rw [if_pos (by omega), if_neg c, show 103 + (3 * q + r) + 3 = 103 + 3 * (q + 1) + r by omega]
  · show (if c < b then c else c + 1) < if q < b then q else q + 1
    split <;> split <;> omega
/-- a beam stays or becomes a neighbour -/
def trD (S : Nat → Nat) (x : Nat) (g g' : Nat → Nat → Int32) : Prop := g' 1 (18 + 20 * x) = g 1 (18 + 20 * x) ∨ ∃ y : Int32, (y = -1 ∨ y = 1) ∧ g' 1 (18 + 20 * x) = nbrI (nI (S x)) (g 1 (18 + 20 * x)) y
section PS
variable {n : Nat} {S : Nat → Nat} {g : Nat → Nat → Int32}
def pK (s k : Nat) : Prop := k = 18 + 20 * s ∨ k = 14 ∨ 112 ≤ k
theorem cR_tr3 {P : Nat → Prop} {s : Nat} : cR P 3 g (tr3 s n S g) := cR_tr (cR_tr (cR_snt (x := 2) 2 rfl (by omega)) (cR_snt (x := 2) 2 rfl (by omega))) (cR_snt (x := 2) 2 rfl (by omega))
theorem trk_D {s : Nat} (hs : s < 2) (hE : evK g) : cR (pK s) 3 g (trkG s n S g) ∧ trD S s g (trkG s n S g) := by
  have c3 : cR (pK s) 3 g (tr3 s n S g) := cR_tr3
  have E3 : evK (tr3 s n S g) := evK_at hE (cR_at (cR_tr3 (P := fun _ => False)) 14 id (by omega) (by omega) (by omega))
  have b3 : tr3 s n S g 1 (18 + 20 * s) = g 1 (18 + 20 * s) := cR_at (cR_tr3 (P := fun _ => False)) _ id (by omega) (by omega) (by omega)
  have u : ∀ x : Int32, cR (pK s) 3 g (nteG (ug (tr3 s n S g) 1 (18 + 20 * s) x) 4 (nI s)) ∧ nteG (ug (tr3 s n S g) 1 (18 + 20 * s) x) 4 (nI s) 1 (18 + 20 * s) = x := fun x => by
    have Eu : evK (ug (tr3 s n S g) 1 (18 + 20 * s) x) := evK_at E3 (ug_ne (by omega))
    exact ⟨cR_nte (cR_ug c3 (Or.inl rfl) (by omega) (by omega)) Eu (Or.inr (Or.inl rfl)) (fun k hk => Or.inr (Or.inr hk)), (nte_13 _ (by omega) (by omega) Eu).trans ug_same⟩
  have lo := u (trlo s S g (-1))
  have hi := u (trlo s S g 1)
  unfold trkG
  split
  · exact ⟨c3, Or.inl b3⟩
  · split
    · split
      · exact ⟨hi.1, Or.inr ⟨1, Or.inr rfl, hi.2⟩⟩
      · exact ⟨c3, Or.inl b3⟩
    · split
      · exact ⟨lo.1, Or.inr ⟨-1, Or.inl rfl, lo.2⟩⟩
      · exact ⟨c3, Or.inl b3⟩
theorem cR_ps1 (hn : n ≤ 8) : cR pP 0 g (ps1 n g) := ⟨0, 0, by omega, by omega, by omega, (ps1_at 3 (by omega) (by omega) hn).trans aI_0.symm, (ps1_at 4 (by omega) (by omega) hn).trans aI_0.symm, fun k hk _ _ _ => ps1_at k (by unfold pP at hk; omega) (by unfold pP at hk; omega) hn⟩
theorem psA_D (h : invK g n S) : cR pP 6 g (psA n S g) ∧ (∀ x, x < 2 → trD S x g (psA n S g)) ∧ psA n S g 1 2 = ps1 n g 1 2 := by
  have hn := inv_n8 h
  have hE := inv_ev h
  have c1 := cR_ps1 (g := g) hn
  have a1 : ∀ k, k = 18 ∨ k = 38 ∨ k = 14 → ps1 n g 1 k = g 1 k := fun k hk => ps1_at k (by omega) (by omega) hn
  have E1 : evK (ps1 n g) := evK_at hE (a1 14 (by omega))
  unfold psA
  split
  · next c =>
    obtain ⟨t1, t2⟩ := trk_D (n := n) (S := S) (s := 0) (by omega) E1
    have E2 : evK (trkG 0 n S (ps1 n g)) := inv_ev (inv_trk (s := 0) (by omega) (inv_ps1 h) ((inv_ps1 h).2.2.2.2.2.2.2.2.1 c.1).1)
    obtain ⟨t3, t4⟩ := trk_D (n := n) (S := S) (s := 1) (by omega) E2
    have m : ∀ s : Nat, s < 2 → ∀ k, pK s k → pP k := fun s hs k hk => by unfold pK at hk; unfold pP; omega
    refine ⟨cR_k (cR_tr (cR_tr c1 (cR_mn t1 (Nat.le_refl _) (m 0 (by omega)))) (cR_mn t3 (Nat.le_refl _) (m 1 (by omega)))) (by omega), fun x hx => ?_, ?_⟩
    · rcases (show x = 0 ∨ x = 1 by omega) with rfl | rfl
      · have e : trkG 1 n S (trkG 0 n S (ps1 n g)) 1 (18 + 20 * 0) = trkG 0 n S (ps1 n g) 1 (18 + 20 * 0) := cR_at t3 _ (by unfold pK; omega) (by omega) (by omega) (by omega)
        unfold trD at t2 ⊢
        rw [e]
        rw [a1 (18 + 20 * 0) (by omega)] at t2
        exact t2
      · have e : trkG 0 n S (ps1 n g) 1 (18 + 20 * 1) = g 1 (18 + 20 * 1) := (cR_at t1 _ (by unfold pK; omega) (by omega) (by omega) (by omega)).trans (a1 _ (by omega))
        unfold trD at t4 ⊢
        rw [e] at t4
        exact t4
    · exact (cR_at t3 2 (by unfold pK; omega) (by omega) (by omega) (by omega)).trans (cR_at t1 2 (by unfold pK; omega) (by omega) (by omega) (by omega))
  · exact ⟨cR_k c1 (by omega), fun x hx => Or.inl (a1 _ (by omega)), rfl⟩
def pQ (k : Nat) : Prop := k = 0 ∨ k = 1 ∨ k = 14 ∨ k = 18 ∨ k = 38 ∨ 112 ≤ k ∨ pBk k
/-- the link went down, the beams stayed; or a backup was taken, and that is the latest event -/
def rcD (g g' : Nat → Nat → Int32) : Prop := (g' 1 18 = g 1 18 ∧ g' 1 38 = g 1 38 ∧ ∀ k, pBk k → g' 1 k = g 1 k) ∨ ((∃ v, lsE g' 3 v (g 1 2)) ∧ g' 1 0 = g 1 0 ∧ sbK g g')
theorem rcF_D : ∀ (m b B : Nat) {g : Nat → Nat → Int32}, g 1 13 = nI B → b + m = B → B ≤ 3 → evK g → cR pQ m g (rcF n m b g) ∧ rcD g (rcF n m b g)
  | 0, b, B, g, _, _, _, hE => by
    have E1 : evK (ug g 1 0 0) := evK_at hE (ug_ne (by omega))
    have lo : ∀ k, k < 112 → k ≠ 14 → k ≠ 0 → nteG (ug g 1 0 0) 2 0 1 k = g 1 k := fun k h1 h2 h3 => (nte_13 k (Or.inl h1) h2 E1).trans (ug_ne (by omega))
    exact ⟨cR_nte (cR_ug cR_rf (by unfold pQ; omega) (by omega) (by omega)) E1 (by unfold pQ; omega) (fun k hk => by unfold pQ; omega), Or.inl ⟨lo 18 (by omega) (by omega) (by omega), lo 38 (by omega) (by omega) (by omega), fun k hk => by unfold pBk at hk; exact lo k (by omega) (by omega) (by omega)⟩⟩
  | m + 1, b, B, g, hB, hm, hB3, hE => by
    have cs : ∀ P : Nat → Prop, cR P 1 g (rcS n b g) := fun P => cR_snt (x := 4) 4 rfl (by omega)
    have as_ : ∀ k, k ≠ 3 → k ≠ 4 → k ≠ 5 → rcS n b g 1 k = g 1 k := fun k => cR_at (cs fun _ => False) k id
    unfold rcF
    split
    · have aT : ∀ k, k ≠ 3 → k ≠ 4 → k ≠ 5 → k ≠ 18 → k ≠ 38 → rcT n b g 1 k = g 1 k := fun k h3 h4 h5 h8 h9 => by
        unfold rcT
        rw [ug_ne (by omega), ug_ne (by omega)]
        exact as_ k h3 h4 h5
      have hBT : rcT n b g 1 13 = nI B := (aT 13 (by omega) (by omega) (by omega) (by omega) (by omega)).trans hB
      have sT := sbK_rb hBT hB3 (b := b) (by omega)
      have aR : ∀ k, (k < 103 ∨ 109 ≤ k) → k ≠ 13 → rbG (rcT n b g) b 1 k = rcT n b g 1 k := fun k h1 h2 => kf_rb k h1 h2
      have ER : evK (rbG (rcT n b g) b) := evK_at hE ((aR 14 (by omega) (by omega)).trans (aT 14 (by omega) (by omega) (by omega) (by omega) (by omega)))
      have lo : ∀ k, k < 112 → k ≠ 14 → nteG (rbG (rcT n b g) b) 3 (nI b) 1 k = rbG (rcT n b g) b 1 k := fun k h1 h2 => nte_13 k (Or.inl h1) h2 ER
      have c1 : cR pQ (m + 1) g (rcT n b g) := cR_k (cR_ug (cR_ug (cs pQ) (by unfold pQ; omega) (by omega) (by omega)) (by unfold pQ; omega) (by omega) (by omega)) (by omega)
      have c2 : cR pQ (m + 1) g (rbG (rcT n b g) b) := by
        obtain ⟨q, t, x1, x2, x3, x4, x5, x6⟩ := c1
        refine ⟨q, t, x1, x2, x3, (aR 3 (by omega) (by omega)).trans x4, (aR 4 (by omega) (by omega)).trans x5, fun k hk h3 h4 h5 => (aR k ?_ ?_).trans (x6 k hk h3 h4 h5)⟩
        · unfold pQ pBk at hk; omega
        · unfold pQ pBk at hk; omega
      refine ⟨cR_nte c2 ER (by unfold pQ; omega) (fun k hk => by unfold pQ; omega), Or.inr ⟨⟨nI b, ?_⟩, ?_, ?_⟩⟩
      · have z := ls_nte (kd := 3) (v := nI b) ER
        rw [aR 2 (by omega) (by omega), aT 2 (by omega) (by omega) (by omega) (by omega) (by omega)] at z
        exact z
      · exact (lo 0 (by omega) (by omega)).trans ((aR 0 (by omega) (by omega)).trans (aT 0 (by omega) (by omega) (by omega) (by omega) (by omega)))
      · exact sbK_e (sbK_p (fun k hk => by unfold pBk at hk; exact aT k (by omega) (by omega) (by omega) (by omega) (by omega)) sT) (fun k hk => by unfold pBk at hk; exact lo k (by omega) (by omega))
    · obtain ⟨h1, h2⟩ := rcF_D m (b + 1) B (g := rcS n b g) ((as_ 13 (by omega) (by omega) (by omega)).trans hB) (by omega) hB3 (evK_at hE (as_ 14 (by omega) (by omega) (by omega)))
      refine ⟨cR_k (cR_tr (cs pQ) h1) (by omega), ?_⟩
      unfold rcD at h2 ⊢
      rw [as_ 18 (by omega) (by omega) (by omega), as_ 38 (by omega) (by omega) (by omega), as_ 2 (by omega) (by omega) (by omega), as_ 0 (by omega) (by omega) (by omega)] at h2
      rcases h2 with ⟨x1, x2, x3⟩ | ⟨x1, x2, x3⟩
      · exact Or.inl ⟨x1, x2, fun k hk => (x3 k hk).trans (by unfold pBk at hk; exact as_ k (by omega) (by omega) (by omega))⟩
      · exact Or.inr ⟨x1, x2, sbK_p (fun k hk => by unfold pBk at hk; exact as_ k (by omega) (by omega) (by omega)) x3⟩
theorem tlk_D (hE : evK g) (hK : bkK g) : cR pQ 5 g (tlkG n g) ∧ rcD g (tlkG n g) := by
  have c2 : ∀ P : Nat → Prop, cR P 2 g (tk2 n g) := fun P => cR_tr (cR_snt (x := 2) 2 rfl (by omega)) (cR_snt (x := 2) 2 rfl (by omega))
  have a2 : ∀ k, k ≠ 3 → k ≠ 4 → k ≠ 5 → tk2 n g 1 k = g 1 k := fun k => cR_at (c2 fun _ => False) k id
  have st : ∀ x, cR pQ 2 g (ug (tk2 n g) 1 1 x) ∧ ∀ k, k ≠ 1 → k ≠ 3 → k ≠ 4 → k ≠ 5 → ug (tk2 n g) 1 1 x 1 k = g 1 k := fun x => ⟨cR_ug (c2 pQ) (by unfold pQ; omega) (by omega) (by omega), fun k h1 h3 h4 h5 => (ug_ne (by omega)).trans (a2 k h3 h4 h5)⟩
  have dn : ∀ x, rcD g (ug (tk2 n g) 1 1 x) := fun x => Or.inl ⟨(st x).2 18 (by omega) (by omega) (by omega) (by omega), (st x).2 38 (by omega) (by omega) (by omega) (by omega), fun k hk => by unfold pBk at hk; exact (st x).2 k (by omega) (by omega) (by omega) (by omega)⟩
  unfold tlkG
  split
  · exact ⟨cR_k (st 0).1 (by omega), dn 0⟩
  · unfold tkR
    split
    · exact ⟨cR_k (st _).1 (by omega), dn _⟩
    · obtain ⟨B, hB, hB3⟩ := hK
      obtain ⟨w, hw⟩ : ∃ w, w = ug (ug (tk2 n g) 1 1 (tk2 n g 1 1 + 1)) 1 1 0 := ⟨_, rfl⟩
      have aw : ∀ k, k ≠ 1 → k ≠ 3 → k ≠ 4 → k ≠ 5 → w 1 k = g 1 k := fun k h1 h3 h4 h5 => by rw [hw]; exact (ug_ne (by omega)).trans ((st _).2 k h1 h3 h4 h5)
      have cw : cR pQ 2 g w := by rw [hw]; exact cR_ug (st _).1 (by unfold pQ; omega) (by omega) (by omega)
      have e13 : ug (tk2 n g) 1 1 (tk2 n g 1 1 + 1) 1 13 = nI B := ((st _).2 13 (by omega) (by omega) (by omega) (by omega)).trans hB
      rw [e13, nI_clamp (by omega), ← hw]
      obtain ⟨h1, h2⟩ := rcF_D (n := n) B 0 B (g := w) ((aw 13 (by omega) (by omega) (by omega) (by omega)).trans hB) (by omega) hB3 (evK_at hE (aw 14 (by omega) (by omega) (by omega) (by omega)))
      refine ⟨cR_k (cR_tr cw h1) (by omega), ?_⟩
      unfold rcD at h2 ⊢
      rw [aw 18 (by omega) (by omega) (by omega) (by omega), aw 38 (by omega) (by omega) (by omega) (by omega), aw 2 (by omega) (by omega) (by omega) (by omega), aw 0 (by omega) (by omega) (by omega) (by omega)] at h2
      rcases h2 with ⟨x1, x2, x3⟩ | ⟨x1, x2, x3⟩
      · exact Or.inl ⟨x1, x2, fun k hk => (x3 k hk).trans (by unfold pBk at hk; exact aw k (by omega) (by omega) (by omega) (by omega))⟩
      · exact Or.inr ⟨x1, x2, sbK_p (fun k hk => by unfold pBk at hk; exact aw k (by omega) (by omega) (by omega) (by omega)) x3⟩
/-- an interval: either its latest event is a backup's or a sweep's, or the beams went by one neighbour at most -/
theorem pas_D (h : invK g n S) : cR pPB 45 g (pasG n S g) ∧ sbK g (pasG n S g) ∧ ((∃ kd v, (kd = 1 ∨ kd = 3 ∨ kd = 5) ∧ lsE (pasG n S g) kd v (pasG n S g 1 2)) ∨ ∀ x, x < 2 → trD S x g (pasG n S g)) := by
  have hn := inv_n8 h
  have hE := inv_ev h
  have hK := inv_bk h
  obtain ⟨a1, a2, a3⟩ := psA_D (n := n) (S := S) (g := g) h
  have iA := inv_psA h
  have eA : ∀ k, pBk k → psA n S g 1 k = g 1 k := fun k hk => by unfold pBk at hk; exact cR_at a1 k (by unfold pP; omega) (by omega) (by omega) (by omega)
  have k1 := (inv_sec h).2.2.2.1
  have k2 := (inv_sec h).2.2.2.2.2
  -- the exchange of data
  have B1 : cR pPB 11 g (psB n S g) ∧ invK (psB n S g) n S ∧ sbK g (psB n S g) ∧ psB n S g 1 2 = psA n S g 1 2 ∧ ((∃ v, lsE (psB n S g) 3 v (psB n S g 1 2)) ∧ psB n S g 1 0 = 1 ∨ ∀ x, x < 2 → trD S x g (psB n S g)) := by
    have m1 : cR pPB 6 g (psA n S g) := cR_mn a1 (Nat.le_refl _) fun k hk => Or.inl hk
    unfold psB
    by_cases c : psA n S g 1 0 = 1
    · rw [if_pos c]
      obtain ⟨t1, t2⟩ := tlk_D (n := n) (inv_ev iA) (inv_bk iA)
      have e2 : tlkG n (psA n S g) 1 2 = psA n S g 1 2 := cR_at t1 2 (by unfold pQ pBk; omega) (by omega) (by omega) (by omega)
      refine ⟨cR_tr m1 (cR_mn t1 (Nat.le_refl _) fun k hk => by unfold pQ pBk at hk; unfold pPB pP pBk; omega), inv_tlk iA, ?_, e2, ?_⟩
      · rcases t2 with ⟨-, -, x3⟩ | ⟨-, -, x3⟩
        · exact sbK_eq fun k hk => (x3 k hk).trans (eA k hk)
        · exact sbK_p eA x3
      · rcases t2 with ⟨x1, x2, -⟩ | ⟨⟨v, x1⟩, x2, -⟩
        · refine Or.inr fun x hx => ?_
          have z := a2 x hx
          have e : tlkG n (psA n S g) 1 (18 + 20 * x) = psA n S g 1 (18 + 20 * x) := by
            rcases (show x = 0 ∨ x = 1 by omega) with rfl | rfl
            · exact x1
            · exact x2
          unfold trD at z ⊢
          rw [e]; exact z
        · exact Or.inl ⟨⟨v, by rw [e2]; exact x1⟩, x2.trans c⟩
    · rw [if_neg c]
      exact ⟨cR_k m1 (by omega), iA, sbK_eq eA, rfl, Or.inr a2⟩
  obtain ⟨b1, b2, b3, b4, b5⟩ := B1
  unfold pasG
  by_cases c : psB n S g 1 0 = 0 ∧ psB n S g 1 11 = 1
  · rw [if_pos c]
    have d1 := cR_dsw (n := n) (S := S) (f := 0) (by omega) k1 k2 (inv_ev b2)
    obtain ⟨-, -, d2⟩ := dsw_up (n := n) (S := S) (f := 0) (by omega) k1 k2 (inv_ev b2)
    have e2 : dswG 0 n S (psB n S g) 1 2 = psB n S g 1 2 := cR_at d1 2 (by unfold pS; omega) (by omega) (by omega) (by omega)
    refine ⟨cR_k (cR_tr b1 (cR_mn d1 (Nat.le_refl _) fun k hk => by unfold pS at hk; unfold pPB pP pBk; omega)) (by omega), sbK_e b3 (fun k hk => by unfold pBk at hk; exact cR_at d1 k (by unfold pS; omega) (by omega) (by omega) (by omega)), Or.inl ?_⟩
    rw [e2]
    refine ⟨_, _, ?_, d2⟩
    split
    · exact Or.inl rfl
    · exact Or.inr (Or.inr rfl)
  · rw [if_neg c]
    refine ⟨cR_k b1 (by omega), b3, ?_⟩
    rcases b5 with ⟨⟨v, x1⟩, -⟩ | x1
    · exact Or.inl ⟨3, v, Or.inr (Or.inl rfl), x1⟩
    · exact Or.inr x1
end PS
