/-! BACKUPS LIE APART -/
/-- the law's angle -/
def lgA (a b : Int32) : Int32 := if 32 < remI (a - b + 64) 64 then 64 - remI (a - b + 64) 64 else remI (a - b + 64) 64
def agOK (a b : Nat) : Bool := lgA (nI a) (nI b) == agC (nI a) (nI b) && decide (¬ lgA (nI a) (nI b) < 0)
theorem ag_all : ∀ a, a < 64 → ∀ b, b < 64 → agOK a b = true := by decide +kernel
theorem and63 (x : Int32) : ∃ k : Nat, k < 64 ∧ x &&& 63 = nI k := ⟨x.toBitVec.toNat % 64, by omega, pk_and x 6 (by decide)⟩
theorem pt_64 (m o b : Int32) : ∃ k : Nat, k < 64 ∧ ptC m o b = nI k := by
  unfold ptC
  split
  · exact and63 _
  · exact and63 _
theorem lg_pt (m o b m' o' b' : Int32) : lgA (ptC m o b) (ptC m' o' b') = agC (ptC m o b) (ptC m' o' b') ∧ ¬ lgA (ptC m o b) (ptC m' o' b') < 0 := by
  obtain ⟨k, hk, e1⟩ := pt_64 m o b
  obtain ⟨j, hj, e2⟩ := pt_64 m' o' b'
  have z := ag_all k hk j hj
  simp only [agOK, Bool.and_eq_true, beq_iff_eq, decide_eq_true_eq] at z
  rw [e1, e2]
  exact z
/-- the direction of a backup's beam -/
def bD0 (g : Nat → Nat → Int32) (b : Nat) : Int32 := ptC (g 1 15) (g 1 16) (g 1 (103 + 3 * b))
def bD1 (g : Nat → Nat → Int32) (b : Nat) : Int32 := ptC (g 1 35) (g 1 36) (g 1 (103 + 3 * b + 1))
/-- the backups lie apart by d, in descending order -/
def apK (g : Nat → Nat → Int32) (d : Int32) : Prop := ∀ B, g 1 13 = nI B → B ≤ 3 → ∀ c b, c < b → b < B → ¬ lgA (bD0 g b) (bD0 g c) < d ∧ ¬ lgA (bD1 g b) (bD1 g c) < d ∧ ¬ g 1 (103 + 3 * c + 2) < g 1 (103 + 3 * b + 2)
theorem apK_sb {g g' : Nat → Nat → Int32} {d : Int32} (h : apK g d) (hK : bkK g) (s : sbK g g') (e : ∀ k, k = 15 ∨ k = 16 ∨ k = 35 ∨ k = 36 → g' 1 k = g 1 k) : apK g' d := by
  obtain ⟨B, hB, hB3⟩ := hK
  obtain ⟨B', m, h1, h2, h3, h4⟩ := s B hB hB3
  intro B2 hB2 hB23 c b hc hb
  have eB : B2 = B' := nIij (by omega) (by omega) (hB2.symm.trans h2)
  subst eB
  have z := h B hB hB3 (m c) (m b) (h4 c b hc hb) (h3 b hb).1
  have q0 : ∀ x, x < B2 → bD0 g' x = bD0 g (m x) := fun x hx => by
    unfold bD0
    rw [e 15 (by omega), e 16 (by omega), show g' 1 (103 + 3 * x) = g 1 (103 + 3 * m x) from (h3 x hx).2 0 (by omega)]
  have q1 : ∀ x, x < B2 → bD1 g' x = bD1 g (m x) := fun x hx => by
    unfold bD1
    rw [e 35 (by omega), e 36 (by omega), show g' 1 (103 + 3 * x + 1) = g 1 (103 + 3 * m x + 1) from (h3 x hx).2 1 (by omega)]
  rw [q0 b hb, q0 c (by omega), q1 b hb, q1 c (by omega), show g' 1 (103 + 3 * c + 2) = g 1 (103 + 3 * m c + 2) from (h3 c (by omega)).2 2 (by omega), show g' 1 (103 + 3 * b + 2) = g 1 (103 + 3 * m b + 2) from (h3 b hb).2 2 (by omega)]
  exact z
theorem apK_eq {g g' : Nat → Nat → Int32} {d : Int32} (h : apK g d) (hK : bkK g) (e : ∀ k, pBk k ∨ k = 15 ∨ k = 16 ∨ k = 35 ∨ k = 36 → g' 1 k = g 1 k) : apK g' d := apK_sb h hK (sbK_eq fun k hk => e k (Or.inl hk)) fun k hk => e k (Or.inr hk)
/-- nothing is asked of the directions -/
theorem apK_0 {g g' : Nat → Nat → Int32} {d : Int32} (h : apK g d) (e : ∀ k, pBk k → g' 1 k = g 1 k) : apK g' 0 := by
  intro B hB hB3 c b hc hb
  refine ⟨(lg_pt _ _ _ _ _ _).2, (lg_pt _ _ _ _ _ _).2, ?_⟩
  rw [e _ (by unfold pBk; omega), e _ (by unfold pBk; omega)]
  exact (h B ((e 13 (by unfold pBk; omega)).symm.trans hB) hB3 c b hc hb).2.2
/-! a survey -/
section SV
variable {n : Nat} {g : Nat → Nat → Int32} {sep : Int32}
def pN (_ : Nat) : Prop := False
theorem cR_fbS {P : Nat → Prop} {i j : Nat} : cR P 1 g (fbS n g i j) := cR_u0 (cR_snt (x := 4) 4 rfl (by omega)) (by omega)
theorem cR_fbI {P : Nat → Prop} {i : Nat} : ∀ (q j : Nat) {g : Nat → Nat → Int32}, cR P q g (fbI n i q j g)
  | 0, _, _ => cR_rf
  | q + 1, j, g => cR_k (cR_tr (cR_fbS (g := g) (i := i) (j := j)) (cR_fbI q (j + 1) (g := fbS n g i j))) (by omega)
theorem cR_fbO {P : Nat → Prop} {S1 : Nat} : ∀ (r i : Nat) {g : Nat → Nat → Int32}, cR P (S1 * r) g (fbO n S1 r i g)
  | 0, _, _ => cR_rf
  | r + 1, i, g => cR_k (cR_tr (cR_fbI (i := i) S1 0 (g := g)) (cR_fbO r (i + 1) (g := fbI n i S1 0 g))) (by rw [Nat.mul_succ]; omega)
/-- what the search for the best pair tells: none, or a pair that meets the conditions; and no such pair is better -/
def abQ (g : Nat → Nat → Int32) (sep : Int32) (B S0 S1 : Nat) (R : Nat → Nat → Prop) (t : P3) : Prop := -100000 ≤ t.2.2 ∧ (t.2.2 = -100000 ∨ ∃ i j, i < S0 ∧ j < S1 ∧ t.1 = nI i ∧ t.2.1 = nI j ∧ t.2.2 = g 4 (16 * i + j) ∧ ¬ iaT g (nI i) (nI j) sep B = 0) ∧ ∀ i j, R i j → ¬ iaT g (nI i) (nI j) sep B = 0 → g 4 (16 * i + j) ≤ t.2.2
theorem abQ_S {B S0 S1 i j : Nat} {R : Nat → Nat → Prop} {t : P3} (hi : i < S0) (hj : j < S1) (h : abQ g sep B S0 S1 R t) : abQ g sep B S0 S1 (fun a b => R a b ∨ (a = i ∧ b = j)) (if g 4 (16 * i + j) ≤ t.2.2 then t else if iaT g (nI i) (nI j) sep B = 0 then t else (nI i, nI j, g 4 (16 * i + j))) := by
  obtain ⟨h1, h2, h3⟩ := h
  split
  · next c =>
    refine ⟨h1, h2, fun a b hab ha => ?_⟩
    rcases hab with hab | ⟨rfl, rfl⟩
    · exact h3 a b hab ha
    · exact c
  · next c =>
    split
    · next c2 =>
      refine ⟨h1, h2, fun a b hab ha => ?_⟩
      rcases hab with hab | ⟨rfl, rfl⟩
      · exact h3 a b hab ha
      · exact absurd c2 ha
    · next c2 =>
      have c3 : t.2.2 < g 4 (16 * i + j) := Int32.not_le.mp c
      refine ⟨Int32.le_trans h1 (Int32.le_of_lt c3), Or.inr ⟨i, j, hi, hj, rfl, rfl, rfl, c2⟩, fun a b hab ha => ?_⟩
      rcases hab with hab | ⟨rfl, rfl⟩
      · exact Int32.le_trans (h3 a b hab ha) (Int32.le_of_lt c3)
      · exact Int32.le_refl _
theorem abQ_R {B S0 S1 : Nat} {R R' : Nat → Nat → Prop} {t : P3} (hR : ∀ a b, R' a b → R a b) (h : abQ g sep B S0 S1 R t) : abQ g sep B S0 S1 R' t := ⟨h.1, h.2.1, fun a b hab => h.2.2 a b (hR a b hab)⟩
theorem abI_Q {B S0 S1 i : Nat} (hi : i < S0) : ∀ (q j : Nat) {R : Nat → Nat → Prop} {t : P3}, j + q ≤ S1 → abQ g sep B S0 S1 R t → abQ g sep B S0 S1 (fun a b => R a b ∨ (a = i ∧ j ≤ b ∧ b < j + q)) (abI g sep B i q j t)
  | 0, j, R, t, _, h => abQ_R (fun a b z => z.elim id fun z => by omega) h
  | q + 1, j, R, t, hj, h => by
    unfold abI
    refine abQ_R (fun a b z => ?_) (abI_Q hi q (j + 1) (by omega) (abQ_S hi (by omega : j < S1) h))
    rcases z with z | z
    · exact Or.inl (Or.inl z)
    · by_cases c : b = j
      · exact Or.inl (Or.inr ⟨z.1, c⟩)
      · exact Or.inr ⟨z.1, by omega, by omega⟩
theorem abO_Q {B S0 S1 : Nat} : ∀ (r i : Nat) {R : Nat → Nat → Prop} {t : P3}, i + r ≤ S0 → abQ g sep B S0 S1 R t → abQ g sep B S0 S1 (fun a b => R a b ∨ (i ≤ a ∧ a < i + r ∧ b < S1)) (abO g sep B S1 r i t)
  | 0, i, R, t, _, h => abQ_R (fun a b z => z.elim id fun z => by omega) h
  | r + 1, i, R, t, hi, h => by
    unfold abO
    refine abQ_R (fun a b z => ?_) (abO_Q r (i + 1) (by omega) (abI_Q (by omega : i < S0) S1 0 (by omega) h))
    rcases z with z | z
    · exact Or.inl (Or.inl z)
    · by_cases c : a = i
      · exact Or.inl (Or.inr ⟨c, by omega, by omega⟩)
      · exact Or.inr ⟨by omega, by omega, z.2.2⟩
theorem abT_Q {B S0 S1 : Nat} : abQ g sep B S0 S1 (fun a b => a < S0 ∧ b < S1) (abT g sep B S0 S1) :=
  abQ_R (fun a b z => Or.inr ⟨by omega, by omega, z.2⟩) (abO_Q S0 0 (by omega) (R := fun _ _ => False) ⟨Int32.le_refl _, Or.inl rfl, fun _ _ z => z.elim⟩)
theorem iaF_g {i j : Int32} : ∀ (q b : Nat), ¬ iaF g i j sep q b = 0 → ∀ c, b ≤ c → c < b + q → ¬ iFC (g 1 15) (g 1 16) i (g 1 (103 + 3 * c)) sep = 0 ∧ ¬ iFC (g 1 35) (g 1 36) j (g 1 (103 + 3 * c + 1)) sep = 0
  | 0, b, _, c, h1, h2 => by omega
  | q + 1, b, h, c, h1, h2 => by
    unfold iaF at h
    split at h
    · exact absurd rfl h
    · next c1 =>
      split at h
      · exact absurd rfl h
      · next c2 =>
        by_cases e : c = b
        · subst e; exact ⟨c1, c2⟩
        · exact iaF_g q (b + 1) h c (by omega) (by omega)
theorem iaT_B {i j : Int32} {B : Nat} (h : ¬ iaT g i j sep B = 0) : ¬ iaF g i j sep B 0 = 0 := by
  unfold iaT at h
  split at h
  · exact absurd rfl h
  · split at h
    · exact absurd rfl h
    · exact h
/-- a new backup asks more -/
theorem iaF_m {g' : Nat → Nat → Int32} {i j : Int32} : ∀ (q b : Nat), (∀ k, k < 103 + 3 * (b + q) → k ≠ 13 → g' 1 k = g 1 k) → ¬ iaF g' i j sep (q + 1) b = 0 → ¬ iaF g i j sep q b = 0
  | 0, b, _, _ => by unfold iaF; decide
  | q + 1, b, e, h => by
    unfold iaF at h
    rw [e 15 (by omega) (by omega), e 16 (by omega) (by omega), e 35 (by omega) (by omega), e 36 (by omega) (by omega), e (103 + 3 * b) (by omega) (by omega), e (103 + 3 * b + 1) (by omega) (by omega)] at h
    unfold iaF
    split at h
    · exact absurd rfl h
    · next c1 =>
      split at h
      · exact absurd rfl h
      · next c2 =>
        rw [if_neg c1, if_neg c2]
        exact iaF_m q (b + 1) (fun k hk h13 => e k (by omega) h13) h
theorem iaT_m {g' : Nat → Nat → Int32} {i j : Int32} {B : Nat} (e : ∀ k, k < 103 + 3 * B → k ≠ 13 → g' 1 k = g 1 k) (h : ¬ iaT g' i j sep (B + 1) = 0) : ¬ iaT g i j sep B = 0 := by
  unfold iaT at h
  rw [e 15 (by omega) (by omega), e 16 (by omega) (by omega), e 35 (by omega) (by omega), e 36 (by omega) (by omega), e 18 (by omega) (by omega), e 38 (by omega) (by omega)] at h
  unfold iaT
  split at h
  · exact absurd rfl h
  · next c1 =>
    split at h
    · exact absurd rfl h
    · next c2 =>
      rw [if_neg c1, if_neg c2]
      exact iaF_m B 0 (fun k hk h13 => e k (by omega) h13) h
theorem iFC_lg {m o x y : Int32} {sep : Int32} (hy : y ≠ -100000) (h : ¬ iFC m o x y sep = 0) : ¬ lgA (ptC m o x) (ptC m o y) < sep := by
  unfold iFC at h
  rw [if_neg hy] at h
  rw [(lg_pt _ _ _ _ _ _).1]
  split at h
  · exact absurd rfl h
  · next c => exact c
theorem nI_n {i : Nat} (h : i < 100) : nI i ≠ -100000 := nI_nn (by omega)
/-- between two steps of a survey -/
def svK (g : Nat → Nat → Int32) (sep : Int32) (B S0 S1 : Nat) : Prop := g 1 13 = nI B ∧ apK g sep ∧ ∀ c, c < B → ∀ i j, i < S0 → j < S1 → ¬ iaT g (nI i) (nI j) sep B = 0 → g 4 (16 * i + j) ≤ g 1 (103 + 3 * c + 2)
theorem abW_K {B S0 S1 : Nat} {S : Nat → Nat} (h0 : S0 = S 0) (h1 : S1 = S 1) (hi : invK g n S) (hB : B < 3) (h : svK g sep B S0 S1) : invK (abW g sep B S0 S1) n S ∧ cR pBk 0 g (abW g sep B S0 S1) ∧ ((abW g sep B S0 S1 1 13 = nI B ∧ svK (abW g sep B S0 S1) sep B S0 S1) ∨ (abW g sep B S0 S1 1 13 = nI (B + 1) ∧ svK (abW g sep B S0 S1) sep (B + 1) S0 S1)) := by
  subst h0
  subst h1
  obtain ⟨q1, q2, q3⟩ := abT_Q (g := g) (sep := sep) (B := B) (S0 := S 0) (S1 := S 1)
  obtain ⟨e13, k2, k3⟩ := h
  unfold abW
  by_cases c : (abT g sep B (S 0) (S 1)).2.2 = -100000
  · rw [if_pos c]
    exact ⟨hi, cR_rf, Or.inl ⟨e13, e13, k2, k3⟩⟩
  · rw [if_neg c]
    rcases q2 with q2 | ⟨i, j, hi1, hj1, t1, t2, t3, t4⟩
    · exact absurd q2 c
    have hS0 : S 0 ≤ 16 := (inv_sec hi).2.2.2.1
    have hS1 : S 1 ≤ 16 := (inv_sec hi).2.2.2.2.2
    rw [t3] at q3
    rw [t1, t2, t3]
    obtain ⟨w, hw⟩ : ∃ w, w = cs_badd_w B (nI i) (nI j) (g 4 (16 * i + j)) g := ⟨_, rfl⟩
    have hw2 : w = bkG B (nI i) (nI j) (g 4 (16 * i + j)) g := by
      rw [hw]
      unfold cs_badd_w bkG
      rw [ug_ne (by omega), ug_ne (by omega), ug_ne (by omega), e13, nI_1]
    have aw : ∀ a k, ¬ (a = 1 ∧ (k = 13 ∨ (103 + 3 * B ≤ k ∧ k < 106 + 3 * B))) → w a k = g a k := fun a k hk => by
      rw [hw]
      unfold cs_badd_w
      rw [ug_ne (by omega), ug_ne (by omega), ug_ne (by omega), ug_ne (by omega)]
    have w13 : w 1 13 = nI (B + 1) := by
      rw [hw]
      unfold cs_badd_w
      rw [ug_same, ug_ne (by omega), ug_ne (by omega), ug_ne (by omega), e13]
      exact nI_1 B
    have w0 : w 1 (103 + 3 * B) = nI i := by
      rw [hw]
      unfold cs_badd_w
      rw [ug_ne (by omega), ug_ne (by omega), ug_ne (by omega), ug_same]
    have w1 : w 1 (103 + 3 * B + 1) = nI j := by
      rw [hw]
      unfold cs_badd_w
      rw [ug_ne (by omega), ug_ne (by omega), ug_same]
    have w2 : w 1 (103 + 3 * B + 2) = g 4 (16 * i + j) := by
      rw [hw]
      unfold cs_badd_w
      rw [ug_ne (by omega), ug_same]
    rw [← hw]
    have it := iaT_B t4
    have ob := hi.2.2.2.2.2.2.2.2.2 B e13
    refine ⟨by rw [hw2]; exact inv_bkG hi hB e13 hi1 hj1, ⟨0, 0, by omega, by omega, by omega, (aw 1 3 (by omega)).trans aI_0.symm, (aw 1 4 (by omega)).trans aI_0.symm, fun k hk _ _ _ => aw 1 k (by unfold pBk at hk; omega)⟩, Or.inr ⟨w13, w13, ?_, ?_⟩⟩
    · intro B2 hB2 hB23 c2 b hc hb
      have eB : B2 = B + 1 := nIij (by omega) (by omega) (hB2.symm.trans w13)
      subst eB
      have d0 : ∀ x, x < B → bD0 w x = bD0 g x := fun x hx => by
        unfold bD0
        rw [aw 1 15 (by omega), aw 1 16 (by omega), aw 1 _ (by omega)]
      have d1 : ∀ x, x < B → bD1 w x = bD1 g x := fun x hx => by
        unfold bD1
        rw [aw 1 35 (by omega), aw 1 36 (by omega), aw 1 _ (by omega)]
      by_cases cb : b = B
      · subst cb
        obtain ⟨f1, f2⟩ := iaF_g b 0 it c2 (by omega) (by omega)
        obtain ⟨⟨x, hx, ex⟩, ⟨y, hy, ey⟩⟩ := ob c2 hc (by omega)
        have g0 : bD0 w b = ptC (g 1 15) (g 1 16) (nI i) := by
          unfold bD0
          rw [aw 1 15 (by omega), aw 1 16 (by omega), w0]
        have g1 : bD1 w b = ptC (g 1 35) (g 1 36) (nI j) := by
          unfold bD1
          rw [aw 1 35 (by omega), aw 1 36 (by omega), w1]
        rw [g0, g1, d0 c2 hc, d1 c2 hc, w2, aw 1 _ (by omega)]
        refine ⟨iFC_lg (by rw [ex]; exact nI_n (by omega)) f1, iFC_lg (by rw [ey]; exact nI_n (by omega)) f2, ?_⟩
        exact Int32.not_lt.mpr (k3 c2 hc i j hi1 hj1 t4)
      · rw [d0 b (by omega), d0 c2 (by omega), d1 b (by omega), d1 c2 (by omega), aw 1 _ (by omega), aw 1 _ (by omega)]
        exact k2 B e13 (by omega) c2 b hc (by omega)
    · intro c2 hc a b ha hb hab
      have ho := iaT_m (g := g) (g' := w) (B := B) (fun k hk h13 => aw 1 k (by omega)) hab
      rw [aw 4 _ (by omega)]
      by_cases cb : c2 = B
      · subst cb
        rw [w2]
        exact q3 a b ⟨ha, hb⟩ ho
      · rw [aw 1 _ (by omega)]
        exact k3 c2 (by omega) a b ha hb ho
theorem abV_K {B S0 S1 : Nat} {S : Nat → Nat} (h0 : S0 = S 0) (h1 : S1 = S 1) (hi : invK g n S) (hB : B < 3) (h : svK g sep B S0 S1) : ∃ B', B' ≤ B + 1 ∧ invK (abV g sep S0 S1) n S ∧ cR pBk 0 g (abV g sep S0 S1) ∧ svK (abV g sep S0 S1) sep B' S0 S1 := by
  have e : abV g sep S0 S1 = abW g sep B S0 S1 := by
    unfold abV
    rw [h.1, nI_clamp (by omega)]
  rw [e]
  obtain ⟨a1, a2, a3⟩ := abW_K h0 h1 hi hB h
  rcases a3 with ⟨-, a3⟩ | ⟨-, a3⟩
  · exact ⟨B, by omega, a1, a2, a3⟩
  · exact ⟨B + 1, by omega, a1, a2, a3⟩
/-- after a survey the backups lie apart by its separation, in descending order -/
theorem fbW_K {S : Nat → Nat} (hi : invK g n S) : invK (fbW n (S 0) (S 1) sep g) n S ∧ cR pBk 256 g (fbW n (S 0) (S 1) sep g) ∧ apK (fbW n (S 0) (S 1) sep g) sep := by
  have hS0 : S 0 ≤ 16 := (inv_sec hi).2.2.2.1
  have hS1 : S 1 ≤ 16 := (inv_sec hi).2.2.2.2.2
  have hm : S 1 * S 0 ≤ 256 := Nat.le_trans (Nat.mul_le_mul hS1 hS0) (by omega)
  have c0 : cR pBk 256 g (ug (fbO n (S 1) (S 0) 0 g) 1 13 0) := cR_ug (cR_k (cR_fbO (S 0) 0) hm) (Or.inl rfl) (by omega) (by omega)
  have i0 : invK (ug (fbO n (S 1) (S 0) 0 g) 1 13 0) n S := inv_b0 (inv_fbO (S 0) 0 hi)
  have s0 : svK (ug (fbO n (S 1) (S 0) 0 g) 1 13 0) sep 0 (S 0) (S 1) := ⟨ug_same, fun B hB hB3 c b hc hb => by
    have z : B = 0 := nIij (by omega) (by omega) (hB.symm.trans ug_same)
    omega, fun c hc => by omega⟩
  obtain ⟨B1, hB1, i1, c1, s1⟩ := abV_K rfl rfl i0 (by omega) s0
  obtain ⟨B2, hB2, i2, c2, s2⟩ := abV_K rfl rfl i1 (by omega) s1
  obtain ⟨B3, hB3, i3, c3, s3⟩ := abV_K rfl rfl i2 (by omega) s2
  unfold fbW
  exact ⟨i3, cR_tr (cR_tr (cR_tr c0 c1) c2) c3, s3.2.1⟩
end SV
