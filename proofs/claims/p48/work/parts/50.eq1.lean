/-! the threshold is in its range -/
def thrK (g : Nat → Nat → Int32) : Prop := -200 ≤ g 1 6
theorem thr_at {g g' : Nat → Nat → Int32} (h : thrK g) (e : g' 1 6 = g 1 6) : thrK g' := by
  unfold thrK
  rw [e]
  exact h
theorem trn_f {g : Nat → Nat → Int32} {fr n : Nat} {b0 b1 : Int32} (h : hrdG g fr b0 b1 n = false) : trnG g fr b0 b1 n = -100000 := by
  unfold trnG
  exact if_neg (by rw [h]; exact Bool.noConfusion)
theorem trn_t {g : Nat → Nat → Int32} {fr n : Nat} {b0 b1 : Int32} (h : hrdG g fr b0 b1 n = true) : trnG g fr b0 b1 n = msrG g fr b0 b1 n := by
  unfold trnG
  exact if_pos h
theorem trn_gt {g : Nat → Nat → Int32} {fr n : Nat} {b0 b1 : Int32} (hT : thrK g) (h : hrdG g fr b0 b1 n = true) : -100000 < msrG g fr b0 b1 n := by
  by_cases h0 : n = 0
  · rw [hrd_0 h0] at h
    cases h
  · rw [hrd_1 h0] at h
    have h1 := of_decide_eq_true h
    unfold thrK at hT
    rw [Int32.not_lt] at h1
    exact Int32.lt_of_lt_of_le (show (-100000 : Int32) < -200 by decide) (Int32.le_trans hT h1)
theorem i32_ne {x y : Int32} (h : x < y) : ¬ y = x := fun e => by
  rw [e] at h
  exact Int32.lt_irrefl h
theorem trn_none {g : Nat → Nat → Int32} {fr n : Nat} {b0 b1 : Int32} (hT : thrK g) : trnG g fr b0 b1 n = -100000 ↔ hrdG g fr b0 b1 n = false := by
  cases h : hrdG g fr b0 b1 n
  · exact ⟨fun _ => rfl, fun _ => trn_f h⟩
  · rw [trn_t h]
    exact ⟨fun z => absurd z (i32_ne (trn_gt hT h)), fun z => by cases z⟩
theorem trk_tree {α : Type} {h1 h2 h3 : Bool} {p a b y A B Q : Int32} {X L U : α} (hQ : Q = if h1 = true then p else -100000) (hA : A = if h2 = true then a else -100000) (hB : B = if h3 = true then b else -100000) (n1 : h1 = true → -100000 < p) (n2 : h2 = true → -100000 < a) (n3 : h3 = true → -100000 < b) :
    (if B ≤ A then (if A = -100000 then X else if Q = -100000 then L else if A < Q + y then X else L) else (if B = -100000 then X else if Q = -100000 then U else if B < Q + y then X else U)) =
    (if h2 = false ∧ h3 = false then X else if h3 = true ∧ (h2 = false ∨ ¬ b ≤ a) then (if h1 = false ∨ ¬ b < p + y then U else X) else (if h1 = false ∨ ¬ a < p + y then L else X)) := by
  subst hQ hA hB
  cases h1 <;> cases h2 <;> cases h3
  all_goals simp only [Bool.false_eq_true, if_false, if_true, false_and, and_false, true_and, and_self, true_or, or_true, false_or, or_false, ↓reduceIte, reduceCtorEq, Int32.le_refl]
  · rw [if_neg (Int32.not_le.mpr (n3 rfl)), if_neg (i32_ne (n3 rfl))]
  · rw [if_pos (Int32.le_of_lt (n2 rfl)), if_neg (i32_ne (n2 rfl))]
  · by_cases c : b ≤ a
    · rw [if_pos c, if_neg (i32_ne (n2 rfl)), if_neg (fun z => z c)]
    · rw [if_neg c, if_neg (i32_ne (n3 rfl)), if_pos c]
  · rw [if_neg (Int32.not_le.mpr (n3 rfl)), if_neg (i32_ne (n3 rfl)), if_neg (i32_ne (n1 rfl))]
    by_cases c : b < p + y
    · rw [if_pos c, if_neg (fun z => z c)]
    · rw [if_neg c, if_pos c]
  · rw [if_pos (Int32.le_of_lt (n2 rfl)), if_neg (i32_ne (n2 rfl)), if_neg (i32_ne (n1 rfl))]
    by_cases c : a < p + y
    · rw [if_pos c, if_neg (fun z => z c)]
    · rw [if_neg c, if_pos c]
  · by_cases c : b ≤ a
    · rw [if_pos c, if_neg (i32_ne (n2 rfl)), if_neg (i32_ne (n1 rfl)), if_neg (show ¬ ¬ b ≤ a from fun z => z c)]
      by_cases c2 : a < p + y
      · rw [if_pos c2, if_neg (fun z => z c2)]
      · rw [if_neg c2, if_pos c2]
    · rw [if_neg c, if_neg (i32_ne (n3 rfl)), if_neg (i32_ne (n1 rfl)), if_pos c]
      by_cases c2 : b < p + y
      · rw [if_pos c2, if_neg (fun z => z c2)]
      · rw [if_neg c2, if_pos c2]
/-- a beam that a station has -/
def bmK (S : Nat) (x : Int32) : Prop := ∃ b : Nat, b < 6 * S ∧ x = nI b
theorem ne_all : ∀ S, S < 17 → ∀ b, b < 96 → (2 ≤ S → b < 6 * S → neC (nI S) (nI b) (-1) = nbrI (nI S) (nI b) (-1) ∧ neC (nI S) (nI b) 1 = nbrI (nI S) (nI b) 1) := by decide +kernel
theorem ne_C {S : Nat} {x : Int32} (h : bmK S x) (h1 : 2 ≤ S) (h2 : S ≤ 16) : neC (nI S) x (-1) = nbrI (nI S) x (-1) ∧ neC (nI S) x 1 = nbrI (nI S) x 1 := by
  obtain ⟨b, h3, rfl⟩ := h
  exact ne_all S (by omega) b (by omega) h1 h3
theorem kf_6 {g g' : Nat → Nat → Int32} (h : keptF g g') : g' 1 6 = g 1 6 := h 6 (by unfold frK; omega)
theorem trk_C0 {n : Nat} {S : Nat → Nat} {g : Nat → Nat → Int32} (hS : secK g S) (hT : thrK g) (hb : bmK (S 0) (g 1 18)) : cs_trackBeam0_w n g = trkG 0 n S g := by
  obtain ⟨q0, q1, q2, q3, q4, q5⟩ := hS
  have hn := ne_C hb q2 q3
  have e1 : cs_trackBeam0_v1 n g = tr1 0 n g := (tr1_eq0 n S g).symm
  have e2 : cs_trackBeam0_v2 n g = tr2 0 n S g := by
    unfold cs_trackBeam0_v2
    rw [tr2_eq0, e1, q0, hn.1]
  have e3 : cs_trackBeam0_v3 n g = tr3 0 n S g := by
    unfold cs_trackBeam0_v3
    rw [tr3_eq0, e2, q0, hn.2]
  have m1 : tr1 0 n g 0 5 = msrG g 0 (g 1 18) (g 1 38) n := by
    rw [tr1_eq0 n S g]
    exact ug_same
  have m2 : tr2 0 n S g 0 5 = msrG (tr1 0 n g) 0 (nbrI (nI (S 0)) (g 1 18) (-1)) (g 1 38) n := by
    rw [tr2_eq0 n S g]
    exact ug_same
  have m3 : tr3 0 n S g 0 5 = msrG (tr2 0 n S g) 0 (nbrI (nI (S 0)) (g 1 18) 1) (g 1 38) n := by
    rw [tr3_eq0 n S g]
    exact ug_same
  have t1 : thrK (tr1 0 n g) := thr_at hT (kf_6 (by rw [tr1_eq0 n S g]; exact kf_snt (kf_rf g)))
  have t2 : thrK (tr2 0 n S g) := thr_at t1 (kf_6 (by rw [tr2_eq0 n S g]; exact kf_snt (kf_rf _)))
  unfold cs_trackBeam0_w cs_trackBeam0_v4 cs_trackBeam0_v5 cs_trackBeam0_v6 cs_trackBeam0_v7 trkG trlo
  rw [e1, e2, e3, q0, hn.1, hn.2, m1, m2, m3, trh1_eq0 n S g, trh2_eq0 n S g, trh3_eq0 n S g]
  exact trk_tree rfl rfl rfl (trn_gt hT) (trn_gt t1) (trn_gt t2)
theorem trk_C1 {n : Nat} {S : Nat → Nat} {g : Nat → Nat → Int32} (hS : secK g S) (hT : thrK g) (hb : bmK (S 1) (g 1 38)) : cs_trackBeam1_w n g = trkG 1 n S g := by
  obtain ⟨q0, q1, q2, q3, q4, q5⟩ := hS
  have hn := ne_C hb q4 q5
  have e1 : cs_trackBeam1_v1 n g = tr1 1 n g := (tr1_eq1 n S g).symm
  have e2 : cs_trackBeam1_v2 n g = tr2 1 n S g := by
    unfold cs_trackBeam1_v2
    rw [tr2_eq1, e1, q1, hn.1]
  have e3 : cs_trackBeam1_v3 n g = tr3 1 n S g := by
    unfold cs_trackBeam1_v3
    rw [tr3_eq1, e2, q1, hn.2]
  have m1 : tr1 1 n g 0 5 = msrG g 1 (g 1 18) (g 1 38) n := by
    rw [tr1_eq1 n S g]
    exact ug_same
  have m2 : tr2 1 n S g 0 5 = msrG (tr1 1 n g) 1 (g 1 18) (nbrI (nI (S 1)) (g 1 38) (-1)) n := by
    rw [tr2_eq1 n S g]
    exact ug_same
  have m3 : tr3 1 n S g 0 5 = msrG (tr2 1 n S g) 1 (g 1 18) (nbrI (nI (S 1)) (g 1 38) 1) n := by
    rw [tr3_eq1 n S g]
    exact ug_same
  have t1 : thrK (tr1 1 n g) := thr_at hT (kf_6 (by rw [tr1_eq1 n S g]; exact kf_snt (kf_rf g)))
  have t2 : thrK (tr2 1 n S g) := thr_at t1 (kf_6 (by rw [tr2_eq1 n S g]; exact kf_snt (kf_rf _)))
  unfold cs_trackBeam1_w cs_trackBeam1_v4 cs_trackBeam1_v5 cs_trackBeam1_v6 cs_trackBeam1_v7 trkG trlo
  rw [e1, e2, e3, q1, hn.1, hn.2, m1, m2, m3, trh1_eq1 n S g, trh2_eq1 n S g, trh3_eq1 n S g]
  exact trk_tree rfl rfl rfl (trn_gt hT) (trn_gt t1) (trn_gt t2)
theorem thr_snt {g : Nat → Nat → Int32} {fr n : Nat} {b0 b1 t : Int32} (h : thrK g) : thrK (sntG g fr b0 b1 t n) := thr_at h (kf_6 (kf_snt (kf_rf g)))
theorem rc_C {n : Nat} : ∀ (m b : Nat) (g : Nat → Nat → Int32), thrK g → rcC n m b g = rcF n m b g
  | 0, b, g, _ => rfl
  | m + 1, b, g, h => by
    unfold rcC rcF
    rw [rc_C m (b + 1) _ (show thrK (rcS n b g) from thr_snt h)]
    by_cases c : hrdG g 0 (g 1 (103 + 3 * b)) (g 1 (103 + 3 * b + 1)) n = true
    · rw [if_pos c, if_neg]
      rw [trn_none h, c]
      exact Bool.noConfusion
    · rw [if_neg c, if_pos]
      rw [trn_none h]
      simpa using c
theorem xc_C {n : Nat} {g : Nat → Nat → Int32} (hT : thrK g) (hP : 0 < g 1 10) : cs_exchange_w n g = tlkG n g := by
  have t1 : thrK (tk1 n g) := thr_snt hT
  have t2 : thrK (tk2 n g) := thr_snt t1
  have e1 : cs_exchange_v1 n g = tk1 n g := rfl
  have e2 : cs_exchange_v2 n g = tk2 n g := rfl
  have e5 : cs_exchange_v5 n g = tk2 n g := rfl
  have hR : ∀ x, (if tk2 n g 1 1 + 1 < tk2 n g 1 10 then ug (tk2 n g) 1 1 (tk2 n g 1 1 + 1) else rcC n ((ug (ug (tk2 n g) 1 1 (tk2 n g 1 1 + 1)) 1 1 0) 1 13).toNatClampNeg 0 (ug (ug (tk2 n g) 1 1 (tk2 n g 1 1 + 1)) 1 1 0)) = (if tka n g = true ∧ tkb n g = true then x else tkR n g) ∨ (tka n g = true ∧ tkb n g = true) := fun x => by
    by_cases c : tka n g = true ∧ tkb n g = true
    · exact Or.inr c
    · refine Or.inl ?_
      rw [if_neg c]
      unfold tkR
      rw [rc_C _ _ _ (thr_at t2 ((ug_ne (by omega)).trans (ug_ne (by omega)))), show (ug (ug (tk2 n g) 1 1 (tk2 n g 1 1 + 1)) 1 1 0) 1 13 = (ug (tk2 n g) 1 1 (tk2 n g 1 1 + 1)) 1 13 from ug_ne (by omega)]
  have k10 : tk2 n g 1 10 = g 1 10 := kf_tk2 10 (by unfold frK; omega)
  unfold cs_exchange_w cs_exchange_v3 cs_exchange_v4 cs_exchange_v6 cs_exchange_v7 tlkG
  rw [e1, e2, e5]
  by_cases a : hrdG g 0 (g 1 18) (g 1 38) n = true
  · by_cases b : hrdG (tk1 n g) 1 (tk1 n g 1 18) (tk1 n g 1 38) n = true
    · rw [if_neg (by rw [trn_none hT, a]; exact Bool.noConfusion), if_neg (by rw [trn_none t1, b]; exact Bool.noConfusion), if_pos (by rw [k10]; exact hP), if_pos (show tka n g = true ∧ tkb n g = true from ⟨a, b⟩)]
    · have b' : hrdG (tk1 n g) 1 (tk1 n g 1 18) (tk1 n g 1 38) n = false := by simpa using b
      rw [if_neg (by rw [trn_none hT, a]; exact Bool.noConfusion), if_pos ((trn_none t1).mpr b')]
      exact (hR _).resolve_right (fun z => b z.2)
  · have a' : hrdG g 0 (g 1 18) (g 1 38) n = false := by simpa using a
    rw [if_pos ((trn_none hT).mpr a')]
    split
    · exact (hR _).resolve_right (fun z => a z.1)
    · exact (hR _).resolve_right (fun z => a z.1)
