/-! LEVELS: their ranges and their powers -/
theorem z_tdiv (v : Int) : v - v.tdiv 64 * 64 = v.tmod 64 := by
  have := Int.tmod_add_tdiv_mul v 64
  omega
theorem z_tmod (v : Int) : -64 < v.tmod 64 ∧ v.tmod 64 < 64 ∧ (v.tmod 64) % 64 = v % 64 := by
  have h1 := Int.tmod_lt_of_pos v (show (0 : Int) < 64 by omega)
  have h2 := Int.lt_tmod_of_pos v (show (0 : Int) < 64 by omega)
  refine ⟨by omega, h1, ?_⟩
  have := Int.tmod_add_tdiv_mul v 64
  omega
theorem z_rng (x : Int32) : -2147483648 ≤ x.toInt ∧ x.toInt < 2147483648 := ⟨Int32.le_toInt x, Int32.toInt_lt x⟩
theorem z_rem (x : Int32) : (remI x 64).toInt = x.toInt.tmod 64 := by
  have hx := z_rng x
  have h2 := z_tmod x.toInt
  have h3 := z_tdiv x.toInt
  have hd : (x / 64).toInt = x.toInt.tdiv 64 := by
    rw [Int32.toInt_div, show (64 : Int32).toInt = 64 from rfl, Int.bmod_def]
    omega
  unfold remI
  rw [Int32.toInt_sub, Int32.toInt_mul, hd, show (64 : Int32).toInt = 64 from rfl, Int.bmod_def, Int.bmod_def]
  omega
theorem z_ar (x : Int32) : (arI x 64).toInt = x.toInt % 64 := by
  have h1 := z_rem x
  have h2 := z_tmod x.toInt
  have h3 : (remI x 64 + 64).toInt = x.toInt.tmod 64 + 64 := by
    rw [Int32.toInt_add, h1, show (64 : Int32).toInt = 64 from rfl, Int.bmod_def]
    omega
  unfold arI
  rw [z_rem, h3]
  have h4 := z_tmod (x.toInt.tmod 64 + 64)
  have h5 := Int.tmod_add_tdiv_mul (x.toInt.tmod 64 + 64) 64
  have h6 : 0 ≤ (x.toInt.tmod 64 + 64).tmod 64 := Int.tmod_nonneg _ (by omega)
  omega
theorem ang_n (a b : Int32) : ∃ d : Nat, d < 33 ∧ angI a b = nI d := by
  have h := z_ar (a - b)
  have hm : 0 ≤ (a - b).toInt % 64 ∧ (a - b).toInt % 64 < 64 := by omega
  have k : 0 ≤ (angI a b).toInt ∧ (angI a b).toInt ≤ 32 := by
    unfold angI
    by_cases c : arI (a - b) 64 ≤ 32
    · rw [if_pos c]
      rw [Int32.le_iff_toInt_le, show (32 : Int32).toInt = 32 from rfl] at c
      omega
    · rw [if_neg c]
      rw [Int32.le_iff_toInt_le, show (32 : Int32).toInt = 32 from rfl] at c
      rw [Int32.toInt_sub, show (64 : Int32).toInt = 64 from rfl, Int.bmod_def]
      omega
  refine ⟨(angI a b).toInt.toNat, by omega, Int32.toInt_inj.mp ?_⟩
  rw [nI_toInt (by omega)]
  omega
theorem gn_all : ∀ d, d < 33 → (48 - 3 * nI d * nI d).toInt ≤ 48 ∧ (36 - nI d * nI d).toInt ≤ 48 := by decide
theorem ga_r (many o beam t : Int32) : -40 ≤ (gaI many o beam t).toInt ∧ (gaI many o beam t).toInt ≤ 48 := by
  obtain ⟨d, hd, e⟩ := ang_n (ptI many o beam) t
  obtain ⟨k1, k2⟩ := gn_all d hd
  have e2 : gaI many o beam t = (if beam = -1 then 0 else if -40 ≤ (if many ≤ beam then 48 - 3 * nI d * nI d else 36 - nI d * nI d) then (if many ≤ beam then 48 - 3 * nI d * nI d else 36 - nI d * nI d) else -40) := by
    unfold gaI
    rw [e]
  rw [e2]
  have hq : (if many ≤ beam then 48 - 3 * nI d * nI d else 36 - nI d * nI d).toInt ≤ 48 := by
    split
    · exact k1
    · exact k2
  generalize (if many ≤ beam then 48 - 3 * nI d * nI d else 36 - nI d * nI d) = q at hq
  by_cases c1 : beam = -1
  · rw [if_pos c1]
    decide
  · rw [if_neg c1]
    by_cases c2 : -40 ≤ q
    · rw [if_pos c2]
      rw [Int32.le_iff_toInt_le, show (-40 : Int32).toInt = -40 from rfl] at c2
      exact ⟨c2, hq⟩
    · rw [if_neg c2]
      decide
theorem lev_b {P G0 G1 L E : Int32} (h1 : 0 ≤ P.toInt ∧ P.toInt ≤ 100) (h2 : -40 ≤ G0.toInt ∧ G0.toInt ≤ 48) (h3 : -40 ≤ G1.toInt ∧ G1.toInt ≤ 48) (h4 : 0 ≤ L.toInt ∧ L.toInt ≤ 300) (h5 : 0 ≤ E.toInt ∧ E.toInt ≤ 200) : -580 ≤ (P + G0 + G1 - L - E).toInt ∧ (P + G0 + G1 - L - E).toInt ≤ 196 := by
  have a1 : (P + G0).toInt = P.toInt + G0.toInt := by
    rw [Int32.toInt_add, Int.bmod_def]
    omega
  have a2 : (P + G0 + G1).toInt = P.toInt + G0.toInt + G1.toInt := by
    rw [Int32.toInt_add, a1, Int.bmod_def]
    omega
  have a3 : (P + G0 + G1 - L).toInt = P.toInt + G0.toInt + G1.toInt - L.toInt := by
    rw [Int32.toInt_sub, a2, Int.bmod_def]
    omega
  have a4 : (P + G0 + G1 - L - E).toInt = P.toInt + G0.toInt + G1.toInt - L.toInt - E.toInt := by
    rw [Int32.toInt_sub, a3, Int.bmod_def]
    omega
  omega
theorem n7 {i : Nat} (h : i ≤ 1100) : (nI i - 700).toInt = (i : Int) - 700 := by
  rw [Int32.toInt_sub, nI_toInt (by omega), show (700 : Int32).toInt = 700 from rfl, Int.bmod_def]
  omega
theorem n7_of {x : Int32} (h1 : -700 ≤ x.toInt) (h2 : x.toInt ≤ 400) : x = nI (x.toInt + 700).toNat - 700 := by
  refine Int32.toInt_inj.mp ?_
  rw [n7 (by omega)]
  omega
/-! the bits of a level's power -/
theorem hlf_u : pF 1056964608 ∧ uF 1056964608 = 2 ^ 148 := ⟨by unfold pF; decide, by decide +kernel⟩
theorem hlf_F {a : UInt32} (h1 : 16777216 ≤ a.toNat) (h2 : a.toNat < 2139095040) : (FP.fmul a 1056964608).toNat = a.toNat - 8388608 := by
  obtain ⟨n, e, k1, k2, k3⟩ := mu_rr (show pF a by unfold pF; omega) hlf_u.1
  have hq : FP.Core.b32.qmin = -149 := FP.Core.qmin_b32
  have hp : (FP.Core.b32.qmin - 2 * FP.Core.b32.qmin).toNat = 149 := by rw [hq]; rfl
  have hd : uF a = 2 * FP.Core.unitsOf FP.Core.b32 (a.toNat - 8388608) := by
    have z := uo_dbl (n := a.toNat - 8388608) (by omega)
    rw [show a.toNat - 8388608 + 8388608 = a.toNat by omega] at z
    exact z
  have hu : FP.Core.inUnits n e (2 * FP.Core.b32.qmin) = FP.Core.unitsOf FP.Core.b32 (a.toNat - 8388608) * 2 ^ (FP.Core.b32.qmin - 2 * FP.Core.b32.qmin).toNat * 1 := by
    rw [k3, hp, hd, hlf_u.2, Nat.mul_one, Nat.mul_comm 2, Nat.mul_assoc]
  have z1 := rr_le (V := a.toNat - 8388608) k1 (by decide) (by rw [hq]; omega) k2 (Nat.le_of_eq hu)
  have z2 := rr_ge (V := a.toNat - 8388608) k1 (by decide) (by rw [hq]; omega) k2 (by omega) (Nat.le_of_eq hu.symm)
  omega
theorem pt_r : ∀ p, p < 12 → 1065353216 ≤ (partT p).toNat ∧ (partT p).toNat < 1073741824 := by decide
theorem pt_s : ∀ p, p < 11 → (partT p).toNat < (partT (p + 1)).toNat := by decide
theorem dbN {q : Nat} (h : q < 12) : ∀ n, n ≤ 60 → (dblN (partT q) n).toNat = (partT q).toNat + n * 8388608 := by
  have hr := pt_r q h
  intro n
  induction n with
  | zero => exact fun _ => by rw [Nat.zero_mul]; rfl
  | succ n ih =>
    intro hn
    have z := ih (by omega)
    show (FP.fmul (dblN (partT q) n) FP.fconst2).toNat = _
    rw [dbl_F (by omega) (by omega), z]
    omega
theorem hlN {q : Nat} (h : q < 12) : ∀ n, n ≤ 60 → (hlfN (partT q) n).toNat = (partT q).toNat - n * 8388608 := by
  have hr := pt_r q h
  intro n
  induction n with
  | zero => exact fun _ => by rw [Nat.zero_mul]; rfl
  | succ n ih =>
    intro hn
    have z := ih (by omega)
    show (FP.fmul (hlfN (partT q) n) 1056964608).toNat = _
    rw [hlf_F (by omega) (by omega), z]
    omega
def chkZ (k : Nat) : Bool := ((arI (nI k - 700) 12).toNatClampNeg == (k + 8) % 12) && (if 59 ≤ (k + 8) / 12 then decide (0 ≤ ((nI k - 700) - arI (nI k - 700) 12) / 12) && (((nI k - 700) - arI (nI k - 700) 12) / 12).toNatClampNeg == (k + 8) / 12 - 59 else !decide (0 ≤ ((nI k - 700) - arI (nI k - 700) 12) / 12) && (-(((nI k - 700) - arI (nI k - 700) 12) / 12)).toNatClampNeg == 59 - (k + 8) / 12)
theorem chkZ_all : ∀ k, k < 1101 → chkZ k = true := by decide +kernel
def pB9 (k : Nat) : Nat := (powF (nI k - 700)).toNat
theorem pB9_eq {k : Nat} (h : k ≤ 1100) : pB9 k + 494927872 = (partT ((k + 8) % 12)).toNat + (k + 8) / 12 * 8388608 := by
  have c := chkZ_all k (by omega)
  have hr := pt_r ((k + 8) % 12) (by omega)
  unfold chkZ at c
  rw [Bool.and_eq_true, beq_iff_eq] at c
  obtain ⟨c1, c2⟩ := c
  unfold pB9 powF
  rw [c1]
  by_cases h0 : 59 ≤ (k + 8) / 12
  · rw [if_pos h0, Bool.and_eq_true, beq_iff_eq, decide_eq_true_iff] at c2
    rw [if_pos c2.1, c2.2, dbN (by omega) _ (by omega)]
    omega
  · rw [if_neg h0, Bool.and_eq_true, beq_iff_eq, Bool.not_eq_true', decide_eq_false_iff_not] at c2
    rw [if_neg c2.1, c2.2, hlN (by omega) _ (by omega)]
    omega
theorem pB9_st {k : Nat} (h : k < 1100) : pB9 k < pB9 (k + 1) := by
  have e1 := pB9_eq (k := k) (by omega)
  have e2 := pB9_eq (k := k + 1) (by omega)
  by_cases c : (k + 8) % 12 < 11
  · have z := pt_s ((k + 8) % 12) c
    rw [show (k + 1 + 8) % 12 = (k + 8) % 12 + 1 by omega, show (k + 1 + 8) / 12 = (k + 8) / 12 by omega] at e2
    omega
  · have z1 := pt_r 11 (by omega)
    have z2 := pt_r 0 (by omega)
    rw [show (k + 8) % 12 = 11 by omega] at e1
    rw [show (k + 1 + 8) % 12 = 0 by omega, show (k + 1 + 8) / 12 = (k + 8) / 12 + 1 by omega] at e2
    omega
theorem pB9_top : pB9 1100 < 2139095040 := by
  have e := pB9_eq (k := 1100) (by omega)
  have z := pt_r ((1100 + 8) % 12) (by omega)
  omega
theorem pB9_lt {i : Nat} : ∀ j : Nat, i + j < 1100 → pB9 i < pB9 (i + j + 1) := by
  intro j
  induction j with
  | zero => exact fun h => pB9_st (k := i) h
  | succ j ih => exact fun h => Nat.lt_trans (ih (by omega)) (pB9_st (k := i + (j + 1)) h)
theorem pB9_le {i j : Nat} (h : i ≤ j) (hj : j ≤ 1100) : pB9 i ≤ pB9 j := by
  by_cases c : i = j
  · subst c
    exact Nat.le_refl _
  · have z := pB9_lt (i := i) (j - i - 1) (by omega)
    rw [show i + (j - i - 1) + 1 = j by omega] at z
    exact Nat.le_of_lt z
theorem pB9_pF {k : Nat} (h : k ≤ 1100) : pF (powF (nI k - 700)) := Nat.lt_of_le_of_lt (pB9_le h (Nat.le_refl _)) pB9_top
theorem pB9_896 : uF (powF (nI 896 - 700)) ≤ 1 * 2 ^ 166 := by decide +kernel
theorem pB9_1084 : 8 * 2 ^ 166 < uF (powF (nI 1084 - 700)) := by decide +kernel
/-- the levels of all paths lie between -580 and 196 -/
def lvB (g : Nat → Nat → Int32) (fr : Nat) (b0 b1 : Int32) (n : Nat) : Prop := n ≤ 8 ∧ ∀ p, p < n → ∃ k : Nat, 120 ≤ k ∧ k ≤ 896 ∧ levG g fr b0 b1 p = nI k - 700
theorem rec_F {g : Nat → Nat → Int32} {fr n : Nat} {b0 b1 : Int32} (h : lvB g fr b0 b1 n) : ∀ q, q ≤ n → pF (recG g fr b0 b1 q) ∧ uF (recG g fr b0 b1 q) ≤ q * 2 ^ 166 ∧ (0 < q → pB9 120 ≤ (recG g fr b0 b1 q).toNat) := by
  intro q
  induction q with
  | zero => exact fun _ => ⟨fc0_F.1, by rw [show uF (recG g fr b0 b1 0) = 0 from fc0_F.2, Nat.zero_mul]; exact Nat.le_refl _, fun z => absurd z (Nat.lt_irrefl _)⟩
  | succ q ih =>
    intro hq
    obtain ⟨k1, k2, -⟩ := ih (by omega)
    obtain ⟨k, h1, h2, h3⟩ := h.2 q hq
    have h8 := h.1
    have hp : pF (powF (levG g fr b0 b1 q)) := by
      rw [h3]
      exact pB9_pF (by omega)
    have hu : uF (powF (levG g fr b0 b1 q)) ≤ 1 * 2 ^ 166 := by
      rw [h3]
      exact Nat.le_trans (uF_le.mpr (pB9_le h2 (by omega))) pB9_896
    obtain ⟨e1, e2, e3, e4⟩ := ad_c k1 hp (by omega) k2 hu
    refine ⟨e1, e2, fun _ => ?_⟩
    have e5 : pB9 k ≤ (FP.fadd (recG g fr b0 b1 q) (powF (levG g fr b0 b1 q))).toNat := by
      have z := uF_le.mp e4
      rw [h3] at z ⊢
      exact z
    exact Nat.le_trans (pB9_le h1 (by omega)) e5
/-! the reference's search -/
theorem qs_k (s : UInt32) (hs : pF s) : ∀ (f i j : Nat), i < j → j ≤ 1100 → j - i ≤ 2 ^ f → ∃ k : Nat, qsI s f (nI i - 700) (nI j - 700) = nI k - 700 ∧ i ≤ k ∧ k < j ∧ (k = i ∨ pB9 k ≤ s.toNat) ∧ (k + 1 = j ∨ s.toNat < pB9 (k + 1)) := by
  intro f
  induction f with
  | zero =>
    intro i j h1 h2 h3
    rw [Nat.pow_zero] at h3
    exact ⟨i, rfl, Nat.le_refl _, h1, Or.inl rfl, Or.inl (by omega)⟩
  | succ f ih =>
    intro i j h1 h2 h3
    have ti := n7 (i := i) (by omega)
    have tj := n7 (i := j) h2
    have hgap : (nI j - 700 - (nI i - 700)).toInt = (j : Int) - (i : Int) := by
      rw [Int32.toInt_sub, ti, tj, Int.bmod_def]
      omega
    by_cases c : (nI j - 700 - (nI i - 700)) ≤ (1 : Int32)
    · have c2 := c
      rw [Int32.le_iff_toInt_le, hgap, show (1 : Int32).toInt = 1 from rfl] at c2
      exact ⟨i, if_pos c, Nat.le_refl _, h1, Or.inl rfl, Or.inl (by omega)⟩
    · have c2 := c
      rw [Int32.le_iff_toInt_le, hgap, show (1 : Int32).toInt = 1 from rfl] at c2
      have hm : (((nI i - 700) + (nI j - 700)) >>> (1 &&& 31) : Int32) = nI ((i + j) / 2) - 700 := by
        refine Int32.toInt_inj.mp ?_
        rw [qs_mid (by omega) (by omega) (by omega), ti, tj, n7 (by omega)]
        omega
      have e1 : qsI s (f + 1) (nI i - 700) (nI j - 700) = if (0 : Int32) < Op.cmpValue (FP.fcmp (powF (nI ((i + j) / 2) - 700)) s) .g then qsI s f (nI i - 700) (nI ((i + j) / 2) - 700) else qsI s f (nI ((i + j) / 2) - 700) (nI j - 700) := by
        rw [← hm]
        exact if_neg c
      rw [e1]
      rw [Nat.pow_succ] at h3
      have hc := cm_g (pB9_pF (k := (i + j) / 2) (by omega)) hs
      by_cases c3 : (0 : Int32) < Op.cmpValue (FP.fcmp (powF (nI ((i + j) / 2) - 700)) s) .g
      · rw [if_pos c3]
        obtain ⟨k, k1, k2, k3, k4, k5⟩ := ih i ((i + j) / 2) (by omega) (by omega) (by omega)
        refine ⟨k, k1, k2, by omega, k4, Or.inr ?_⟩
        rcases k5 with k5 | k5
        · rw [k5]
          exact hc.mp c3
        · exact k5
      · rw [if_neg c3]
        obtain ⟨k, k1, k2, k3, k4, k5⟩ := ih ((i + j) / 2) j (by omega) h2 (by omega)
        refine ⟨k, k1, by omega, k3, Or.inr ?_, k5⟩
        rcases k4 with k4 | k4
        · rw [k4]
          exact Nat.le_of_not_lt (fun z => c3 (hc.mpr z))
        · exact k4
