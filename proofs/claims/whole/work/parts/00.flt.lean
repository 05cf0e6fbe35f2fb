/-! FLOATS that are finite and not below zero: ordered as their bits; uF: the value, in units of the least one -/
def pF (a : UInt32) : Prop := a.toNat < 2139095040
def uF (a : UInt32) : Nat := FP.Core.unitsOf FP.Core.b32 a.toNat
theorem pF_lt {a : UInt32} (h : pF a) : a.toNat < 2139095040 := h
theorem pF_m {a : UInt32} (h : pF a) : a.toNat % 2 ^ 31 = a.toNat := Nat.mod_eq_of_lt (by have := pF_lt h; omega)
theorem pF_ne {a : UInt32} (h : pF a) : FP.Core.val32 a ≠ .nan := (FP.Core.ne_nan32 a).mpr (by rw [pF_m h]; exact Nat.le_of_lt h)
theorem pF_fin {a : UInt32} (h : pF a) : ∃ (c : Nat) (q : Int), FP.Core.val32 a = .fin false c q ∧ FP.Core.inUnits c q FP.Core.b32.qmin = uF a := by
  obtain ⟨s, c, q, e⟩ := (FP.Core.fin_bits32 a).mpr (by rw [pF_m h]; exact h)
  have hs := FP.Core.sgn_bits32 (pF_ne h)
  rw [e] at hs
  have hz := FP.Core.zmag_toNat32 (pF_ne h)
  rw [e, pF_m h] at hz
  have h9 : s = false := by
    have h8 : s = decide (2 ^ 31 ≤ a.toNat) := hs
    rw [h8]
    exact decide_eq_false (by have := pF_lt h; omega)
  subst h9
  exact ⟨c, q, e, hz⟩
theorem pF_n32 {a : UInt32} (h : a.toNat ≤ 2139095040) : vf_n32 a := by
  show a &&& 0x7fffffff ≤ 0x7f800000
  rw [UInt32.le_iff_toNat_le, FP.Core.mask_toNat32, Nat.mod_eq_of_lt (by omega)]
  exact h
theorem uF_le {a b : UInt32} : uF a ≤ uF b ↔ a.toNat ≤ b.toNat := FP.Core.unitsOf_le_iff
theorem cm_gg {a b : UInt32} (ha : pF a) (hb : pF b) : FP.fcmp a b = some (if a.toNat < b.toNat then .lt else if a.toNat = b.toNat then .eq else .gt) := by
  have h1 := pF_lt ha
  have h2 := pF_lt hb
  have m9 := FP.Core.mono_bits32 (pF_ne ha) (pF_ne hb) (by omega) (by omega)
  by_cases c1 : a.toNat < b.toNat
  · rw [if_pos c1]
    exact m9.1.mpr c1
  · rw [if_neg c1]
    by_cases c2 : a.toNat = b.toNat
    · rw [if_pos c2]
      exact m9.2.1.mpr c2
    · rw [if_neg c2]
      exact m9.2.2.mpr (by omega)
theorem cm_g {a b : UInt32} (ha : pF a) (hb : pF b) : (0 : Int32) < Op.cmpValue (FP.fcmp a b) .g ↔ b.toNat < a.toNat := by
  rw [cm_gg ha hb]
  split
  · exact ⟨fun z => absurd z (by decide), fun z => by omega⟩
  · split
    · exact ⟨fun z => absurd z (by decide), fun z => by omega⟩
    · exact ⟨fun _ => by omega, fun _ => by decide⟩
theorem cm_ge {a b : UInt32} (ha : pF a) (hb : pF b) : (0 : Int32) ≤ Op.cmpValue (FP.fcmp a b) .g ↔ b.toNat ≤ a.toNat := by
  rw [cm_gg ha hb]
  split
  · exact ⟨fun z => absurd z (by decide), fun z => by omega⟩
  · split
    · exact ⟨fun _ => by omega, fun _ => by decide⟩
    · exact ⟨fun _ => by omega, fun _ => by decide⟩
theorem cm_le {a b : UInt32} (ha : pF a) (hb : pF b) : Op.cmpValue (FP.fcmp a b) .l ≤ (0 : Int32) ↔ a.toNat ≤ b.toNat := by
  rw [cm_gg ha hb]
  split
  · exact ⟨fun _ => by omega, fun _ => by decide⟩
  · split
    · exact ⟨fun _ => by omega, fun _ => by decide⟩
    · exact ⟨fun z => absurd z (by decide), fun z => by omega⟩
theorem cm_self {a : UInt32} (ha : pF a) : Op.cmpValue (FP.fcmp a a) .l = 0 := by
  rw [cm_gg ha ha, if_neg (Nat.lt_irrefl _), if_pos rfl]
  rfl
/-! rounding, by the bits -/
theorem rr_le9 {r : UInt32} {A B : Nat} {e : Int} (h : FP.Core.val32 r = FP.Core.roundRatio FP.Core.b32 false A B e) : r.toNat ≤ 2139095040 := by
  have hn : FP.Core.val32 r ≠ .nan := by
    rw [h]
    exact FP.Core.roundRatio_ne_nan _ _ _ _ _
  have h1 := (FP.Core.ne_nan32 r).mp hn
  have h2 := FP.Core.sgn_bits32 hn
  rw [h, FP.Core.sgn_roundRatio] at h2
  have h3 := of_decide_eq_false h2.symm
  omega
theorem rr_mag {r : UInt32} (h : r.toNat ≤ 2139095040) : FP.Core.mag FP.Core.b32 r.toNat = r.toNat := by
  rw [FP.Core.mag_toNat32]
  exact Nat.mod_eq_of_lt (by omega)
theorem rr_le {r : UInt32} {A B V : Nat} {e e0 : Int} (h : FP.Core.val32 r = FP.Core.roundRatio FP.Core.b32 false A B e) (hB : 0 < B) (h0 : e0 ≤ FP.Core.b32.qmin) (h0e : e0 ≤ e) (hv : FP.Core.inUnits A e e0 ≤ FP.Core.unitsOf FP.Core.b32 V * 2 ^ (FP.Core.b32.qmin - e0).toNat * B) : r.toNat ≤ V := by
  have z := FP.Core.mag_le FP.Core.good_b32 h hB h0 h0e hv
  rw [rr_mag (rr_le9 h)] at z
  exact z
theorem rr_ge {r : UInt32} {A B V : Nat} {e e0 : Int} (h : FP.Core.val32 r = FP.Core.roundRatio FP.Core.b32 false A B e) (hB : 0 < B) (h0 : e0 ≤ FP.Core.b32.qmin) (h0e : e0 ≤ e) (hV : V ≤ 2139095040) (hv : FP.Core.unitsOf FP.Core.b32 V * 2 ^ (FP.Core.b32.qmin - e0).toNat * B ≤ FP.Core.inUnits A e e0) : V ≤ r.toNat := by
  have z := FP.Core.mag_ge FP.Core.good_b32 h hB h0 h0e (by rw [FP.Core.infBits_b32]; exact hV) hv
  rw [rr_mag (rr_le9 h)] at z
  exact z
/-! sums -/
theorem ad_rr {a b : UInt32} (ha : pF a) (hb : pF b) : ∃ (n : Nat) (e : Int), FP.Core.val32 (FP.fadd a b) = FP.Core.roundRatio FP.Core.b32 false n 1 e ∧ FP.Core.b32.qmin ≤ e ∧ FP.Core.inUnits n e FP.Core.b32.qmin = uF a + uF b := by
  obtain ⟨c, q, ea, ua⟩ := pF_fin ha
  obtain ⟨d, r, eb, ub⟩ := pF_fin hb
  have fa := FP.Core.val32_fits a
  have fb := FP.Core.val32_fits b
  rw [ea] at fa
  rw [eb] at fb
  have er := FP.Core.val32_fadd a b
  rw [ea, eb] at er
  obtain ⟨sg, n, e, h1, h2, h3⟩ := FP.Core.sum_units fa fb
  have hv : FP.Core.signed sg (FP.Core.inUnits n e FP.Core.b32.qmin) = ((uF a + uF b : Nat) : Int) := by
    rw [h3, ← ua, ← ub]
    exact (Int.natCast_add _ _).symm
  have hs : sg = false := by
    have hq : (0 : Int) ≤ FP.Core.sumUnits false c q false d r (min q r) := by
      show (0 : Int) ≤ ((FP.Core.inUnits c q (min q r) : Nat) : Int) + ((FP.Core.inUnits d r (min q r) : Nat) : Int)
      omega
    have h4 : sg = FP.Core.sumSign false false (FP.Core.sumUnits false c q false d r (min q r)) := by
      have h5 : FP.Core.Datum.fin (FP.Core.sumSign false false (FP.Core.sumUnits false c q false d r (min q r))) _ _ = FP.Core.Datum.fin sg n e := h1
      injection h5 with h6
      exact h6.symm
    rw [h4]
    unfold FP.Core.sumSign
    split
    · rfl
    · exact decide_eq_false (by omega)
  subst hs
  rw [h1] at er
  have hv2 : ((FP.Core.inUnits n e FP.Core.b32.qmin : Nat) : Int) = ((uF a + uF b : Nat) : Int) := hv
  exact ⟨n, e, er, h2, Int.ofNat.inj hv2⟩
theorem ad_F {a b V : UInt32} (ha : pF a) (hb : pF b) (hV : pF V) (h : uF a + uF b ≤ uF V) : pF (FP.fadd a b) ∧ (FP.fadd a b).toNat ≤ V.toNat ∧ a.toNat ≤ (FP.fadd a b).toNat ∧ b.toNat ≤ (FP.fadd a b).toNat := by
  obtain ⟨n, e, h1, h2, h3⟩ := ad_rr ha hb
  have hz : (FP.Core.b32.qmin - FP.Core.b32.qmin).toNat = 0 := by omega
  have k1 : (FP.fadd a b).toNat ≤ V.toNat := rr_le h1 (by decide) (Int.le_refl _) h2 (by rw [h3, hz, Nat.pow_zero, Nat.mul_one, Nat.mul_one]; exact h)
  have k2 : ∀ x : UInt32, pF x → uF x ≤ uF a + uF b → x.toNat ≤ (FP.fadd a b).toNat := fun x hx hx2 => rr_ge h1 (by decide) (Int.le_refl _) h2 (Nat.le_of_lt hx) (by rw [h3, hz, Nat.pow_zero, Nat.mul_one, Nat.mul_one]; exact hx2)
  exact ⟨Nat.lt_of_le_of_lt k1 hV, k1, k2 a ha (Nat.le_add_right _ _), k2 b hb (Nat.le_add_left _ _)⟩
/-! whole multiples of 2 ^ 17 -/
def cF (k : Nat) : UInt32 := FP.i2f (nI (131072 * k))
def cFk (k : Nat) : Bool := Nat.blt (cF k).toNat 2139095040 && (uF (cF k) == k * 2 ^ 166)
theorem cF_all : ∀ k, k < 2049 → cFk k = true := by decide +kernel
theorem cF_p {k : Nat} (h : k < 2049) : pF (cF k) ∧ uF (cF k) = k * 2 ^ 166 := by
  have z := cF_all k h
  unfold cFk at z
  rw [Bool.and_eq_true, Nat.blt_eq, beq_iff_eq] at z
  exact z
theorem ad_c {a b : UInt32} {i j : Nat} (ha : pF a) (hb : pF b) (h : i + j < 2049) (h1 : uF a ≤ i * 2 ^ 166) (h2 : uF b ≤ j * 2 ^ 166) : pF (FP.fadd a b) ∧ uF (FP.fadd a b) ≤ (i + j) * 2 ^ 166 ∧ uF a ≤ uF (FP.fadd a b) ∧ uF b ≤ uF (FP.fadd a b) := by
  obtain ⟨k1, k2⟩ := cF_p h
  obtain ⟨e1, e2, e3, e4⟩ := ad_F ha hb k1 (by rw [k2, Nat.add_mul]; omega)
  refine ⟨e1, ?_, uF_le.mpr e3, uF_le.mpr e4⟩
  rw [← k2]
  exact uF_le.mpr e2
theorem fc0_F : pF FP.fconst0 ∧ uF FP.fconst0 = 0 := ⟨by unfold pF; decide, by decide +kernel⟩
/-! products and quotients -/
theorem mu_rr {a b : UInt32} (ha : pF a) (hb : pF b) : ∃ (n : Nat) (e : Int), FP.Core.val32 (FP.fmul a b) = FP.Core.roundRatio FP.Core.b32 false n 1 e ∧ 2 * FP.Core.b32.qmin ≤ e ∧ FP.Core.inUnits n e (2 * FP.Core.b32.qmin) = uF a * uF b := by
  obtain ⟨c, q, ea, ua⟩ := pF_fin ha
  obtain ⟨d, r, eb, ub⟩ := pF_fin hb
  have fa := FP.Core.val32_fits a
  have fb := FP.Core.val32_fits b
  rw [ea] at fa
  rw [eb] at fb
  have er := FP.Core.val32_fmul a b
  rw [ea, eb] at er
  obtain ⟨h1, h2, h3⟩ := FP.Core.product_units fa fb
  rw [h1] at er
  refine ⟨_, _, er, h2, ?_⟩
  rw [h3, ← ua, ← ub]
  rfl
theorem mu_n {a b : UInt32} (ha : pF a) (hb : pF b) : (FP.fmul a b).toNat ≤ 2139095040 := by
  obtain ⟨n, e, h1, -, -⟩ := mu_rr ha hb
  exact rr_le9 h1
theorem uo_dbl {n : Nat} (h : 8388608 ≤ n) : FP.Core.unitsOf FP.Core.b32 (n + 8388608) = 2 * FP.Core.unitsOf FP.Core.b32 n := by
  have ht : FP.Core.b32.tails = 8388608 := FP.Core.tails_b32
  unfold FP.Core.unitsOf
  rw [ht, if_neg (by omega), if_neg (by omega), Nat.add_mod_right, show (n + 8388608) / 8388608 - 1 = n / 8388608 - 1 + 1 by omega, Nat.pow_succ]
  rw [← Nat.mul_assoc, Nat.mul_comm _ 2]
theorem uF_two : pF FP.fconst2 ∧ uF FP.fconst2 = 2 ^ 150 := ⟨by unfold pF; decide, by decide +kernel⟩
theorem dbl_F {a : UInt32} (h1 : 8388608 ≤ a.toNat) (h2 : a.toNat + 8388608 < 2139095040) : (FP.fmul a FP.fconst2).toNat = a.toNat + 8388608 := by
  obtain ⟨n, e, k1, k2, k3⟩ := mu_rr (show pF a by unfold pF; omega) uF_two.1
  have hq : FP.Core.b32.qmin = -149 := FP.Core.qmin_b32
  have hp : (FP.Core.b32.qmin - 2 * FP.Core.b32.qmin).toNat = 149 := by rw [hq]; rfl
  have hu : FP.Core.inUnits n e (2 * FP.Core.b32.qmin) = FP.Core.unitsOf FP.Core.b32 (a.toNat + 8388608) * 2 ^ (FP.Core.b32.qmin - 2 * FP.Core.b32.qmin).toNat * 1 := by
    rw [k3, uo_dbl h1, hp, uF_two.2, Nat.mul_one]
    show uF a * 2 ^ 150 = 2 * uF a * 2 ^ 149
    rw [Nat.mul_comm 2 (uF a), Nat.mul_assoc]
  have z1 := rr_le (V := a.toNat + 8388608) k1 (by decide) (by rw [hq]; omega) k2 (Nat.le_of_eq hu)
  have z2 := rr_ge (V := a.toNat + 8388608) k1 (by decide) (by rw [hq]; omega) k2 (by omega) (Nat.le_of_eq hu.symm)
  omega
theorem qu_rr {a b : UInt32} (ha : pF a) (hb : pF b) (h0 : 0 < uF b) : ∃ (c d : Nat) (q r : Int), FP.Core.val32 (FP.fdiv a b) = FP.Core.roundRatio FP.Core.b32 false c d (q - r) ∧ 0 < d ∧ -149 ≤ q ∧ -149 ≤ r ∧ r ≤ 104 ∧ c * 2 ^ (q + 149).toNat = uF a ∧ d * 2 ^ (r + 149).toNat = uF b := by
  obtain ⟨c, q, ea, ua⟩ := pF_fin ha
  obtain ⟨d, r, eb, ub⟩ := pF_fin hb
  have hq : FP.Core.b32.qmin = -149 := FP.Core.qmin_b32
  have hx : FP.Core.b32.qmax = 104 := by decide +kernel
  have fa := FP.Core.val32_fits a
  have fb := FP.Core.val32_fits b
  rw [ea] at fa
  rw [eb] at fb
  have er := FP.Core.val32_fdiv a b
  rw [ea, eb] at er
  unfold FP.Core.inUnits at ua ub
  rw [hq, show q - -149 = q + 149 by omega] at ua
  rw [hq, show r - -149 = r + 149 by omega] at ub
  have hd : ¬ d = 0 := by
    rintro rfl
    rw [Nat.zero_mul] at ub
    omega
  have fa2 := fa.2.1
  have fb2 := fb.2.1
  have fb3 := fb.2.2.1
  rw [hq] at fa2 fb2
  rw [hx] at fb3
  refine ⟨c, d, q, r, er.trans (if_neg hd), by omega, fa2, fb2, fb3, ua, ub⟩
theorem qu_F {a b : UInt32} (ha : pF a) (hb : pF b) (h1 : 2 ^ 100 ≤ uF a) (h2 : uF a ≤ uF b) (h3 : uF b ≤ 2 ^ 177) : 8388608 ≤ (FP.fdiv a b).toNat ∧ (FP.fdiv a b).toNat ≤ 1065353216 := by
  have p100 : 0 < 2 ^ 100 := Nat.two_pow_pos _
  obtain ⟨c, d, q, r, k1, k2, k3, k4, k5, k6, k7⟩ := qu_rr ha hb (by omega)
  have hq : FP.Core.b32.qmin = -149 := FP.Core.qmin_b32
  have hp : (FP.Core.b32.qmin - (-400)).toNat = 251 := by rw [hq]; rfl
  have hP : 0 < 2 ^ (r + 149).toNat := Nat.two_pow_pos _
  have hx : FP.Core.inUnits c (q - r) (-400) * 2 ^ (r + 149).toNat = uF a * 2 ^ 400 := by
    unfold FP.Core.inUnits
    rw [← k6, Nat.mul_assoc, ← Nat.pow_add, Nat.mul_assoc, ← Nat.pow_add]
    congr 2
    omega
  have hy : ∀ w : Nat, w * 2 ^ 251 * d * 2 ^ (r + 149).toNat = w * 2 ^ 251 * uF b := fun w => by rw [Nat.mul_assoc (w * 2 ^ 251), k7]
  have u1 : FP.Core.unitsOf FP.Core.b32 1065353216 = 2 ^ 149 := by decide +kernel
  have u2 : FP.Core.unitsOf FP.Core.b32 8388608 = 2 ^ 23 := by decide +kernel
  refine ⟨rr_ge (e0 := -400) k1 k2 (by rw [hq]; omega) (by omega) (by omega) ?_, rr_le (e0 := -400) k1 k2 (by rw [hq]; omega) (by omega) ?_⟩
  · rw [hp, u2]
    refine Nat.le_of_mul_le_mul_right ?_ hP
    rw [hx, hy, ← Nat.pow_add]
    calc 2 ^ (23 + 251) * uF b ≤ 2 ^ (23 + 251) * 2 ^ 177 := Nat.mul_le_mul_left _ h3
      _ ≤ 2 ^ 100 * 2 ^ 400 := by rw [← Nat.pow_add, ← Nat.pow_add]; exact Nat.pow_le_pow_right (by decide) (by decide)
      _ ≤ uF a * 2 ^ 400 := Nat.mul_le_mul_right _ h1
  · rw [hp, u1]
    refine Nat.le_of_mul_le_mul_right ?_ hP
    rw [hx, hy, ← Nat.pow_add, Nat.mul_comm (2 ^ (149 + 251))]
    exact Nat.mul_le_mul_right _ h2
/-! the bits of a significand -/
theorem sg_F {x : UInt32} {t : Nat} (ht : t < 8388608) (hx : x.toNat = 1065353216 + t) : vf_n32 (FP.fsub x FP.fconst1) ∧ vf_n32 (FP.fmul (FP.fsub x FP.fconst1) 1258291200) ∧ FP.f2i (FP.fmul (FP.fsub x FP.fconst1) 1258291200) = nI t := by
  have hp : pF x := by unfold pF; omega
  have hq : FP.Core.b32.qmin = -149 := FP.Core.qmin_b32
  have e1 : FP.Core.val32 x = .fin false (8388608 + t) (-23) := by
    show FP.Core.decode FP.Core.b32 x.toNat = _
    unfold FP.Core.decode
    have hT : FP.Core.fieldT FP.Core.b32 x.toNat = t := by
      unfold FP.Core.fieldT
      rw [FP.Core.tails_b32, hx]
      omega
    have hE : FP.Core.fieldE FP.Core.b32 x.toNat = 127 := by
      unfold FP.Core.fieldE
      rw [FP.Core.tails_b32, hx, show FP.Core.b32.exps = 256 from rfl]
      omega
    have hS : FP.Core.fieldS FP.Core.b32 x.toNat = false := by
      unfold FP.Core.fieldS
      rw [FP.Core.tails_b32, hx, show FP.Core.b32.exps = 256 from rfl, show (1065353216 + t) / 2 ^ 23 / 256 = 0 by omega]
      rfl
    rw [hT, hE, hS, hq, if_neg (by decide), if_neg (by decide)]
    rfl
  have e2 := FP.Core.val32_fsub x FP.fconst1
  rw [e1, show FP.Core.val32 FP.fconst1 = .fin false (2 ^ 23) (-23) from FP.Core.val32_fconst1] at e2
  have e3 : FP.Core.exactSum (.fin false (8388608 + t) (-23)) (FP.Core.negate (.fin false (2 ^ 23) (-23))) = .fin false t (-23) := by
    have hv : FP.Core.sumUnits false (8388608 + t) (-23) true (2 ^ 23) (-23) (min (-23) (-23)) = (t : Int) := by
      unfold FP.Core.sumUnits FP.Core.inUnits
      show (((8388608 + t) * 2 ^ 0 : Nat) : Int) + -((2 ^ 23 * 2 ^ 0 : Nat) : Int) = (t : Int)
      omega
    show FP.Core.Datum.fin (FP.Core.sumSign false true (FP.Core.sumUnits false (8388608 + t) (-23) true (2 ^ 23) (-23) (min (-23) (-23)))) (FP.Core.sumUnits false (8388608 + t) (-23) true (2 ^ 23) (-23) (min (-23) (-23))).natAbs (min (-23) (-23)) = _
    rw [hv]
    have hs : FP.Core.sumSign false true (t : Int) = false := by
      unfold FP.Core.sumSign
      split
      · rfl
      · exact decide_eq_false (by omega)
    rw [hs]
    rfl
  rw [e3] at e2
  obtain ⟨c, q, e4, e5⟩ := FP.Core.round_exact FP.Core.good_b32 false (c := t) (q := -23) (by rw [show FP.Core.b32.p = 24 from rfl]; omega) (by rw [hq]; omega) (by decide +kernel)
  have e6 := e2.trans e4
  have hd : pF (FP.fsub x FP.fconst1) := by
    have h1 := (FP.Core.fin_bits32 _).mp ⟨_, _, _, e6⟩
    have h2 := (FP.Core.sign_bits32 (a := FP.fsub x FP.fconst1) (s := false) (Or.inl ⟨c, q, e6⟩))
    have h3 : ¬ 2 ^ 31 ≤ (FP.fsub x FP.fconst1).toNat := fun z => by
      have := h2.mpr z
      cases this
    unfold pF
    have h4 : (FP.fsub x FP.fconst1).toNat % 2 ^ 31 < 2139095040 := h1
    omega
  have hm : pF 1258291200 := by unfold pF; decide
  refine ⟨pF_n32 (Nat.le_of_lt hd), pF_n32 (mu_n hd hm), ?_⟩
  have e7 := FP.Core.val32_fmul (FP.fsub x FP.fconst1) 1258291200
  rw [e6, show FP.Core.val32 1258291200 = .fin false (2 ^ 23) 0 by decide +kernel] at e7
  have fits := FP.Core.val32_fits (FP.fsub x FP.fconst1)
  rw [e6] at fits
  have q1 := fits.2.1
  rw [hq] at q1
  have hw : FP.Core.Whole (t : Int) (FP.Core.exactProduct (.fin false c q) (.fin false (2 ^ 23) 0)) := by
    have e8 : c * 2 ^ (q + 149).toNat = t * 2 ^ 126 := by
      have z := e5
      unfold FP.Core.inUnits at z
      rw [hq, show q - -149 = q + 149 by omega, show (-23 - -149 : Int).toNat = 126 from rfl] at z
      exact z
    show ((c * 2 ^ 23 * 2 ^ (q + 0).toNat : Nat) : Int) = (t : Int) * ((2 ^ (-(q + 0)).toNat : Nat) : Int)
    rw [← Int.natCast_mul]
    congr 1
    rw [show q + 0 = q by omega]
    refine Nat.eq_of_mul_eq_mul_right (Nat.two_pow_pos ((-q).toNat + 126)) ?_
    have h9 : (q + 149).toNat + (-q).toNat = 23 + q.toNat + 126 := by omega
    calc c * 2 ^ 23 * 2 ^ q.toNat * 2 ^ ((-q).toNat + 126) = c * 2 ^ (q + 149).toNat * 2 ^ ((-q).toNat + (-q).toNat) := by
          rw [Nat.mul_assoc, Nat.mul_assoc, Nat.mul_assoc, ← Nat.pow_add, ← Nat.pow_add, ← Nat.pow_add]
          congr 2
          omega
      _ = t * 2 ^ (-q).toNat * 2 ^ ((-q).toNat + 126) := by
          rw [e8, Nat.mul_assoc, Nat.mul_assoc, ← Nat.pow_add, ← Nat.pow_add]
          congr 2
          omega
  have hw2 := FP.Core.whole_round FP.Core.good_b32 FP.Core.wide_b32 (i := (t : Int)) (by rw [show FP.Core.b32.p = 24 from rfl]; omega) hw
  rw [← e7] at hw2
  refine FP.Core.f2i_int (a := nI t) ?_
  rw [nI_toInt (by omega)]
  exact hw2
