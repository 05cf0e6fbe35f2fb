/-! FLOATS that are finite and not below zero: ordered as their bits; uF: the value, in units of the least one -/
def pF (a : UInt32) : Prop := a.toNat < 2139095040
def uF (a : UInt32) : Nat := FP.Core.unitsOf FP.Core.b32 a.toNat
theorem pF_lt {a : UInt32} (h : pF a) : a.toNat < 2139095040 := h
theorem pF_m {a : UInt32} (h : pF a) : a.toNat % 2 ^ 31 = a.toNat := Nat.mod_eq_of_lt (by have := pF_lt h; omega)
theorem pF_ne {a : UInt32} (h : pF a) : FP.Core.val32 a ≠ .nan := (FP.Core.ne_nan32 a).mpr (by rw [pF_m h]; exact Nat.le_of_lt h)
theorem pF_fin {a : UInt32} (h : pF a) : ∃ (c : Nat) (q : Int), FP.Core.val32 a = .fin false c q ∧ FP.Core.inUnits c q FP.Core.b32.qmin = uF a := by
  obtain ⟨s, c, q, e⟩ := (FP.Core.fin_bits32 a).mpr (by rw [pF_m h]; exact h)
  have hs := FP.Core.sgn_bits32 (pF_ne h)
  rw [e] at hs
  have hz := FP.Core.zmag_toNat32 (pF_ne h)
  rw [e, pF_m h] at hz
  have h9 : s = false := by
    have h8 : s = decide (2 ^ 31 ≤ a.toNat) := hs
    rw [h8]
    exact decide_eq_false (by have := pF_lt h; omega)
  subst h9
  exact ⟨c, q, e, hz⟩
theorem pF_n32 {a : UInt32} (h : a.toNat ≤ 2139095040) : vf_n32 a := by
  show a &&& 0x7fffffff ≤ 0x7f800000
  rw [UInt32.le_iff_toNat_le, FP.Core.mask_toNat32, Nat.mod_eq_of_lt (by omega)]
  exact h
theorem uF_le {a b : UInt32} : uF a ≤ uF b ↔ a.toNat ≤ b.toNat := FP.Core.unitsOf_le_iff
theorem cm_gg {a b : UInt32} (ha : pF a) (hb : pF b) : FP.fcmp a b = some (if a.toNat < b.toNat then .lt else if a.toNat = b.toNat then .eq else .gt) := by
  have h1 := pF_lt ha
  have h2 := pF_lt hb
  have m9 := FP.Core.mono_bits32 (pF_ne ha) (pF_ne hb) (by omega) (by omega)
  by_cases c1 : a.toNat < b.toNat
  · rw [if_pos c1]
    exact m9.1.mpr c1
  · rw [if_neg c1]
    by_cases c2 : a.toNat = b.toNat
    · rw [if_pos c2]
      exact m9.2.1.mpr c2
    · rw [if_neg c2]
      exact m9.2.2.mpr (by omega)
theorem cm_g {a b : UInt32} (ha : pF a) (hb : pF b) : (0 : Int32) < Op.cmpValue (FP.fcmp a b) .g ↔ b.toNat < a.toNat := by
  rw [cm_gg ha hb]
  split
  · exact ⟨fun z => absurd z (by decide), fun z => by omega⟩
  · split
    · exact ⟨fun z => absurd z (by decide), fun z => by omega⟩
    · exact ⟨fun _ => by omega, fun _ => by decide⟩
/-! rounding, by the bits -/
theorem rr_le9 {r : UInt32} {A B : Nat} {e : Int} (h : FP.Core.val32 r = FP.Core.roundRatio FP.Core.b32 false A B e) : r.toNat ≤ 2139095040 := by
  have hn : FP.Core.val32 r ≠ .nan := by
    rw [h]
    exact FP.Core.roundRatio_ne_nan _ _ _ _ _
  have h1 := (FP.Core.ne_nan32 r).mp hn
  have h2 := FP.Core.sgn_bits32 hn
  rw [h, FP.Core.sgn_roundRatio] at h2
  have h3 := of_decide_eq_false h2.symm
  omega
theorem rr_mag {r : UInt32} (h : r.toNat ≤ 2139095040) : FP.Core.mag FP.Core.b32 r.toNat = r.toNat := by
  rw [FP.Core.mag_toNat32]
  exact Nat.mod_eq_of_lt (by omega)
theorem rr_le {r : UInt32} {A B V : Nat} {e e0 : Int} (h : FP.Core.val32 r = FP.Core.roundRatio FP.Core.b32 false A B e) (hB : 0 < B) (h0 : e0 ≤ FP.Core.b32.qmin) (h0e : e0 ≤ e) (hv : FP.Core.inUnits A e e0 ≤ FP.Core.unitsOf FP.Core.b32 V * 2 ^ (FP.Core.b32.qmin - e0).toNat * B) : r.toNat ≤ V := by
  have z := FP.Core.mag_le FP.Core.good_b32 h hB h0 h0e hv
  rw [rr_mag (rr_le9 h)] at z
  exact z
theorem rr_ge {r : UInt32} {A B V : Nat} {e e0 : Int} (h : FP.Core.val32 r = FP.Core.roundRatio FP.Core.b32 false A B e) (hB : 0 < B) (h0 : e0 ≤ FP.Core.b32.qmin) (h0e : e0 ≤ e) (hV : V ≤ 2139095040) (hv : FP.Core.unitsOf FP.Core.b32 V * 2 ^ (FP.Core.b32.qmin - e0).toNat * B ≤ FP.Core.inUnits A e e0) : V ≤ r.toNat := by
  have z := FP.Core.mag_ge FP.Core.good_b32 h hB h0 h0e (by rw [FP.Core.infBits_b32]; exact hV) hv
  rw [rr_mag (rr_le9 h)] at z
  exact z
/-! sums -/
theorem ad_rr {a b : UInt32} (ha : pF a) (hb : pF b) : ∃ (n : Nat) (e : Int), FP.Core.val32 (FP.fadd a b) = FP.Core.roundRatio FP.Core.b32 false n 1 e ∧ FP.Core.b32.qmin ≤ e ∧ FP.Core.inUnits n e FP.Core.b32.qmin = uF a + uF b := by
  obtain ⟨c, q, ea, ua⟩ := pF_fin ha
  obtain ⟨d, r, eb, ub⟩ := pF_fin hb
  have fa := FP.Core.val32_fits a
  have fb := FP.Core.val32_fits b
  rw [ea] at fa
  rw [eb] at fb
  have er := FP.Core.val32_fadd a b
  rw [ea, eb] at er
  obtain ⟨sg, n, e, h1, h2, h3⟩ := FP.Core.sum_units fa fb
  have hv : FP.Core.signed sg (FP.Core.inUnits n e FP.Core.b32.qmin) = ((uF a + uF b : Nat) : Int) := by
    rw [h3, ← ua, ← ub]
    exact (Int.natCast_add _ _).symm
  have hs : sg = false := by
    have hq : (0 : Int) ≤ FP.Core.sumUnits false c q false d r (min q r) := by
      show (0 : Int) ≤ ((FP.Core.inUnits c q (min q r) : Nat) : Int) + ((FP.Core.inUnits d r (min q r) : Nat) : Int)
      omega
    have h4 : sg = FP.Core.sumSign false false (FP.Core.sumUnits false c q false d r (min q r)) := by
      have h5 : FP.Core.Datum.fin (FP.Core.sumSign false false (FP.Core.sumUnits false c q false d r (min q r))) _ _ = FP.Core.Datum.fin sg n e := h1
      injection h5 with h6
      exact h6.symm
    rw [h4]
    unfold FP.Core.sumSign
    split
    · rfl
    · exact decide_eq_false (by omega)
  subst hs
  rw [h1] at er
  have hv2 : ((FP.Core.inUnits n e FP.Core.b32.qmin : Nat) : Int) = ((uF a + uF b : Nat) : Int) := hv
  exact ⟨n, e, er, h2, Int.ofNat.inj hv2⟩
theorem ad_F {a b V : UInt32} (ha : pF a) (hb : pF b) (hV : pF V) (h : uF a + uF b ≤ uF V) : pF (FP.fadd a b) ∧ (FP.fadd a b).toNat ≤ V.toNat ∧ a.toNat ≤ (FP.fadd a b).toNat ∧ b.toNat ≤ (FP.fadd a b).toNat := by
  obtain ⟨n, e, h1, h2, h3⟩ := ad_rr ha hb
  have hz : (FP.Core.b32.qmin - FP.Core.b32.qmin).toNat = 0 := by omega
  have k1 : (FP.fadd a b).toNat ≤ V.toNat := rr_le h1 (by decide) (Int.le_refl _) h2 (by rw [h3, hz, Nat.pow_zero, Nat.mul_one, Nat.mul_one]; exact h)
  have k2 : ∀ x : UInt32, pF x → uF x ≤ uF a + uF b → x.toNat ≤ (FP.fadd a b).toNat := fun x hx hx2 => rr_ge h1 (by decide) (Int.le_refl _) h2 (Nat.le_of_lt hx) (by rw [h3, hz, Nat.pow_zero, Nat.mul_one, Nat.mul_one]; exact hx2)
  exact ⟨Nat.lt_of_le_of_lt k1 hV, k1, k2 a ha (Nat.le_add_right _ _), k2 b hb (Nat.le_add_left _ _)⟩
/-! whole multiples of 2 ^ 17 -/
def cF (k : Nat) : UInt32 := FP.i2f (nI (131072 * k))
def cFk (k : Nat) : Bool := Nat.blt (cF k).toNat 2139095040 && (uF (cF k) == k * 2 ^ 166)
theorem cF_all : ∀ k, k < 2049 → cFk k = true := by decide +kernel
theorem cF_p {k : Nat} (h : k < 2049) : pF (cF k) ∧ uF (cF k) = k * 2 ^ 166 := by
  have z := cF_all k h
  unfold cFk at z
  rw [Bool.and_eq_true, Nat.blt_eq, beq_iff_eq] at z
  exact z
theorem ad_c {a b : UInt32} {i j : Nat} (ha : pF a) (hb : pF b) (h : i + j < 2049) (h1 : uF a ≤ i * 2 ^ 166) (h2 : uF b ≤ j * 2 ^ 166) : pF (FP.fadd a b) ∧ uF (FP.fadd a b) ≤ (i + j) * 2 ^ 166 ∧ uF a ≤ uF (FP.fadd a b) ∧ uF b ≤ uF (FP.fadd a b) := by
  obtain ⟨k1, k2⟩ := cF_p h
  obtain ⟨e1, e2, e3, e4⟩ := ad_F ha hb k1 (by rw [k2, Nat.add_mul]; omega)
  refine ⟨e1, ?_, uF_le.mpr e3, uF_le.mpr e4⟩
  rw [← k2]
  exact uF_le.mpr e2
theorem fc0_F : pF FP.fconst0 ∧ uF FP.fconst0 = 0 := ⟨by unfold pF; decide, by decide +kernel⟩
/-! products and quotients -/
theorem mu_rr {a b : UInt32} (ha : pF a) (hb : pF b) : ∃ (n : Nat) (e : Int), FP.Core.val32 (FP.fmul a b) = FP.Core.roundRatio FP.Core.b32 false n 1 e ∧ 2 * FP.Core.b32.qmin ≤ e ∧ FP.Core.inUnits n e (2 * FP.Core.b32.qmin) = uF a * uF b := by
  obtain ⟨c, q, ea, ua⟩ := pF_fin ha
  obtain ⟨d, r, eb, ub⟩ := pF_fin hb
  have fa := FP.Core.val32_fits a
  have fb := FP.Core.val32_fits b
  rw [ea] at fa
  rw [eb] at fb
  have er := FP.Core.val32_fmul a b
  rw [ea, eb] at er
  obtain ⟨h1, h2, h3⟩ := FP.Core.product_units fa fb
  rw [h1] at er
  refine ⟨_, _, er, h2, ?_⟩
  rw [h3, ← ua, ← ub]
  rfl
theorem uo_dbl {n : Nat} (h : 8388608 ≤ n) : FP.Core.unitsOf FP.Core.b32 (n + 8388608) = 2 * FP.Core.unitsOf FP.Core.b32 n := by
  have ht : FP.Core.b32.tails = 8388608 := FP.Core.tails_b32
  unfold FP.Core.unitsOf
  rw [ht, if_neg (by omega), if_neg (by omega), Nat.add_mod_right, show (n + 8388608) / 8388608 - 1 = n / 8388608 - 1 + 1 by omega, Nat.pow_succ]
  rw [← Nat.mul_assoc, Nat.mul_comm _ 2]
theorem uF_two : pF FP.fconst2 ∧ uF FP.fconst2 = 2 ^ 150 := ⟨by unfold pF; decide, by decide +kernel⟩
theorem dbl_F {a : UInt32} (h1 : 8388608 ≤ a.toNat) (h2 : a.toNat + 8388608 < 2139095040) : (FP.fmul a FP.fconst2).toNat = a.toNat + 8388608 := by
  obtain ⟨n, e, k1, k2, k3⟩ := mu_rr (show pF a by unfold pF; omega) uF_two.1
  have hq : FP.Core.b32.qmin = -149 := FP.Core.qmin_b32
  have hp : (FP.Core.b32.qmin - 2 * FP.Core.b32.qmin).toNat = 149 := by rw [hq]; rfl
  have hu : FP.Core.inUnits n e (2 * FP.Core.b32.qmin) = FP.Core.unitsOf FP.Core.b32 (a.toNat + 8388608) * 2 ^ (FP.Core.b32.qmin - 2 * FP.Core.b32.qmin).toNat * 1 := by
    rw [k3, uo_dbl h1, hp, uF_two.2, Nat.mul_one]
    show uF a * 2 ^ 150 = 2 * uF a * 2 ^ 149
    rw [Nat.mul_comm 2 (uF a), Nat.mul_assoc]
  have z1 := rr_le (V := a.toNat + 8388608) k1 (by decide) (by rw [hq]; omega) k2 (Nat.le_of_eq hu)
  have z2 := rr_ge (V := a.toNat + 8388608) k1 (by decide) (by rw [hq]; omega) k2 (by omega) (Nat.le_of_eq hu.symm)
  omega
