/-! THE CLASS BETWEEN TWO CALLS, AND ITS CALLS -/
def SJ (S : Nat → Nat) (g : Nat → Nat → Int32) (σ τ : Nat → Nat → Nat) (ρ : Nat → Nat) (c9 : Nat) : Prop := pmF σ τ ∧ (∃ n, invK g n S) ∧ c9 ≤ 6 ∧ (∀ k, k < 6 → ρ k < 6) ∧ ∀ i j, i < 6 → j < 6 → ρ i = ρ j → i = j
/-- the m rows that were saved last -/
def tpS (m : Nat) (Rw : Nat → Nat → Int32) (s : Nat → Nat → Int32) (ρ : Nat → Nat) (c9 : Nat) : Prop := ∀ i, i < m → i < c9 ∧ ∀ k, s (2 + ρ (c9 - 1 - i)) k = Rw (m - 1 - i) k
theorem sS_at {s : Nat → Nat → Int32} {b : Nat} {f : Nat → Int32} : sS s b f b = f := if_pos rfl
section SJS
variable {S : Nat → Nat} {g s g1 : Nat → Nat → Int32} {σ τ σ1 τ1 : Nat → Nat → Nat} {ρ : Nat → Nat} {c9 n : Nat}
theorem SJ.bo (I : SJ S g σ τ ρ c9) : bo3 (g 1) := by
  obtain ⟨n, h⟩ := I.2.1
  exact inv_bo h
theorem sj_row (I : SJ S g σ τ ρ c9) (e : ∀ k, g1 1 k = g 1 k) : SJ S g1 σ τ ρ c9 := by
  obtain ⟨i1, ⟨n, i2⟩, i3⟩ := I
  exact ⟨i1, ⟨n, inv_le i2 fun k _ => e k⟩, i3⟩
theorem sj_save (I : SJ S g σ τ ρ c9) (hσ : pmF σ1 τ1) (hi : invK g1 n S) : SJ S g1 σ1 τ1 (svr ρ c9) (svc c9) := by
  obtain ⟨i1, i2, i3, i4, i5⟩ := I
  by_cases c : c9 = 6
  · subst c
    have er : svr ρ 6 = rtS ρ := if_pos rfl
    have ec : svc 6 = 6 := if_pos rfl
    rw [er, ec]
    refine ⟨hσ, ⟨n, hi⟩, by omega, fun k hk => ?_, fun i j hi hj e => ?_⟩
    · unfold rtS
      split
      · exact i4 _ (by omega)
      · exact i4 0 (by omega)
    · unfold rtS at e
      by_cases ci : i < 5 <;> by_cases cj : j < 5
      · rw [if_pos ci, if_pos cj] at e
        have := i5 _ _ (by omega) (by omega) e
        omega
      · rw [if_pos ci, if_neg cj] at e
        have := i5 _ _ (by omega) (by omega) e
        omega
      · rw [if_neg ci, if_pos cj] at e
        have := i5 _ _ (by omega) (by omega) e
        omega
      · omega
  · have er : svr ρ c9 = ρ := if_neg c
    have ec : svc c9 = c9 + 1 := if_neg c
    rw [er, ec]
    exact ⟨hσ, ⟨n, hi⟩, by omega, i4, i5⟩
theorem tp_save {m : Nat} {Rw : Nat → Nat → Int32} (I : SJ S g σ τ ρ c9) (hm : m + 1 ≤ 6) (h : tpS m Rw s ρ c9) (e : ∀ k, g 1 k = Rw m k) : tpS (m + 1) Rw (svs g s ρ c9) (svr ρ c9) (svc c9) := by
  obtain ⟨i1, i2, i3, i4, i5⟩ := I
  intro i hi
  by_cases c : c9 = 6
  · subst c
    have er : svr ρ 6 = rtS ρ := if_pos rfl
    have ec : svc 6 = 6 := if_pos rfl
    have es : svs g s ρ 6 = sS s (2 + ρ 0) (g 1) := by
      unfold svs svb
      rw [if_pos rfl]
    rw [er, ec, es]
    refine ⟨by omega, fun k => ?_⟩
    by_cases c0 : i = 0
    · subst c0
      rw [show rtS ρ (6 - 1 - 0) = ρ 0 from rfl, sS_at]
      exact e k
    · have e1 : rtS ρ (6 - 1 - i) = ρ (6 - i) := by
        unfold rtS
        rw [if_pos (by omega), show 6 - 1 - i + 1 = 6 - i by omega]
      rw [e1, sS_n (fun z => by have := i5 (6 - i) 0 (by omega) (by omega) (by omega); omega)]
      have z := (h (i - 1) (by omega)).2 k
      rw [show 6 - 1 - (i - 1) = 6 - i by omega, show m - 1 - (i - 1) = m + 1 - 1 - i by omega] at z
      exact z
  · have er : svr ρ c9 = ρ := if_neg c
    have ec : svc c9 = c9 + 1 := if_neg c
    have es : svs g s ρ c9 = sS s (2 + ρ c9) (g 1) := by
      unfold svs svb
      rw [if_neg c]
    rw [er, ec, es]
    by_cases c0 : i = 0
    · subst c0
      refine ⟨by omega, fun k => ?_⟩
      rw [show c9 + 1 - 1 - 0 = c9 by omega, sS_at]
      exact e k
    · have z := h (i - 1) (by omega)
      refine ⟨by omega, fun k => ?_⟩
      rw [sS_n (fun y => by have := i5 (c9 + 1 - 1 - i) c9 (by omega) (by omega) (by omega); omega)]
      have z2 := z.2 k
      rw [show c9 - 1 - (i - 1) = c9 + 1 - 1 - i by omega, show m - 1 - (i - 1) = m + 1 - 1 - i by omega] at z2
      exact z2
theorem tp_0 {Rw : Nat → Nat → Int32} : tpS 0 Rw s ρ c9 := fun i hi => absurd hi (Nat.not_lt_zero i)
/-- what a sweep leaves -/
def swF (f : Nat) (S : Nat → Nat) (v : Int32) (g1 : Nat → Nat → Int32) : Prop := g1 1 0 = (if v = 0 then 1 else 0) ∧ g1 1 1 = 0 ∧ (∃ t, lsE g1 (if v = 0 then 1 else 5) (if v = 0 then nI f else v) t) ∧ (v = 0 → g1 1 18 = bsL (fun k => g1 1 (39 + k)) (S 0) ∧ g1 1 38 = bsL (fun k => g1 1 (19 + k)) (S 1)) ∧ (v = 1 → bsL (fun k => g1 1 (19 + 20 * (1 - f) + k)) (S f) = -1)
/-- what an interval leaves -/
def tkF (S : Nat → Nat) (g g1 : Nat → Nat → Int32) : Prop := (∃ kd v, (kd = 1 ∨ kd = 3 ∨ kd = 5) ∧ lsE g1 kd v (g1 1 2)) ∨ ∀ x, x < 2 → trD S x g g1
/-- what a deed of the kind kk changes -/
def dX (kk f : Nat) (sep : Int32) (S : Nat → Nat) (g : Nat → Nat → Int32) (v : Int32) (g1 : Nat → Nat → Int32) : Prop := (∃ P, cR P 256 g g1) ∧ (∀ d, apK g d → apK g1 (if kk = 10 then sep else if kk = 0 then 0 else d)) ∧ (kk = 12 → swF f S v g1) ∧ (12 < kk → tkF S g g1)
theorem dX_c {P : Nat → Prop} {K kk f : Nat} {sep v : Int32} (h : cR P K g g1) (hK : K ≤ 256) (hb : bkK g) (hP : ∀ k, pBk k ∨ k = 15 ∨ k = 16 ∨ k = 35 ∨ k = 36 → ¬ P k) (h10 : kk ≠ 10) (h0 : kk ≠ 0) (h12 : kk < 12) : dX kk f sep S g v g1 :=
  ⟨⟨P, cR_k h hK⟩, fun d hd => by
    rw [if_neg h10, if_neg h0]
    exact apK_eq hd hb fun k hk => cR_at h k (hP k hk) (by unfold pBk at hk; omega) (by unfold pBk at hk; omega) (by unfold pBk at hk; omega), fun z => by omega, fun z => by omega⟩
end SJS
/-- a deed: refused, or done -/
def dD (l : Launch) (D : va_G) (cA : FieldType → ClassId) (z0 : Nat) (SK : Nat → Nat) (SV : Nat → Int32) (S : Nat → Nat) (kk f : Nat) (sep : Int32) (y : MethodName) (bytes : ByteArray) (mL d : Nat) (As : List Value) : Prop :=
  ∀ (ad : Nat → Nat), aD (fun q => z0 ≤ q) ad 182 → ∀ (g s : Nat → Nat → Int32) (σ τ : Nat → Nat → Nat) (ρ : Nat → Nat) (c9 : Nat), SJ S g σ τ ρ c9 →
    ∃ (v : Int32) (g1 s1 : Nat → Nat → Int32) (σ1 τ1 : Nat → Nat → Nat) (ρ1 : Nat → Nat) (c1 : Nat), SJ S g1 σ1 τ1 ρ1 c1 ∧ ((kk ≠ 12 ∧ v ≤ -100001 ∧ ∀ k, g1 1 k = g 1 k) ∨ (¬ v ≤ -100001 ∧ tpS 1 (fun _ => g 1) s1 ρ1 c1 ∧ dX kk f sep S g v g1)) ∧
      bF l D cA z0 SK SV ad shF 182 y bytes mL (some .int) d (.ref 0 :: As) (layF g s σ τ ρ c9) (some (.int v)) (layF g1 s1 σ1 τ1 ρ1 c1)
section DDS
variable {l : Launch} {D : va_G} {cA : FieldType → ClassId} {z0 : Nat} {SK : Nat → Nat} {SV : Nat → Int32} {S : Nat → Nat} {kk f : Nat} {sep : Int32} {y : MethodName} {bytes : ByteArray} {mL d : Nat} {As : List Value} {ad : Nat → Nat} {g s g1 : Nat → Nat → Int32} {σ τ σ1 τ1 : Nat → Nat → Nat} {ρ : Nat → Nat} {c9 n : Nat} {v x : Int32} {w : Wd}
theorem dd_no (I : SJ S g σ τ ρ c9) (A : bF l D cA z0 SK SV ad shF 182 y bytes mL (some .int) d (.ref 0 :: As) (layF g s σ τ ρ c9) (some (.int v)) w) (ev : v = x) (hx : x ≤ -100001) (ew : w = layF g s σ τ ρ c9) (hkk : kk ≠ 12) :
    ∃ (v : Int32) (g1 s1 : Nat → Nat → Int32) (σ1 τ1 : Nat → Nat → Nat) (ρ1 : Nat → Nat) (c1 : Nat), SJ S g1 σ1 τ1 ρ1 c1 ∧ ((kk ≠ 12 ∧ v ≤ -100001 ∧ ∀ k, g1 1 k = g 1 k) ∨ (¬ v ≤ -100001 ∧ tpS 1 (fun _ => g 1) s1 ρ1 c1 ∧ dX kk f sep S g v g1)) ∧
      bF l D cA z0 SK SV ad shF 182 y bytes mL (some .int) d (.ref 0 :: As) (layF g s σ τ ρ c9) (some (.int v)) (layF g1 s1 σ1 τ1 ρ1 c1) := by
  subst ew
  subst ev
  exact ⟨v, g, s, σ, τ, ρ, c9, I, Or.inl ⟨hkk, hx, fun _ => rfl⟩, A⟩
theorem dd_ok (I : SJ S g σ τ ρ c9) (A : bF l D cA z0 SK SV ad shF 182 y bytes mL (some .int) d (.ref 0 :: As) (layF g s σ τ ρ c9) (some (.int v)) w) (ev : v = x) (hx : ¬ x ≤ -100001) (ew : w = layF g1 (svs g s ρ c9) σ1 τ1 (svr ρ c9) (svc c9)) (hσ : pmF σ1 τ1) (hi : invK g1 n S) (hd : dX kk f sep S g x g1) :
    ∃ (v : Int32) (g1 s1 : Nat → Nat → Int32) (σ1 τ1 : Nat → Nat → Nat) (ρ1 : Nat → Nat) (c1 : Nat), SJ S g1 σ1 τ1 ρ1 c1 ∧ ((kk ≠ 12 ∧ v ≤ -100001 ∧ ∀ k, g1 1 k = g 1 k) ∨ (¬ v ≤ -100001 ∧ tpS 1 (fun _ => g 1) s1 ρ1 c1 ∧ dX kk f sep S g v g1)) ∧
      bF l D cA z0 SK SV ad shF 182 y bytes mL (some .int) d (.ref 0 :: As) (layF g s σ τ ρ c9) (some (.int v)) (layF g1 s1 σ1 τ1 ρ1 c1) := by
  subst ew
  subst ev
  exact ⟨v, g1, _, σ1, τ1, _, _, sj_save I hσ hi, Or.inr ⟨hx, tp_save I (m := 0) (Rw := fun _ => g 1) (by omega) tp_0 (fun _ => rfl), hd⟩, A⟩
theorem ng_nI {a : Nat} (h : a < 2 ^ 31) : ¬ nI a ≤ -100001 := by
  intro z
  rw [Int32.le_iff_toInt_le, nI_toInt h] at z
  have e : (-100001 : Int32).toInt = -100001 := by decide
  omega
theorem ng_x {a : Nat} (e : x = nI a) (h : a < 2 ^ 31) : ¬ x ≤ -100001 := by rw [e]; exact ng_nI h
theorem ng_N : ¬ (-100000 : Int32) ≤ -100001 := by decide
theorem ng_pos (h : 0 ≤ x) : ¬ x ≤ -100001 := by
  intro z
  exact absurd (Int32.le_trans h z) (by decide)
theorem ng_b01 (h : b01 x) : ¬ x ≤ -100001 := by
  rcases h with rfl | rfl <;> decide
theorem ng_bm {S9 : Nat} (hS : S9 ≤ 16) (h : x = -100000 ∨ bmK S9 x) : ¬ x ≤ -100001 := by
  rcases h with rfl | ⟨b, hb, rfl⟩
  · exact ng_N
  · exact ng_nI (by omega)
end DDS
