/-! WHAT JOINS THE CLASS AND THE REFERENCE BETWEEN TWO CALLS -/
/-- a saved row of the class and one of the reference -/
def prK (f h : Nat → Int32) : Prop := ∃ (n : Nat) (S : Nat → Nat), invK (fun _ => f) n S ∧ invK (fun _ => h) n S ∧ leG n (fun _ => f) (fun _ => h)
/-- what a change keeps: the number of saved rows, the text and the saved rows -/
def kpG (a a' : Nat → Nat → Int32) : Prop := a' 0 1 = a 0 1 ∧ a' 0 4 = a 0 4 ∧ (∀ k, a' 3 k = a 3 k) ∧ ∀ k, 172 ≤ k → k < 1204 → a' 1 k = a 1 k
theorem kpG_of {a a' : Nat → Nat → Int32} (h : keG a a') : kpG a a' := ⟨h 0 1 (by omega) (by omega), h 0 4 (by omega) (by omega), fun k => h 3 k (by omega) (by omega), fun k h1 _ => h 1 k (fun _ => h1) (by omega)⟩
theorem kpG_rf (a : Nat → Nat → Int32) : kpG a a := kpG_of (keG_rf a)
def SI (g s : Nat → Nat → Int32) (σ τ : Nat → Nat → Nat) (ρ : Nat → Nat) (c9 : Nat) (gr : Nat → Nat → Int32) : Prop :=
  pmF σ τ ∧ (∃ (n : Nat) (S : Nat → Nat), invK g n S ∧ invK gr n S ∧ leG n g gr) ∧ c9 ≤ 6 ∧ (∀ k, k < 6 → ρ k < 6) ∧ (∀ i j, i < 6 → j < 6 → ρ i = ρ j → i = j) ∧ gr 0 1 = nI c9 ∧ (∀ i, i < c9 → prK (s (2 + ρ i)) (fun k => gr 1 (172 * (i + 1) + k))) ∧ gr 0 4 = g 0 4 ∧ lnI g ∧ ∀ k, gr 3 k = g 3 k
theorem nIij {a b : Nat} (ha : a < 2 ^ 31) (hb : b < 2 ^ 31) (z : nI a = nI b) : a = b := by
  have h := congrArg Int32.toInt z
  rw [nI_toInt ha, nI_toInt hb] at h
  omega
theorem inv_bo {g : Nat → Nat → Int32} {n : Nat} {S : Nat → Nat} (h : invK g n S) : bo3 (g 1) := by
  obtain ⟨-, -, -, -, h5, h6, h7, -⟩ := h
  intro k hk
  rcases hk with rfl | rfl | rfl
  · exact h5
  · exact h6
  · exact h7
theorem inv_le {g : Nat → Nat → Int32} {n : Nat} {S : Nat → Nat} (h : invK g n S) {g' : Nat → Nat → Int32} (e : ∀ k, k < 172 → g' 1 k = g 1 k) : invK g' n S :=
  inv_eq h (fun k _ h2 _ => e k (by omega)) (evK_at h.1.2.2.1 (e 14 (by omega))) (e 0 (by omega))
theorem inv_n8 {g : Nat → Nat → Int32} {n : Nat} {S : Nat → Nat} (h : invK g n S) : n ≤ 8 := h.1.1.2.1
theorem inv_ev {g : Nat → Nat → Int32} {n : Nat} {S : Nat → Nat} (h : invK g n S) : evK g := h.1.2.2.1
theorem inv_bk {g : Nat → Nat → Int32} {n : Nat} {S : Nat → Nat} (h : invK g n S) : bkK g := h.1.2.2.2
theorem inv_sec {g : Nat → Nat → Int32} {n : Nat} {S : Nat → Nat} (h : invK g n S) : secK g S := h.1.2.1
theorem inv_st {g : Nat → Nat → Int32} {n : Nat} {S : Nat → Nat} (h : invK g n S) : statR g n := h.1.1
theorem inv_rl {a b : Nat → Nat → Int32} {n : Nat} {S : Nat → Nat} (h : invK a n S) (le : leG n a b) : rlG n a b a b := rlG_of (inv_n8 h) le (inv_ev h) (inv_bk h)
/-- leG looks at the 172 places alone -/
theorem le_cg {n : Nat} {a b a' b' : Nat → Nat → Int32} (hn : n ≤ 8) (he : evK a) (hk : bkK a) (h : leG n a b) (ha : ∀ k, k < 172 → a' 1 k = a 1 k) (hb : ∀ k, k < 172 → b' 1 k = b 1 k) : leG n a' b' := by
  obtain ⟨E, hE, hE2⟩ := he
  obtain ⟨B, hB, hB2⟩ := hk
  refine ⟨fun k h1 => ?_, fun k h1 h2 => ?_, fun k h1 h2 => ?_⟩
  · rw [ha k (by omega), hb k (by omega)]; exact h.1 k h1
  · rw [ha 13 (by omega)] at h2
    have h3 := h2
    rw [hB, nI_clamp (by omega)] at h3
    rw [ha k (by omega), hb k (by omega)]; exact h.2.1 k h1 h2
  · rw [ha 14 (by omega)] at h2
    have h3 := h2
    rw [hE, nI_clamp (by omega)] at h3
    rw [ha k (by omega), hb k (by omega)]; exact h.2.2 k h1 h2
theorem prK_cg {f h f' h' : Nat → Int32} (e1 : ∀ k, k < 172 → f' k = f k) (e2 : ∀ k, k < 172 → h' k = h k) (H : prK f h) : prK f' h' := by
  obtain ⟨n, S, h1, h2, h3⟩ := H
  exact ⟨n, S, inv_le h1 (g' := fun _ => f') e1, inv_le h2 (g' := fun _ => h') e2, le_cg (inv_n8 h1) (inv_ev h1) (inv_bk h1) h3 e1 e2⟩
theorem prK_of {g gr : Nat → Nat → Int32} {n : Nat} {S : Nat → Nat} {f h : Nat → Int32} (h1 : invK g n S) (h2 : invK gr n S) (h3 : leG n g gr) (e1 : ∀ k, k < 172 → f k = g 1 k) (e2 : ∀ k, k < 172 → h k = gr 1 k) : prK f h :=
  ⟨n, S, inv_le h1 (g' := fun _ => f) e1, inv_le h2 (g' := fun _ => h) e2, le_cg (inv_n8 h1) (inv_ev h1) (inv_bk h1) h3 e1 e2⟩
section SIS
variable {g s gr g' gr' : Nat → Nat → Int32} {σ τ σ' τ' : Nat → Nat → Nat} {ρ : Nat → Nat} {c9 : Nat}
theorem SI.sv (I : SI g s σ τ ρ c9 gr) : svK gr := ⟨c9, I.2.2.2.2.2.1, I.2.2.1⟩
theorem SI.pm (I : SI g s σ τ ρ c9 gr) : pmF σ τ := I.1
theorem SI.rho (I : SI g s σ τ ρ c9 gr) : ∀ k, k < 6 → ρ k < 6 := I.2.2.2.1
theorem SI.c6 (I : SI g s σ τ ρ c9 gr) : c9 ≤ 6 := I.2.2.1
theorem SI.bo (I : SI g s σ τ ρ c9 gr) : bo3 (g 1) := by
  obtain ⟨n, S, h, -⟩ := I.2.1
  exact inv_bo h
theorem SI.ln (I : SI g s σ τ ρ c9 gr) : lnI g := I.2.2.2.2.2.2.2.2.1
theorem SI.lr (I : SI g s σ τ ρ c9 gr) : lnI gr := by
  have h := I.ln
  have e := I.2.2.2.2.2.2.2.1
  unfold lnI at h ⊢
  rw [e]; exact h
theorem si_upw (I : SI g s σ τ ρ c9 gr) {n : Nat} {S : Nat → Nat} (hσ : pmF σ' τ') (h1 : invK g' n S) (h2 : invK gr' n S) (le : leG n g' gr') (k4 : g' 0 4 = g 0 4) (k3 : ∀ k, g' 3 k = g 3 k) (kb : kpG gr gr') : SI g' s σ' τ' ρ c9 gr' := by
  obtain ⟨-, -, i3, i4, i5, i6, i7, i8, i9, i10⟩ := I
  refine ⟨hσ, ⟨n, S, h1, h2, le⟩, i3, i4, i5, kb.1.trans i6, fun i hi => ?_, by rw [kb.2.1, k4]; exact i8, ?_, ?_⟩
  · exact prK_cg (fun _ _ => rfl) (fun k hk => kb.2.2.2 _ (by omega) (by omega)) (i7 i hi)
  · unfold lnI
    rw [k4]; exact i9
  · intro k
    rw [kb.2.2.1, k3]; exact i10 k
theorem si_upd (I : SI g s σ τ ρ c9 gr) {n : Nat} {S : Nat → Nat} (hσ : pmF σ' τ') (h1 : invK g' n S) (h2 : invK gr' n S) (le : leG n g' gr') (ka : kpG g g') (kb : kpG gr gr') : SI g' s σ' τ' ρ c9 gr' := si_upw I hσ h1 h2 le ka.2.1 ka.2.2.1 kb
theorem si_save (I : SI g s σ τ ρ c9 gr) : SI g (svs g s ρ c9) σ τ (svr ρ c9) (svc c9) (svG gr) := by
  obtain ⟨i1, ⟨n, S, h1, h2, h3⟩, i3, i4, i5, i6, i7, i8, i9, i10⟩ := I
  have hn8 := inv_n8 h1
  have g2 : invK (svG gr) n S := inv_le h2 (fun k hk => sv_at k hk)
  have g3 : leG n g (svG gr) := le_cg hn8 (inv_ev h1) (inv_bk h1) h3 (fun _ _ => rfl) (fun k hk => sv_at k hk)
  have t4 : svG gr 0 4 = g 0 4 := (sv_ne (by omega)).trans i8
  have t3 : ∀ k, svG gr 3 k = g 3 k := fun k => (sv_ne (by omega)).trans (i10 k)
  by_cases c : c9 = 6
  · subst c
    have e6 : gr 0 1 = 6 := i6
    refine ⟨i1, ⟨n, S, h1, g2, g3⟩, by unfold svc; rw [if_pos rfl]; omega, fun k hk => ?_, fun i j hi hj e => ?_, ?_, fun i hi => ?_, t4, i9, t3⟩
    · unfold svr
      rw [if_pos rfl]
      unfold rtS
      split
      · exact i4 _ (by omega)
      · exact i4 0 (by omega)
    · unfold svr at e
      rw [if_pos rfl] at e
      unfold rtS at e
      by_cases ci : i < 5 <;> by_cases cj : j < 5
      · rw [if_pos ci, if_pos cj] at e
        have := i5 _ _ (by omega) (by omega) e
        omega
      · rw [if_pos ci, if_neg cj] at e
        have := i5 _ _ (by omega) (by omega) e
        omega
      · rw [if_neg ci, if_pos cj] at e
        have := i5 _ _ (by omega) (by omega) e
        omega
      · omega
    · unfold svG svc
      rw [if_pos e6, if_pos rfl]
      exact i6
    · have hi6 : i < 6 := hi
      unfold svr svs svb
      rw [if_pos rfl, if_pos rfl]
      have es : ∀ k, svG gr 1 k = cpyG (shG gr 6) 0 1032 172 1 k := fun k => by unfold svG; rw [if_pos e6]
      by_cases ci : i < 5
      · have e1 : rtS ρ i = ρ (i + 1) := if_pos ci
        have e2 : sS s (2 + ρ 0) (g 1) (2 + rtS ρ i) = s (2 + ρ (i + 1)) := by
          rw [e1]
          refine sS_n (fun z => ?_)
          have := i5 (i + 1) 0 (by omega) (by omega) (by omega)
          omega
        rw [e2]
        refine prK_cg (fun _ _ => rfl) (fun k hk => ?_) (i7 (i + 1) (by omega))
        rw [es]
        unfold cpyG
        rw [if_neg (by omega)]
        unfold shG
        rw [if_pos (by omega), show 172 * (i + 1) + k + 172 = 172 * (i + 1 + 1) + k by omega]
      · have e1 : rtS ρ i = ρ 0 := if_neg ci
        have e2 : sS s (2 + ρ 0) (g 1) (2 + rtS ρ i) = g 1 := by
          rw [e1]
          exact if_pos rfl
        rw [e2]
        refine prK_of h1 h2 h3 (fun _ _ => rfl) (fun k hk => ?_)
        rw [es]
        unfold cpyG
        rw [if_pos (by omega)]
        unfold shG
        rw [if_neg (by omega), show 0 + (172 * (i + 1) + k - 1032) = k by omega]
  · have e6 : ¬ gr 0 1 = 6 := by
      rw [i6]
      exact fun z => c (nIij (by omega) (by omega) z)
    have hcl : (gr 0 1).toNatClampNeg = c9 := by rw [i6]; exact nI_clamp (by omega)
    have hs : svG gr = cpyG (ug gr 0 1 (gr 0 1 + 1)) 0 (172 * (c9 + 1)) 172 := by
      unfold svG
      rw [if_neg e6, hcl]
    have ec : svc c9 = c9 + 1 := if_neg c
    have er : svr ρ c9 = ρ := if_neg c
    have eb : svb ρ c9 = ρ c9 := if_neg c
    rw [ec, er]
    refine ⟨i1, ⟨n, S, h1, g2, g3⟩, by omega, i4, i5, ?_, fun i hi => ?_, t4, i9, t3⟩
    · rw [hs]
      unfold cpyG
      rw [if_neg (by omega), ug_same, i6]
      exact nI_1 c9
    · unfold svs
      rw [eb]
      by_cases ci : i = c9
      · subst ci
        have e2 : sS s (2 + ρ i) (g 1) (2 + ρ i) = g 1 := if_pos rfl
        rw [e2]
        refine prK_of h1 h2 h3 (fun _ _ => rfl) (fun k hk => ?_)
        rw [hs]
        unfold cpyG
        rw [if_pos (by omega), ug_ne (by omega), show 0 + (172 * (i + 1) + k - 172 * (i + 1)) = k by omega]
      · have e2 : sS s (2 + ρ c9) (g 1) (2 + ρ i) = s (2 + ρ i) := by
          refine sS_n (fun z => ?_)
          have := i5 i c9 (by omega) (by omega) (by omega)
          omega
        rw [e2]
        refine prK_cg (fun _ _ => rfl) (fun k hk => ?_) (i7 i (by omega))
        rw [hs]
        unfold cpyG
        rw [if_neg (by omega), ug_ne (by omega)]
end SIS
/-! the two ways of asking whether a number lies within -/
theorem lp {x y : Int32} {n : Nat} (hy : y = nI n) (hn : n < 2 ^ 30) : (0 ≤ x ∧ x ≤ y - 1) ↔ (¬ x < 0 ∧ ¬ y ≤ x) := by
  rw [Int32.not_lt, Int32.not_le, hy, show (1 : Int32) = nI 1 from rfl, Int32.le_iff_toInt_le (x := x), Int32.lt_iff_toInt_lt, pk_sub_toInt hn (by omega), nI_toInt (by omega)]
  exact ⟨fun h => ⟨h.1, by have := h.2; omega⟩, fun h => ⟨h.1, by have := h.2; omega⟩⟩
theorem wnI_0 {x a b : Int32} : (wnI x a b = 0) = ¬ (a ≤ x ∧ x ≤ b) := by
  unfold wnI
  apply propext
  rw [← Int32.not_lt, ← Int32.not_lt]
  by_cases h1 : x < a
  · rw [if_pos h1]; exact ⟨fun _ h => h.1 h1, fun _ => rfl⟩
  · rw [if_neg h1]
    by_cases h2 : b < x
    · rw [if_pos h2]; exact ⟨fun _ h => h.2 h2, fun _ => rfl⟩
    · rw [if_neg h2]; exact ⟨fun h => absurd h (by decide), fun h => absurd ⟨h1, h2⟩ h⟩
theorem isI_0 {x : Int32} : (isI x = 0) = ¬ (0 ≤ x ∧ x ≤ 1) := by
  unfold isI
  apply propext
  by_cases h0 : x = 0
  · subst h0; decide
  · rw [if_neg h0]
    by_cases h1 : x = 1
    · subst h1; decide
    · rw [if_neg h1]
      refine ⟨fun _ h => ?_, fun _ => rfl⟩
      obtain ⟨s, h2, rfl⟩ := stat_of h
      rcases (show s = 0 ∨ s = 1 by omega) with rfl | rfl
      · exact h0 rfl
      · exact h1 rfl
theorem if3 {P Q : Prop} [Decidable P] [Decidable Q] : ((if P then (0 : Int32) else if Q then 0 else 1) = 0) = ¬ (¬ P ∧ ¬ Q) := by
  apply propext
  by_cases h1 : P
  · rw [if_pos h1]; exact ⟨fun _ h => h.1 h1, fun _ => rfl⟩
  · rw [if_neg h1]
    by_cases h2 : Q
    · rw [if_pos h2]; exact ⟨fun _ h => h.2 h2, fun _ => rfl⟩
    · rw [if_neg h2]; exact ⟨fun h => absurd h (by decide), fun h => absurd ⟨h1, h2⟩ h⟩
theorem hsC_0 {x y : Int32} {n : Nat} (hy : y = nI n) (hn : n < 2 ^ 30) : (hsC y x = 0) = ¬ (0 ≤ x ∧ x ≤ y - 1) := by
  unfold hsC
  rw [if3, lp hy hn]
theorem hbC_0 {x y : Int32} {n : Nat} (hy : y = nI n) (hn : n ≤ 16) : (hbC y x = 0) = ¬ (0 ≤ x ∧ x ≤ 6 * y - 1) := by
  unfold hbC
  rw [if3, lp (n := 6 * n) (by rw [hy, show (6 : Int32) = nI 6 from rfl, pk_mul]) (by omega)]
theorem hoC_0 {x y : Int32} {n : Nat} (hy : y = nI n) (hn : n ≤ 16) : (hoC y x = 0) = ¬ (x = -1 ∨ (0 ≤ x ∧ x ≤ 6 * y - 1)) := by
  unfold hoC
  apply propext
  by_cases h1 : x = -1
  · rw [if_pos h1]; exact ⟨fun h => absurd h (by decide), fun h => absurd (Or.inl h1) h⟩
  · rw [if_neg h1]
    have e := hbC_0 (x := x) hy hn
    by_cases h2 : (0 ≤ x ∧ x ≤ 6 * y - 1)
    · rw [if_neg (by rw [e]; exact fun z => z h2)]; exact ⟨fun h => absurd h (by decide), fun h => absurd (Or.inr h2) h⟩
    · rw [if_pos (by rw [e]; exact h2)]; exact ⟨fun _ h => h.elim h1 h2, fun _ => rfl⟩
theorem has_x {x y : Int32} {n N : Nat} {Nl : Int32} (hy : y = nI n) (hn : n ≤ N) (hN : N < 2 ^ 30) (hNl : Nl = nI N) (h : ¬ (0 ≤ x ∧ x ≤ y - 1)) : (if x < 0 then (0 : Int32) else (if y ≤ x then (0) else (if Nl ≤ x then (0) else (1)))) = 0 := by
  rw [lp hy (by omega)] at h
  split
  · rfl
  · next h1 =>
    split
    · rfl
    · next h2 => exact absurd ⟨h1, h2⟩ h
theorem hp_x {x : Int32} {n : Nat} {g : Nat → Nat → Int32} (hy : g 1 12 = nI n) (hn : n ≤ 8) (h : ¬ (0 ≤ x ∧ x ≤ g 1 12 - 1)) : cs_hasPath_r x g = 0 := has_x (N := 8) hy hn (by omega) rfl h
theorem hb_x {x : Int32} {n : Nat} {g : Nat → Nat → Int32} (hy : g 1 13 = nI n) (hn : n ≤ 3) (h : ¬ (0 ≤ x ∧ x ≤ g 1 13 - 1)) : cs_bhas_r x g = 0 := has_x (N := 3) hy hn (by omega) rfl h
theorem he_x {x : Int32} {n : Nat} {g : Nat → Nat → Int32} (hy : g 1 14 = nI n) (hn : n ≤ 20) (h : ¬ (0 ≤ x ∧ x ≤ g 1 14 - 1)) : cs_ehas_r x g = 0 := by
  rw [lp hy (by omega)] at h
  unfold cs_ehas_r
  split
  · rfl
  · next h1 =>
    split
    · rfl
    · next h2 => exact absurd ⟨h1, h2⟩ h
/-! a call of both -/
def smI (l : Launch) (D : va_G) (cA : FieldType → ClassId) (z0 : Nat) (SK SV : Nat → Nat) (y : MethodName) (by1 : ByteArray) (mL d : Nat) (y2 : MethodName) (by2 : ByteArray) (mL2 d2 : Nat) (As : List Value) : Prop :=
  ∀ (ad am : Nat → Nat), aD (fun q => z0 ≤ q) ad 182 → aD (fun q => z0 ≤ q) am 9 → adK ad SK SV → ∀ (g s : Nat → Nat → Int32) (σ τ : Nat → Nat → Nat) (ρ : Nat → Nat) (c9 : Nat) (gr : Nat → Nat → Int32) (h : Int64), SI g s σ τ ρ c9 gr →
    ∃ (v : Int32) (g1 s1 : Nat → Nat → Int32) (σ1 τ1 : Nat → Nat → Nat) (ρ1 : Nat → Nat) (c1 : Nat) (gr1 : Nat → Nat → Int32) (h1 : Int64), SI g1 s1 σ1 τ1 ρ1 c1 gr1 ∧
      bF l D cA z0 SK SV ad shF 182 y by1 mL (some .int) d (.ref 0 :: As) (layF g s σ τ ρ c9) (some (.int v)) (layF g1 s1 σ1 τ1 ρ1 c1) ∧
      bF l D cA z0 SK SV am shM 9 y2 by2 mL2 (some .int) d2 (.ref 0 :: As) (layM gr h) (some (.int v)) (layM gr1 h1)
section SMI
variable {l : Launch} {D : va_G} {cA : FieldType → ClassId} {z0 : Nat} {SK SV : Nat → Nat} {ad am : Nat → Nat} {y : MethodName} {by1 : ByteArray} {mL d : Nat} {y2 : MethodName} {by2 : ByteArray} {mL2 d2 : Nat} {As : List Value} {g s g1 s1 : Nat → Nat → Int32} {σ τ σ1 τ1 : Nat → Nat → Nat} {ρ ρ1 : Nat → Nat} {c9 c1 : Nat} {gr gr1 : Nat → Nat → Int32} {h h1 : Int64} {v v2 : Int32} {w w2 : Wd}
theorem sm_mk (A : bF l D cA z0 SK SV ad shF 182 y by1 mL (some .int) d (.ref 0 :: As) (layF g s σ τ ρ c9) (some (.int v)) w) (B : bF l D cA z0 SK SV am shM 9 y2 by2 mL2 (some .int) d2 (.ref 0 :: As) (layM gr h) (some (.int v2)) w2) (I : SI g1 s1 σ1 τ1 ρ1 c1 gr1) (e : v2 = v) (e1 : w = layF g1 s1 σ1 τ1 ρ1 c1) (e2 : w2 = layM gr1 h1) :
    ∃ (v : Int32) (g1 s1 : Nat → Nat → Int32) (σ1 τ1 : Nat → Nat → Nat) (ρ1 : Nat → Nat) (c1 : Nat) (gr1 : Nat → Nat → Int32) (h1 : Int64), SI g1 s1 σ1 τ1 ρ1 c1 gr1 ∧
      bF l D cA z0 SK SV ad shF 182 y by1 mL (some .int) d (.ref 0 :: As) (layF g s σ τ ρ c9) (some (.int v)) (layF g1 s1 σ1 τ1 ρ1 c1) ∧
      bF l D cA z0 SK SV am shM 9 y2 by2 mL2 (some .int) d2 (.ref 0 :: As) (layM gr h) (some (.int v)) (layM gr1 h1) := by
  subst e e1 e2
  exact ⟨_, g1, s1, σ1, τ1, ρ1, c1, gr1, h1, I, A, B⟩
end SMI
