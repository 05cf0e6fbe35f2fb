/-! TWO STATES THAT AGREE IN ALL THAT COUNTS (places of paths, backups and events beyond their number don't) -/
def leG (n : Nat) (a b : Nat → Nat → Int32) : Prop := (∀ k, k < 55 + 6 * n → b 1 k = a 1 k) ∧ (∀ k, 103 ≤ k → k < 103 + 3 * (a 1 13).toNatClampNeg → b 1 k = a 1 k) ∧ ∀ k, 112 ≤ k → k < 112 + 3 * (a 1 14).toNatClampNeg → b 1 k = a 1 k
/-- what lies outside the state is kept, scratch aside -/
def keG (a a' : Nat → Nat → Int32) : Prop := ∀ i k, (i = 1 → 172 ≤ k) → ¬ ((i = 0 ∧ 5 ≤ k ∧ k ≤ 7) ∨ i = 4) → a' i k = a i k
def rlG (n : Nat) (a0 b0 a b : Nat → Nat → Int32) : Prop := n ≤ 8 ∧ leG n a b ∧ keG a0 a ∧ keG b0 b ∧ evK a ∧ bkK a
theorem rlG.n8 {n : Nat} {a0 b0 a b : Nat → Nat → Int32} (h : rlG n a0 b0 a b) : n ≤ 8 := h.1
theorem rlG.le {n : Nat} {a0 b0 a b : Nat → Nat → Int32} (h : rlG n a0 b0 a b) : leG n a b := h.2.1
theorem rlG.ka {n : Nat} {a0 b0 a b : Nat → Nat → Int32} (h : rlG n a0 b0 a b) : keG a0 a := h.2.2.1
theorem rlG.kb {n : Nat} {a0 b0 a b : Nat → Nat → Int32} (h : rlG n a0 b0 a b) : keG b0 b := h.2.2.2.1
theorem rlG.ev {n : Nat} {a0 b0 a b : Nat → Nat → Int32} (h : rlG n a0 b0 a b) : evK a := h.2.2.2.2.1
theorem rlG.bk {n : Nat} {a0 b0 a b : Nat → Nat → Int32} (h : rlG n a0 b0 a b) : bkK a := h.2.2.2.2.2
theorem keG_rf (a : Nat → Nat → Int32) : keG a a := fun _ _ _ _ => rfl
theorem keG_tr {a b d : Nat → Nat → Int32} (h : keG a b) (h2 : keG b d) : keG a d := fun i k x y => (h2 i k x y).trans (h i k x y)
theorem keG_ug {a b : Nat → Nat → Int32} {i k : Nat} {x : Int32} (hk : (i = 1 ∧ k < 172) ∨ (i = 0 ∧ 5 ≤ k ∧ k ≤ 7) ∨ i = 4) (h : keG a b) : keG a (ug b i k x) := keG_tr h fun i' k' h1 h2 => ug_ne (by
  rintro ⟨rfl, rfl⟩
  rcases hk with ⟨e, h3⟩ | h3
  · have := h1 e; omega
  · exact h2 h3)
theorem rlG_of {n : Nat} {a b : Nat → Nat → Int32} (hn : n ≤ 8) (h : leG n a b) (he : evK a) (hk : bkK a) : rlG n a b a b := ⟨hn, h, keG_rf a, keG_rf b, he, hk⟩
section RL
variable {n : Nat} {a0 b0 a b : Nat → Nat → Int32}
theorem rlG.at_ (h : rlG n a0 b0 a b) {k : Nat} (hk : k < 55 + 6 * n) : b 1 k = a 1 k := h.le.1 k hk
theorem rlG.sc (h : rlG n a0 b0 a b) {k : Nat} (hk : k < 55) : b 1 k = a 1 k := h.le.1 k (by omega)
theorem rl_ug (h : rlG n a0 b0 a b) {k : Nat} {x y : Int32} (hk : k < 55 + 6 * n) (h3 : k ≠ 13) (h4 : k ≠ 14) (e : y = x) : rlG n a0 b0 (ug a 1 k x) (ug b 1 k y) := by
  subst e
  have h8 := h.n8
  refine ⟨h8, ⟨fun j hj => ?_, fun j h1 h2 => ?_, fun j h1 h2 => ?_⟩, keG_ug (Or.inl ⟨rfl, by omega⟩) h.ka, keG_ug (Or.inl ⟨rfl, by omega⟩) h.kb, evK_at h.ev (ug_ne (by omega)), bkK_at h.bk (ug_ne (by omega))⟩
  · by_cases c : j = k
    · subst c; rw [ug_same, ug_same]
    · rw [ug_ne (by omega), ug_ne (by omega)]; exact h.le.1 j hj
  · rw [ug_ne (by omega)] at h2
    rw [ug_ne (by omega), ug_ne (by omega)]; exact h.le.2.1 j h1 h2
  · rw [ug_ne (by omega)] at h2
    rw [ug_ne (by omega), ug_ne (by omega)]; exact h.le.2.2 j h1 h2
theorem rl_u0 (h : rlG n a0 b0 a b) {k : Nat} {x y : Int32} (hk : 5 ≤ k ∧ k ≤ 7) : rlG n a0 b0 (ug a 0 k x) (ug b 0 k y) := by
  refine ⟨h.n8, ⟨fun j hj => ?_, fun j h1 h2 => ?_, fun j h1 h2 => ?_⟩, keG_ug (Or.inr (Or.inl ⟨rfl, hk⟩)) h.ka, keG_ug (Or.inr (Or.inl ⟨rfl, hk⟩)) h.kb, evK_at h.ev (ug_ne (by omega)), bkK_at h.bk (ug_ne (by omega))⟩
  · rw [ug_ne (by omega), ug_ne (by omega)]; exact h.le.1 j hj
  · rw [ug_ne (by omega)] at h2
    rw [ug_ne (by omega), ug_ne (by omega)]; exact h.le.2.1 j h1 h2
  · rw [ug_ne (by omega)] at h2
    rw [ug_ne (by omega), ug_ne (by omega)]; exact h.le.2.2 j h1 h2
theorem keG_fill {x y : Nat → Nat → Int32} {lo z : Nat} {v : Int32} (hl : lo + z ≤ 172) (h : keG x y) : keG x (fillG y lo z v) := keG_tr h fun i k h1 _ => by
  unfold fillG
  exact if_neg fun ⟨e, _, h3⟩ => by have := h1 e; omega
theorem rl_fill (h : rlG n a0 b0 a b) {lo : Nat} {v : Int32} (hl : lo = 19 ∨ lo = 39) : rlG n a0 b0 (fillG a lo 16 v) (fillG b lo 16 v) := by
  have e13 : fillG a lo 16 v 1 13 = a 1 13 := fill_at (by omega)
  have e14 : fillG a lo 16 v 1 14 = a 1 14 := fill_at (by omega)
  refine ⟨h.n8, ⟨fun j hj => ?_, fun j h1 h2 => ?_, fun j h1 h2 => ?_⟩, keG_fill (by omega) h.ka, keG_fill (by omega) h.kb, evK_at h.ev e14, bkK_at h.bk e13⟩
  · unfold fillG
    split
    · rfl
    · exact h.le.1 j hj
  · rw [e13] at h2
    rw [fill_at (by omega), fill_at (by omega)]; exact h.le.2.1 j h1 h2
  · rw [e14] at h2
    rw [fill_at (by omega), fill_at (by omega)]; exact h.le.2.2 j h1 h2
/-! values -/
theorem rl_lev (h : rlG n a0 b0 a b) {fr q : Nat} {x y : Int32} (hf : fr < 2) (hq : q < n) : levG b fr x y q = levG a fr x y q := by
  have h8 := h.n8
  unfold levG
  rw [h.sc (k := 15 + 20 * fr + 2) (by omega), h.sc (k := 15) (by omega), h.sc (k := 16) (by omega), h.sc (k := 35) (by omega), h.sc (k := 36) (by omega), h.at_ (k := 55 + 6 * q + 0) (by omega), h.at_ (k := 55 + 6 * q + 1) (by omega), h.at_ (k := 55 + 6 * q + 2) (by omega), h.at_ (k := 55 + 6 * q + 3) (by omega)]
theorem rl_rec (h : rlG n a0 b0 a b) {fr : Nat} {x y : Int32} (hf : fr < 2) : ∀ q, q ≤ n → recG b fr x y q = recG a fr x y q
  | 0, _ => rfl
  | q + 1, hq => by
    unfold recG
    rw [rl_rec h hf q (by omega), rl_lev h hf (by omega)]
theorem rl_qua (h : rlG n a0 b0 a b) {fr : Nat} {x y : Int32} (hf : fr < 2) : quaG b fr x y n = quaG a fr x y n := by
  unfold quaG
  rw [rl_rec h hf n (Nat.le_refl n)]
theorem rl_fade (h : rlG n a0 b0 a b) : fadeG b = fadeG a := by
  unfold fadeG
  rw [h.sc (k := 5) (by omega), h.sc (k := 7) (by omega)]
theorem rl_msr (h : rlG n a0 b0 a b) {fr : Nat} {x y : Int32} (hf : fr < 2) : msrG b fr x y n = msrG a fr x y n := by
  unfold msrG
  rw [rl_qua h hf, rl_fade h]
theorem rl_hrd (h : rlG n a0 b0 a b) {fr : Nat} {x y : Int32} (hf : fr < 2) : hrdG b fr x y n = hrdG a fr x y n := by
  unfold hrdG
  rw [rl_msr h hf, h.sc (k := 6) (by omega)]
theorem rl_snt (h : rlG n a0 b0 a b) {fr : Nat} {x y t : Int32} : rlG n a0 b0 (sntG a fr x y t n) (sntG b fr x y t n) := by
  unfold sntG
  refine rl_u0 (rl_ug (rl_ug (rl_ug h (by omega) (by omega) (by omega) ?_) (by omega) (by omega) (by omega) ?_) (by omega) (by omega) (by omega) ?_) (by omega)
  · rw [h.sc (k := 5) (by omega)]
  · rw [h.sc (k := 3) (by omega)]
  · rw [h.sc (k := 4) (by omega)]
theorem rl_snt5 (h : rlG n a0 b0 a b) {fr : Nat} {x y t : Int32} (hf : fr < 2) : sntG b fr x y t n 0 5 = sntG a fr x y t n 0 5 := by
  unfold sntG
  rw [ug_same, ug_same]
  exact rl_msr h hf
/-! sweeps -/
theorem rl_swpS (h : rlG n a0 b0 a b) {fr k : Nat} (hf : fr < 2) (hk : k < 16) : rlG n a0 b0 (swpS fr n a k) (swpS fr n b k) := by
  unfold swpS
  rw [rl_hrd h hf]
  split
  · exact rl_ug (rl_snt h) (by omega) (by omega) (by omega) (rl_snt5 h hf)
  · exact rl_snt h
theorem rl_swpG {fr : Nat} (hf : fr < 2) : ∀ (k : Nat) {a b : Nat → Nat → Int32}, k ≤ 16 → rlG n a0 b0 a b → rlG n a0 b0 (swpG fr n k a) (swpG fr n k b)
  | 0, _, _, _, h => h
  | k + 1, _, _, hk, h => by
    unfold swpG
    exact rl_swpG hf k (by omega) (rl_swpS h hf (by omega))
theorem rl_swpA {fr : Nat} (hf : fr < 2) : ∀ (k : Nat) {a b : Nat → Nat → Int32} {z : Bool}, k ≤ 16 → rlG n a0 b0 a b → swpA fr n k b z = swpA fr n k a z
  | 0, _, _, _, _, _ => rfl
  | k + 1, _, _, _, hk, h => by
    unfold swpA
    rw [rl_hrd h hf]
    exact rl_swpA hf k (by omega) (rl_swpS h hf (by omega))
/-! events and backups -/
theorem keG_nte1 {x y : Nat → Nat → Int32} {E : Nat} {kd v : Int32} (hE : E < 20) (h : keG x y) : keG x (nte1 y E kd v) := by
  unfold nte1
  exact keG_ug (Or.inl ⟨rfl, by omega⟩) (keG_ug (Or.inl ⟨rfl, by omega⟩) (keG_ug (Or.inl ⟨rfl, by omega⟩) (keG_ug (Or.inl ⟨rfl, by omega⟩) h)))
theorem nte1_at {y : Nat → Nat → Int32} {E k : Nat} {kd v : Int32} (h : k < 112 + 3 * E) (h4 : k ≠ 14) : nte1 y E kd v 1 k = y 1 k := by
  unfold nte1
  rw [ug_ne (by omega), ug_ne (by omega), ug_ne (by omega), ug_ne (by omega)]
theorem nte1_14 {y : Nat → Nat → Int32} {E : Nat} {kd v : Int32} : nte1 y E kd v 1 14 = y 1 14 + 1 := by
  unfold nte1
  rw [ug_same, ug_ne (by omega), ug_ne (by omega), ug_ne (by omega)]
theorem nte1_k0 {y : Nat → Nat → Int32} {E : Nat} {kd v : Int32} : nte1 y E kd v 1 (112 + 3 * E) = kd := by
  unfold nte1
  rw [ug_ne (by omega), ug_ne (by omega), ug_ne (by omega), ug_same]
theorem nte1_k1 {y : Nat → Nat → Int32} {E : Nat} {kd v : Int32} : nte1 y E kd v 1 (112 + 3 * E + 1) = v := by
  unfold nte1
  rw [ug_ne (by omega), ug_ne (by omega), ug_same]
theorem nte1_k2 {y : Nat → Nat → Int32} {E : Nat} {kd v : Int32} : nte1 y E kd v 1 (112 + 3 * E + 2) = y 1 2 := by
  unfold nte1
  rw [ug_ne (by omega), ug_same, ug_ne (by omega), ug_ne (by omega)]
theorem rl_nte1 (h : rlG n a0 b0 a b) {E : Nat} {kd v : Int32} (hE : a 1 14 = nI E) (h20 : E < 20) : rlG n a0 b0 (nte1 a E kd v) (nte1 b E kd v) := by
  have h8 := h.n8
  have hcl : (a 1 14).toNatClampNeg = E := by rw [hE]; exact nI_clamp (by omega)
  have h14 : nte1 a E kd v 1 14 = nI (E + 1) := by rw [nte1_14, hE]; exact nI_1 E
  have hb14 : b 1 14 = a 1 14 := h.sc (by omega)
  have h14b : nte1 b E kd v 1 14 = nI (E + 1) := by rw [nte1_14, hb14, hE]; exact nI_1 E
  refine ⟨h8, ⟨fun j hj => ?_, fun j h1 h2 => ?_, fun j h1 h2 => ?_⟩, keG_nte1 h20 h.ka, keG_nte1 h20 h.kb, ⟨E + 1, h14, by omega⟩, bkK_at h.bk (nte1_at (by omega) (by omega))⟩
  · by_cases c : j = 14
    · rw [c, h14, h14b]
    · rw [nte1_at (by omega) c, nte1_at (by omega) c]; exact h.le.1 j hj
  · rw [nte1_at (by omega) (by omega)] at h2
    by_cases c : j < 112
    · rw [nte1_at (by omega) (by omega), nte1_at (by omega) (by omega)]
      exact h.le.2.1 j h1 h2
    · by_cases c1 : j < 112 + 3 * E
      · rw [nte1_at c1 (by omega), nte1_at c1 (by omega)]
        exact h.le.2.1 j h1 h2
      · by_cases c2 : j = 112 + 3 * E
        · rw [c2, nte1_k0, nte1_k0]
        by_cases c3 : j = 112 + 3 * E + 1
        · rw [c3, nte1_k1, nte1_k1]
        by_cases c4 : j = 112 + 3 * E + 2
        · rw [c4, nte1_k2, nte1_k2]; exact h.sc (by omega)
        unfold nte1
        rw [ug_ne (by omega), ug_ne (by omega), ug_ne (by omega), ug_ne (by omega), ug_ne (by omega), ug_ne (by omega), ug_ne (by omega), ug_ne (by omega)]
        exact h.le.2.1 j h1 h2
  · rw [h14, nI_clamp (by omega)] at h2
    by_cases c1 : j < 112 + 3 * E
    · rw [nte1_at c1 (by omega), nte1_at c1 (by omega)]
      exact h.le.2.2 j h1 (by rw [hcl]; exact c1)
    · by_cases c2 : j = 112 + 3 * E
      · rw [c2, nte1_k0, nte1_k0]
      by_cases c3 : j = 112 + 3 * E + 1
      · rw [c3, nte1_k1, nte1_k1]
      have c4 : j = 112 + 3 * E + 2 := by omega
      rw [c4, nte1_k2, nte1_k2]; exact h.sc (by omega)
theorem shE_lo {y : Nat → Nat → Int32} {z k : Nat} (h : k < 112) : shE y z 1 k = y 1 k := by
  unfold shE
  exact if_neg (by omega)
theorem rl_shE (h : rlG n a0 b0 a b) (hE : a 1 14 = nI 20) : rlG n a0 b0 (ug (shE a 57) 1 14 19) (ug (shE b 57) 1 14 19) := by
  have h8 := h.n8
  have hB := h.bk
  obtain ⟨B, hB1, hB3⟩ := hB
  have hcl : (a 1 14).toNatClampNeg = 20 := by rw [hE]; exact nI_clamp (by omega)
  have hk : ∀ {x y : Nat → Nat → Int32}, keG x y → keG x (ug (shE y 57) 1 14 19) := fun {x y} h0 => keG_ug (Or.inl ⟨rfl, by omega⟩) (keG_tr h0 fun i k h1 _ => by
    unfold shE
    exact if_neg fun ⟨e, _, h3⟩ => by have := h1 e; omega)
  refine ⟨h8, ⟨fun j hj => ?_, fun j h1 h2 => ?_, fun j h1 h2 => ?_⟩, hk h.ka, hk h.kb, ⟨19, ug_same, by omega⟩, bkK_at h.bk ((ug_ne (by omega)).trans (shE_lo (by omega)))⟩
  · by_cases c : j = 14
    · rw [c, ug_same, ug_same]
    · rw [ug_ne (by omega), ug_ne (by omega), shE_lo (by omega), shE_lo (by omega)]; exact h.le.1 j hj
  · rw [ug_ne (by omega), shE_lo (by omega), hB1, nI_clamp (by omega)] at h2
    rw [ug_ne (by omega), ug_ne (by omega), shE_lo (by omega), shE_lo (by omega)]
    exact h.le.2.1 j h1 (by rw [hB1, nI_clamp (by omega)]; exact h2)
  · rw [ug_same] at h2
    have h3 : j < 112 + 3 * 19 := h2
    rw [ug_ne (by omega), ug_ne (by omega)]
    unfold shE
    rw [if_pos ⟨rfl, h1, by omega⟩, if_pos ⟨rfl, h1, by omega⟩]
    exact h.le.2.2 (j + 3) (by omega) (by rw [hcl]; omega)
theorem rl_nte (h : rlG n a0 b0 a b) {kd v : Int32} : rlG n a0 b0 (nteG a kd v) (nteG b kd v) := by
  have e : b 1 14 = a 1 14 := h.sc (by omega)
  unfold nteG
  rw [e]
  obtain ⟨E, hE, h20⟩ := h.ev
  by_cases c : a 1 14 = 20
  · rw [if_pos c, if_pos c]
    exact rl_nte1 (rl_shE h c) ug_same (by omega)
  · rw [if_neg c, if_neg c]
    have hcl : (a 1 14).toNatClampNeg = E := by rw [hE]; exact nI_clamp (by omega)
    rw [hcl]
    refine rl_nte1 h hE ?_
    rcases Nat.lt_or_ge E 20 with h1 | h1
    · exact h1
    · exact absurd (by rw [hE, show E = 20 by omega]; rfl) c
theorem rl_rb (h : rlG n a0 b0 a b) {q B : Nat} (hB : a 1 13 = nI B) (hB3 : B ≤ 3) (hq : q < B) : rlG n a0 b0 (rbG a q) (rbG b q) := by
  have h8 := h.n8
  have lo : ∀ {y : Nat → Nat → Int32} {k : Nat}, (k < 103 + 3 * q ∨ 109 ≤ k) → shK y (103 + 3 * q) 109 1 k = y 1 k := fun {y k} h0 => by
    unfold shK
    exact if_neg (by omega)
  have hk : ∀ {x y : Nat → Nat → Int32}, keG x y → keG x (rbG y q) := fun {x y} h0 => keG_ug (Or.inl ⟨rfl, by omega⟩) (keG_tr h0 fun i k h1 _ => by
    unfold shK
    exact if_neg fun ⟨e, _, h3⟩ => by have := h1 e; omega)
  have h13 : ∀ y : Nat → Nat → Int32, rbG y q 1 13 = y 1 13 - 1 := fun y => by
    unfold rbG
    rw [ug_same, lo (by omega)]
  have hat : ∀ {y : Nat → Nat → Int32} {k : Nat}, k ≠ 13 → (k < 103 + 3 * q ∨ 109 ≤ k) → rbG y q 1 k = y 1 k := fun {y k} h1 h2 => by
    unfold rbG
    rw [ug_ne (by omega), lo h2]
  have hb13 : b 1 13 = a 1 13 := h.sc (by omega)
  have hcl : (a 1 13).toNatClampNeg = B := by rw [hB]; exact nI_clamp (by omega)
  have hcl2 : (rbG a q 1 13).toNatClampNeg = B - 1 := by
    rw [h13, hB, show (1 : Int32) = nI 1 from rfl, pk_sub (by omega)]
    exact nI_clamp (by omega)
  refine ⟨h8, ⟨fun j hj => ?_, fun j h1 h2 => ?_, fun j h1 h2 => ?_⟩, hk h.ka, hk h.kb, evK_at h.ev (hat (by omega) (by omega)), ⟨B - 1, by rw [h13, hB, show (1 : Int32) = nI 1 from rfl, pk_sub (by omega)], by omega⟩⟩
  · by_cases c : j = 13
    · rw [c, h13, h13, hb13]
    · rw [hat c (by omega), hat c (by omega)]; exact h.le.1 j hj
  · rw [hcl2] at h2
    by_cases c : j < 103 + 3 * q
    · rw [hat (by omega) (by omega), hat (by omega) (by omega)]
      exact h.le.2.1 j h1 (by rw [hcl]; omega)
    · unfold rbG
      rw [ug_ne (by omega), ug_ne (by omega)]
      unfold shK
      rw [if_pos ⟨rfl, by omega, by omega⟩, if_pos ⟨rfl, by omega, by omega⟩]
      exact h.le.2.1 (j + 3) (by omega) (by rw [hcl]; omega)
  · rw [hat (by omega) (by omega)] at h2
    rw [hat (by omega) (by omega), hat (by omega) (by omega)]
    exact h.le.2.2 j h1 h2
theorem rl_bk (h : rlG n a0 b0 a b) {q r B : Nat} (hB : a 1 13 = nI B) (hB3 : B ≤ 3) (hq : q < B) (hr : r < 3) : b 1 (103 + 3 * q + r) = a 1 (103 + 3 * q + r) :=
  h.le.2.1 _ (by omega) (by rw [hB, nI_clamp (by omega)]; omega)
end RL
