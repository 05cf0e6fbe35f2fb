/-! SWEEPS: what the class does at once, the reference does in two steps -/
def tbK (g : Nat → Nat → Int32) (S : Nat → Nat) : Prop := ∀ fr, fr < 2 → ∀ k, S fr ≤ k → k < 16 → g 1 (19 + 20 * (1 - fr) + k) = -100000
theorem fill_at {g : Nat → Nat → Int32} {lo m k : Nat} {v : Int32} (h : k < lo ∨ lo + m ≤ k) : fillG g lo m v 1 k = g 1 k := by
  unfold fillG
  rw [if_neg (by omega)]
theorem fill_a0 {g : Nat → Nat → Int32} {lo m i k : Nat} {v : Int32} (h : i ≠ 1) : fillG g lo m v i k = g i k := by
  unfold fillG
  rw [if_neg (by omega)]
theorem fill_in {g : Nat → Nat → Int32} {lo m k : Nat} {v : Int32} (h1 : lo ≤ k) (h2 : k < lo + m) : fillG g lo m v 1 k = v := by
  unfold fillG
  rw [if_pos ⟨rfl, h1, h2⟩]
theorem g_ext {g g' : Nat → Nat → Int32} (h1 : ∀ k, g 1 k = g' 1 k) (h0 : ∀ i k, i ≠ 1 → g i k = g' i k) : g = g' := by
  funext i k
  by_cases h : i = 1
  · rw [h]; exact h1 k
  · exact h0 i k h
theorem ug_a0 {g : Nat → Nat → Int32} {k i q : Nat} {x : Int32} (h : i ≠ 1) : ug g 1 k x i q = g i q := ug_ne (fun z => h z.1)
theorem fill_tab {g : Nat → Nat → Int32} {lo s : Nat} {v : Int32} (hs : s ≤ 16) (h : ∀ k, s ≤ k → k < 16 → g 1 (lo + k) = v) : fillG g lo 16 v = fillG g lo s v := by
  refine g_ext (fun k => ?_) (fun i k hi => by rw [fill_a0 hi, fill_a0 hi])
  by_cases h1 : k < lo ∨ lo + 16 ≤ k
  · rw [fill_at h1, fill_at (by omega)]
  · rw [fill_in (by omega) (by omega)]
    by_cases h2 : k < lo + s
    · rw [fill_in (by omega) h2]
    · rw [fill_at (by omega)]
      have := h (k - lo) (by omega) (by omega)
      rw [show lo + (k - lo) = k by omega] at this
      exact this.symm
/-- places that no sending looks at -/
def tbP (lo m : Nat) : Prop := (19 ≤ lo ∧ lo + m ≤ 35) ∨ (39 ≤ lo ∧ lo + m ≤ 55)
theorem lev_fill {g : Nat → Nat → Int32} {lo m : Nat} {v : Int32} (h : tbP lo m) {fr : Nat} (hf : fr < 2) (b0 b1 : Int32) (p : Nat) : levG (fillG g lo m v) fr b0 b1 p = levG g fr b0 b1 p := by
  unfold tbP at h
  unfold levG
  rw [fill_at (k := 15 + 20 * fr + 2) (by omega), fill_at (k := 15) (by omega), fill_at (k := 16) (by omega), fill_at (k := 35) (by omega), fill_at (k := 36) (by omega), fill_at (k := 55 + 6 * p + 0) (by omega), fill_at (k := 55 + 6 * p + 1) (by omega), fill_at (k := 55 + 6 * p + 2) (by omega), fill_at (k := 55 + 6 * p + 3) (by omega)]
theorem rec_fill {g : Nat → Nat → Int32} {lo m : Nat} {v : Int32} (h : tbP lo m) {fr : Nat} (hf : fr < 2) (b0 b1 : Int32) : ∀ n, recG (fillG g lo m v) fr b0 b1 n = recG g fr b0 b1 n
  | 0 => rfl
  | n + 1 => by
    unfold recG
    rw [rec_fill h hf b0 b1 n, lev_fill h hf]
theorem msr_fill {g : Nat → Nat → Int32} {lo m : Nat} {v : Int32} (h : tbP lo m) {fr : Nat} (hf : fr < 2) (b0 b1 : Int32) (n : Nat) : msrG (fillG g lo m v) fr b0 b1 n = msrG g fr b0 b1 n := by
  have h' := h
  unfold tbP at h'
  unfold msrG quaG fadeG
  rw [rec_fill h hf, fill_at (k := 5) (by omega), fill_at (k := 7) (by omega)]
theorem hrd_fill {g : Nat → Nat → Int32} {lo m : Nat} {v : Int32} (h : tbP lo m) {fr : Nat} (hf : fr < 2) (b0 b1 : Int32) (n : Nat) : hrdG (fillG g lo m v) fr b0 b1 n = hrdG g fr b0 b1 n := by
  have h' := h
  unfold tbP at h'
  unfold hrdG
  rw [msr_fill h hf, fill_at (k := 6) (by omega)]
theorem fill_ug {g : Nat → Nat → Int32} {lo m a b : Nat} {v x : Int32} (h : ¬ (a = 1 ∧ lo ≤ b ∧ b < lo + m)) : ug (fillG g lo m v) a b x = fillG (ug g a b x) lo m v := by
  funext i k
  by_cases h1 : i = a ∧ k = b
  · obtain ⟨rfl, rfl⟩ := h1
    rw [ug_same]
    unfold fillG
    rw [if_neg h, ug_same]
  · rw [ug_ne h1]
    unfold fillG
    rw [ug_ne h1]
theorem snt_fill {g : Nat → Nat → Int32} {lo m : Nat} {v : Int32} (h : tbP lo m) {fr : Nat} (hf : fr < 2) (b0 b1 t : Int32) (n : Nat) : sntG (fillG g lo m v) fr b0 b1 t n = fillG (sntG g fr b0 b1 t n) lo m v := by
  have h' := h
  unfold tbP at h'
  unfold sntG
  rw [msr_fill h hf, fill_at (k := 5) (by omega), fill_at (k := 3) (by omega), fill_at (k := 4) (by omega), fill_ug (by omega), fill_ug (by omega), fill_ug (by omega), fill_ug (by omega)]
theorem fill_up {g : Nat → Nat → Int32} {lo m : Nat} {v x : Int32} : ug (fillG g lo (m + 1) v) 1 (lo + m) x = fillG (ug g 1 (lo + m) x) lo m v := by
  refine g_ext (fun k => ?_) (fun i k hi => by rw [ug_a0 hi, fill_a0 hi, fill_a0 hi, ug_a0 hi])
  by_cases h1 : k = lo + m
  · subst h1
    rw [ug_same, fill_at (by omega), ug_same]
  · rw [ug_ne (by omega)]
    by_cases h2 : lo ≤ k ∧ k < lo + m
    · rw [fill_in h2.1 (by omega), fill_in h2.1 h2.2]
    · rw [fill_at (by omega), fill_at (by omega), ug_ne (by omega)]
theorem fill_dn {g : Nat → Nat → Int32} {lo m : Nat} {v : Int32} : fillG g lo (m + 1) v = fillG (ug g 1 (lo + m) v) lo m v := by
  rw [← fill_up]
  refine g_ext (fun k => ?_) (fun i k hi => by rw [ug_a0 hi])
  by_cases h1 : k = lo + m
  · subst h1
    rw [ug_same, fill_in (by omega) (by omega)]
  · rw [ug_ne (by omega)]
theorem sw_step {fr n k : Nat} {g : Nat → Nat → Int32} (hf : fr < 2) (hk : k < 16) : swpS fr n (fillG g (19 + 20 * (1 - fr)) (k + 1) (-100000)) k = fillG (ssS fr n g k) (19 + 20 * (1 - fr)) k (-100000) := by
  have ht : tbP (19 + 20 * (1 - fr)) (k + 1) := by unfold tbP; omega
  unfold swpS ssS
  rw [hrd_fill ht hf, snt_fill ht hf]
  by_cases c : hrdG g fr (b0W fr (nI k) (-1)) (b1W fr (nI k) (-1)) n = true
  · rw [if_pos c, trn_t c, show 15 + 20 * (1 - fr) + (4 + k) = 19 + 20 * (1 - fr) + k by omega, fill_up, fill_a0 (by omega), show sntG g fr (b0W fr (nI k) (-1)) (b1W fr (nI k) (-1)) 16 n 0 5 = msrG g fr (b0W fr (nI k) (-1)) (b1W fr (nI k) (-1)) n from ug_same]
  · rw [if_neg c, trn_f (by simpa using c), fill_dn]
theorem sw_all {fr n : Nat} (hf : fr < 2) : ∀ (m : Nat) (g : Nat → Nat → Int32), m ≤ 16 → swpG fr n m (fillG g (19 + 20 * (1 - fr)) m (-100000)) = ssG fr n m g
  | 0, g, _ => fill_0 g _ _
  | m + 1, g, hm => by
    unfold swpG ssG
    rw [sw_step hf (by omega)]
    exact sw_all hf m _ (by omega)
/-! the best of a table, from above and from below -/
def dnF (t : Nat → Int32) : Nat → Int32 → Int32 → Int32
  | 0, b, _ => b
  | k + 1, b, m => if t k ≤ m then dnF t k b m else dnF t k (nI k) (t k)
theorem ss_keep {fr n : Nat} (hf : fr < 2) {q : Nat} (hq : q < 16) : ∀ (m : Nat) (g : Nat → Nat → Int32), m ≤ q → ssG fr n m g 1 (19 + 20 * (1 - fr) + q) = g 1 (19 + 20 * (1 - fr) + q)
  | 0, _, _ => rfl
  | m + 1, g, hm => by
    unfold ssG
    rw [ss_keep hf hq m _ (by omega)]
    unfold ssS sntG
    rw [ug_ne (by omega), ug_ne (by omega), ug_ne (by omega), ug_ne (by omega), ug_ne (by omega)]
theorem ss_tab {fr n : Nat} (hf : fr < 2) {m : Nat} (hm : m < 16) (g : Nat → Nat → Int32) : ssG fr n (m + 1) g 1 (19 + 20 * (1 - fr) + m) = trnG g fr (b0W fr (nI m) (-1)) (b1W fr (nI m) (-1)) n := by
  unfold ssG
  rw [ss_keep hf hm m _ (Nat.le_refl _)]
  unfold ssS
  rw [ug_same]
theorem ss_best {fr n : Nat} (hf : fr < 2) : ∀ (m : Nat) (g : Nat → Nat → Int32) (b x : Int32), m ≤ 16 → ssB fr n m g b x = dnF (fun k => ssG fr n m g 1 (19 + 20 * (1 - fr) + k)) m b x
  | 0, _, _, _, _ => rfl
  | m + 1, g, b, x, hm => by
    have e := ss_tab (n := n) hf (show m < 16 by omega) g
    have i1 := fun b x => ss_best (n := n) hf m (ssS fr n g m) b x (by omega)
    unfold ssB dnF
    rw [i1, i1, e]
    rfl
def isBest (t : Nat → Int32) (S : Nat) (o : Option Nat) : Prop := match o with
  | none => ∀ k, k < S → t k = -100000
  | some b => b < S ∧ ¬ t b = -100000 ∧ (∀ k, k < S → t k ≤ t b) ∧ ∀ k, b < k → k < S → t k < t b
theorem best_un {t : Nat → Int32} {S : Nat} {o o' : Option Nat} (h : isBest t S o) (h' : isBest t S o') : o = o' := by
  cases o with
  | none =>
    cases o' with
    | none => rfl
    | some b => exact absurd (h b h'.1) h'.2.1
  | some a =>
    cases o' with
    | none => exact absurd (h' a h.1) h.2.1
    | some b =>
      rcases Nat.lt_trichotomy a b with q | q | q
      · exact absurd (h.2.2.2 b q h'.1) (Int32.not_lt.mpr (h'.2.2.1 a h.1))
      · rw [q]
      · exact absurd (h'.2.2.2 a q h.1) (Int32.not_lt.mpr (h.2.2.1 b h'.1))
def gtN (t : Nat → Int32) (S : Nat) : Prop := ∀ k, k < S → -100000 ≤ t k
theorem gt_of {x : Int32} (h : -100000 ≤ x) (h2 : ¬ x = -100000) : -100000 < x := by
  rcases Int32.lt_or_eq_of_le h with q | q
  · exact q
  · exact absurd q.symm h2
theorem bst_is {t : Nat → Int32} : ∀ (n k : Nat) (o : Option Nat), gtN t (k + n) → isBest t k o → isBest t (k + n) (bstF t n k o)
  | 0, _, _, _, h => h
  | n + 1, k, o, hg, h => by
    unfold bstF
    rw [show k + (n + 1) = k + 1 + n by omega] at hg ⊢
    refine bst_is n (k + 1) _ hg ?_
    unfold bstS
    have hgk := hg k (by omega)
    by_cases c : t k = -100000
    · rw [if_pos c]
      cases o with
      | none =>
        intro q hq
        rcases Nat.lt_or_ge q k with z | z
        · exact h q z
        · rw [show q = k by omega]; exact c
      | some b =>
        have hb := gt_of (hg b (by have := h.1; omega)) h.2.1
        refine ⟨by have := h.1; omega, h.2.1, fun q hq => ?_, fun q h1 h2 => ?_⟩
        · rcases Nat.lt_or_ge q k with z | z
          · exact h.2.2.1 q z
          · rw [show q = k by omega, c]; exact Int32.le_of_lt hb
        · rcases Nat.lt_or_ge q k with z | z
          · exact h.2.2.2 q h1 z
          · rw [show q = k by omega, c]; exact hb
    · rw [if_neg c]
      have hk := gt_of hgk c
      cases o with
      | none =>
        refine ⟨by omega, c, fun q hq => ?_, fun q h1 h2 => by omega⟩
        rcases Nat.lt_or_ge q k with z | z
        · rw [h q z]; exact hgk
        · rw [show q = k by omega]; exact Int32.le_refl _
      | some b =>
        simp only
        split
        · next c2 =>
          refine ⟨by have := h.1; omega, h.2.1, fun q hq => ?_, fun q h1 h2 => ?_⟩
          · rcases Nat.lt_or_ge q k with z | z
            · exact h.2.2.1 q z
            · rw [show q = k by omega]; exact Int32.le_of_lt c2
          · rcases Nat.lt_or_ge q k with z | z
            · exact h.2.2.2 q h1 z
            · rw [show q = k by omega]; exact c2
        · next c2 =>
          refine ⟨by omega, c, fun q hq => ?_, fun q h1 h2 => by omega⟩
          rcases Nat.lt_or_ge q k with z | z
          · exact Int32.le_trans (h.2.2.1 q z) (Int32.not_lt.mp c2)
          · rw [show q = k by omega]; exact Int32.le_refl _
/-- what the class keeps on its way down: the best of the places from m on -/
def dnI (t : Nat → Int32) (m S : Nat) (b x : Int32) : Prop := (b = -100000 ∧ x = -100000 ∧ ∀ k, m ≤ k → k < S → t k = -100000) ∨ ∃ q : Nat, b = nI q ∧ x = t q ∧ m ≤ q ∧ q < S ∧ ¬ t q = -100000 ∧ (∀ k, m ≤ k → k < S → t k ≤ t q) ∧ ∀ k, q < k → k < S → t k < t q
def dnO (b : Int32) (o : Option Nat) : Prop := match o with
  | none => b = -100000
  | some q => b = nI q
theorem dn_is {t : Nat → Int32} {S : Nat} (hg : gtN t S) : ∀ (m : Nat) (b x : Int32), m ≤ S → dnI t m S b x → ∃ o, isBest t S o ∧ dnO (dnF t m b x) o
  | 0, b, x, _, h => by
    rcases h with ⟨h1, -, h3⟩ | ⟨q, h1, -, -, h4, h5, h6, h7⟩
    · exact ⟨none, fun k hk => h3 k (Nat.zero_le _) hk, h1⟩
    · exact ⟨some q, ⟨h4, h5, fun k hk => h6 k (Nat.zero_le _) hk, h7⟩, h1⟩
  | m + 1, b, x, hm, h => by
    have hgm := hg m (by omega)
    unfold dnF
    split
    · next c =>
      refine dn_is hg m b x (by omega) ?_
      rcases h with ⟨h1, h2, h3⟩ | ⟨q, h1, h2, h3, h4, h5, h6, h7⟩
      · refine Or.inl ⟨h1, h2, fun k hk hk2 => ?_⟩
        rcases Nat.lt_or_ge k (m + 1) with z | z
        · rw [show k = m by omega]
          rw [h2] at c
          exact Int32.le_antisymm c hgm
        · exact h3 k z hk2
      · refine Or.inr ⟨q, h1, h2, by omega, h4, h5, fun k hk hk2 => ?_, h7⟩
        rcases Nat.lt_or_ge k (m + 1) with z | z
        · rw [show k = m by omega]
          rw [h2] at c
          exact c
        · exact h6 k z hk2
    · next c =>
      have c' := Int32.not_le.mp c
      refine dn_is hg m (nI m) (t m) (by omega) (Or.inr ⟨m, rfl, rfl, Nat.le_refl _, by omega, ?_, fun k hk hk2 => ?_, fun k hk hk2 => ?_⟩)
      · intro z
        rcases h with ⟨-, h2, -⟩ | ⟨q, -, h2, -, h4, h5, -, -⟩
        · rw [z, h2] at c'
          exact Int32.lt_irrefl c'
        · rw [z, h2] at c'
          exact absurd (hg q h4) (Int32.not_le.mpr c')
      · rcases Nat.lt_or_ge k (m + 1) with z | z
        · rw [show k = m by omega]; exact Int32.le_refl _
        · rcases h with ⟨-, h2, h3⟩ | ⟨q, -, h2, -, h4, h5, h6, -⟩
          · rw [h3 k z hk2]; exact hgm
          · rw [h2] at c'
            exact Int32.le_trans (h6 k z hk2) (Int32.le_of_lt c')
      · rcases h with ⟨-, h2, h3⟩ | ⟨q, -, h2, -, h4, h5, h6, -⟩
        · rw [h3 k (by omega) hk2, ← h2]; exact c'
        · rw [h2] at c'
          exact Int32.lt_of_le_of_lt (h6 k (by omega) hk2) c'
theorem dn_bst {t : Nat → Int32} {S : Nat} (hg : gtN t S) : dnO (dnF t S (-100000) (-100000)) (bstF t S 0 none) ∧ isBest t S (bstF t S 0 none) := by
  obtain ⟨o, h1, h2⟩ := dn_is hg S (-100000) (-100000) (Nat.le_refl _) (Or.inl ⟨rfl, rfl, fun k h1 h2 => absurd h2 (by omega)⟩)
  have h3 := bst_is S 0 none (by rw [Nat.zero_add]; exact hg) (fun k hk => absurd hk (by omega))
  rw [Nat.zero_add] at h3
  rw [best_un h3 h1]
  exact ⟨h2, h1⟩
