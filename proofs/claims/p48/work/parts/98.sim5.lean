/-- what is measured, where something is heard, is above all that stands for nothing -/
theorem hr_ms {g : Nat → Nat → Int32} {fr n : Nat} {x y : Int32} (ht : thrK g) (h : hrdG g fr x y n = true) : -100000 < msrG g fr x y n := by
  unfold hrdG at h
  split at h
  · cases h
  · have h1 := of_decide_eq_true h
    unfold thrK at ht
    rw [Int32.not_lt] at h1
    rw [Int32.le_iff_toInt_le] at h1 ht
    rw [Int32.lt_iff_toInt_lt]
    have e1 : (-200 : Int32).toInt = -200 := by decide
    have e0 : (-100000 : Int32).toInt = -100000 := by decide
    omega
theorem trn_tt {g : Nat → Nat → Int32} {fr n : Nat} {x y : Int32} (h : hrdG g fr x y n = true) : trnG g fr x y n = msrG g fr x y n := if_pos h
theorem trn_ff {g : Nat → Nat → Int32} {fr n : Nat} {x y : Int32} (h : hrdG g fr x y n = false) : trnG g fr x y n = -100000 := if_neg (by rw [h]; decide)
/-- the best beam yet: in the class a pair, in the reference two scratch places -/
def rfK (S : Nat) (t : T3) (gr : Nat → Nat → Int32) : Prop := (t.2.2 = -100000 ∧ gr 0 6 = -100000) ∨ (-100000 < t.2.2 ∧ gr 0 6 = t.2.1 ∧ gr 0 7 = t.2.2 ∧ bmK S t.2.1)
theorem rl_r0 {n : Nat} {a0 b0 a b : Nat → Nat → Int32} (h : rlG n a0 b0 a b) {k : Nat} {y : Int32} (hk : 5 ≤ k ∧ k ≤ 7) : rlG n a0 b0 a (ug b 0 k y) := by
  refine ⟨h.n8, ⟨fun j hj => ?_, fun j h1 h2 => ?_, fun j h1 h2 => ?_⟩, h.ka, keG_ug (Or.inr (Or.inl ⟨rfl, hk⟩)) h.kb, h.ev, h.bk⟩
  · rw [ug_ne (by omega)]; exact h.le.1 j hj
  · rw [ug_ne (by omega)]; exact h.le.2.1 j h1 h2
  · rw [ug_ne (by omega)]; exact h.le.2.2 j h1 h2
section RF
variable {n : Nat} {a0 b0 gr : Nat → Nat → Int32} {t : T3}
theorem bm_ne {S : Nat} {x : Int32} (h : bmK S x) (hS : S ≤ 16) : x ≠ -100000 := by
  obtain ⟨b, hb, rfl⟩ := h
  intro z
  have h1 := congrArg Int32.toInt z
  rw [nI_toInt (by omega)] at h1
  have e0 : (-100000 : Int32).toInt = -100000 := by decide
  omega
theorem rfS_rl {f S : Nat} {x : Int32} (hf : f < 2) (hS : S ≤ 16) (hx : bmK S x) (ht : thrK t.1) (h : rlG n a0 b0 t.1 gr) (hk : rfK S t gr) : rlG n a0 b0 (rfS f n x t).1 (tstG f n gr x) ∧ rfK S (rfS f n x t) (tstG f n gr x) ∧ thrK (rfS f n x t).1 := by
  have eo : gr 1 (18 + 20 * (1 - f)) = t.1 1 (38 - 20 * f) := by
    rw [show 18 + 20 * (1 - f) = 38 - 20 * f by omega]
    exact h.sc (by omega)
  obtain ⟨w, hw⟩ : ∃ w, w = sntG t.1 f (b0W f x (t.1 1 (38 - 20 * f))) (b1W f x (t.1 1 (38 - 20 * f))) 4 n := ⟨_, rfl⟩
  obtain ⟨wr, hwr⟩ : ∃ w, w = sntG gr f (b0W f x (t.1 1 (38 - 20 * f))) (b1W f x (t.1 1 (38 - 20 * f))) 4 n := ⟨_, rfl⟩
  have hrl : rlG n a0 b0 w wr := by rw [hw, hwr]; exact rl_snt h
  have htw : thrK w := thr_at ht (by rw [hw]; unfold sntG; rw [ug_ne (by omega), ug_ne (by omega), ug_ne (by omega), ug_ne (by omega)])
  have e6 : wr 0 6 = gr 0 6 := by rw [hwr]; unfold sntG; rw [ug_ne (by omega), ug_ne (by omega), ug_ne (by omega), ug_ne (by omega)]
  have e7 : wr 0 7 = gr 0 7 := by rw [hwr]; unfold sntG; rw [ug_ne (by omega), ug_ne (by omega), ug_ne (by omega), ug_ne (by omega)]
  have e5 : wr 0 5 = msrG t.1 f (b0W f x (t.1 1 (38 - 20 * f))) (b1W f x (t.1 1 (38 - 20 * f))) n := by
    rw [hwr]
    unfold sntG
    rw [ug_same]
    exact rl_msr h hf
  have eA : tsA f n gr x = wr := by unfold tsA; rw [eo, hwr]
  have eH : tsH f n gr x = hrdG t.1 f (b0W f x (t.1 1 (38 - 20 * f))) (b1W f x (t.1 1 (38 - 20 * f))) n := by unfold tsH; rw [eo, rl_hrd h hf]
  unfold tstG rfS
  rw [eA, eH, ← hw]
  by_cases hh : hrdG t.1 f (b0W f x (t.1 1 (38 - 20 * f))) (b1W f x (t.1 1 (38 - 20 * f))) n = true
  · have hm := hr_ms ht hh
    rw [trn_tt hh, e5, e6, e7]
    obtain ⟨M, hM⟩ : ∃ M, M = msrG t.1 f (b0W f x (t.1 1 (38 - 20 * f))) (b1W f x (t.1 1 (38 - 20 * f))) n := ⟨_, rfl⟩
    rw [← hM] at hm
    rw [← hM]
    rcases hk with ⟨k1, k2⟩ | ⟨k1, k2, k3, k4⟩
    · have cA : ¬ M ≤ t.2.2 := by rw [k1, Int32.not_le]; exact hm
      rw [if_neg cA, if_pos (show hrdG t.1 f (b0W f x (t.1 1 (38 - 20 * f))) (b1W f x (t.1 1 (38 - 20 * f))) n = true ∧ (gr 0 6 = -100000 ∨ ¬ M ≤ gr 0 7) from ⟨hh, Or.inl k2⟩)]
      exact ⟨rl_r0 (rl_r0 hrl (by omega)) (by omega), Or.inr ⟨hm, by rw [ug_ne (by omega), ug_same], ug_same, hx⟩, htw⟩
    · have k5 : ¬ gr 0 6 = -100000 := by rw [k2]; exact bm_ne k4 hS
      by_cases c : M ≤ t.2.2
      · have cB : ¬ (hrdG t.1 f (b0W f x (t.1 1 (38 - 20 * f))) (b1W f x (t.1 1 (38 - 20 * f))) n = true ∧ (gr 0 6 = -100000 ∨ ¬ M ≤ gr 0 7)) := by
          rw [k3]
          rintro ⟨-, z | z⟩
          · exact k5 z
          · exact z c
        rw [if_pos c, if_neg cB]
        exact ⟨hrl, Or.inr ⟨k1, e6.trans k2, e7.trans k3, k4⟩, htw⟩
      · have cB : hrdG t.1 f (b0W f x (t.1 1 (38 - 20 * f))) (b1W f x (t.1 1 (38 - 20 * f))) n = true ∧ (gr 0 6 = -100000 ∨ ¬ M ≤ gr 0 7) := ⟨hh, Or.inr (by rw [k3]; exact c)⟩
        rw [if_neg c, if_pos cB]
        exact ⟨rl_r0 (rl_r0 hrl (by omega)) (by omega), Or.inr ⟨hm, by rw [ug_ne (by omega), ug_same], ug_same, hx⟩, htw⟩
  · have hh2 : hrdG t.1 f (b0W f x (t.1 1 (38 - 20 * f))) (b1W f x (t.1 1 (38 - 20 * f))) n = false := by
      cases z : hrdG t.1 f (b0W f x (t.1 1 (38 - 20 * f))) (b1W f x (t.1 1 (38 - 20 * f))) n
      · rfl
      · exact absurd z hh
    rw [trn_ff hh2]
    have k6 : -100000 ≤ t.2.2 := by
      rcases hk with ⟨k1, k2⟩ | ⟨k1, -⟩
      · rw [k1]; exact Int32.le_refl _
      · exact Int32.le_of_lt k1
    rw [if_pos k6, if_neg (fun z => hh z.1)]
    refine ⟨hrl, ?_, htw⟩
    rcases hk with ⟨k1, k2⟩ | ⟨k1, k2, k3, k4⟩
    · exact Or.inl ⟨k1, e6.trans k2⟩
    · exact Or.inr ⟨k1, e6.trans k2, e7.trans k3, k4⟩
theorem rfS_15 {f k : Nat} {x : Int32} (h : k = 15 ∨ k = 35 ∨ k = 18 ∨ k = 38) : (rfS f n x t).1 1 k = t.1 1 k := by
  have e : (rfS f n x t).1 = sntG t.1 f (b0W f x (t.1 1 (38 - 20 * f))) (b1W f x (t.1 1 (38 - 20 * f))) 4 n := by
    unfold rfS
    split <;> rfl
  rw [e]
  unfold sntG
  rw [ug_ne (by omega), ug_ne (by omega), ug_ne (by omega), ug_ne (by omega)]
theorem nb_bm2 {S s k : Nat} (hs : s < S) (hS : S ≤ 16) (hk : k < 5) : bmK S (nI S + 5 * nI s + nI k) := by
  refine ⟨S + 5 * s + k, by omega, ?_⟩
  rw [show (5 : Int32) = nI 5 from rfl, pk_mul, nI_add, nI_add]
theorem nb_eq {a b : Int32} {k : Nat} : nbC a b (nI k - 2) = a + 5 * b + nI k := by
  unfold nbC
  rw [Int32.add_assoc (a + 5 * b), Int32.sub_add_cancel]
theorem rfI_rl {f S s : Nat} (hf : f < 2) (hS2 : 2 ≤ S) (hS : S ≤ 16) (hs : s < S) {near : Int32} {many k0 : Int32} (hmany : many = nI S) (hnear : arI (k0 + near) many = nI s) : ∀ (q i : Nat) {t : T3} {gr : Nat → Nat → Int32}, i + q ≤ 5 → t.1 1 (15 + 20 * f) = nI S → thrK t.1 → rlG n a0 b0 t.1 gr → rfK S t gr →
    rlG n a0 b0 (rfI f n (nI s) q i t).1 (rtI f n many k0 near q i gr) ∧ rfK S (rfI f n (nI s) q i t) (rtI f n many k0 near q i gr) ∧ thrK (rfI f n (nI s) q i t).1 ∧ ∀ k, (k = 15 ∨ k = 35 ∨ k = 18 ∨ k = 38) → (rfI f n (nI s) q i t).1 1 k = t.1 1 k
  | 0, i, t, gr, _, _, ht, h, hk => ⟨h, hk, ht, fun _ _ => rfl⟩
  | q + 1, i, t, gr, hi, h15, ht, h, hk => by
    unfold rfI rtI
    rw [h15, hmany, ← hmany, hnear, nb_eq, hmany]
    have hb : bmK S (nI S + 5 * nI s + nI i) := nb_bm2 hs hS (by omega)
    obtain ⟨x1, x2, x3⟩ := rfS_rl hf hS hb ht h hk
    have e15 : (rfS f n (nI S + 5 * nI s + nI i) t).1 1 (15 + 20 * f) = nI S := (rfS_15 (by omega)).trans h15
    have r := rfI_rl hf hS2 hS hs (near := near) (k0 := k0) rfl (by rw [← hmany]; exact hnear) q (i + 1) (by omega) e15 x3 x1 x2
    exact ⟨r.1, r.2.1, r.2.2.1, fun k hk9 => (r.2.2.2 k hk9).trans (rfS_15 hk9)⟩
def bsB (S k j : Nat) : Bool := decide (2 ≤ S → k < S → (bsC (nI S) (nI k) (nI j - 1)).toNatClampNeg < S ∧ bsC (nI S) (nI k) (nI j - 1) = nI (bsC (nI S) (nI k) (nI j - 1)).toNatClampNeg ∧ arI (nI k + (nI j - 1)) (nI S) = nI (bsC (nI S) (nI k) (nI j - 1)).toNatClampNeg)
theorem bsB_all : ∀ S, S < 17 → ∀ k, k < 16 → bsB S k 0 = true ∧ bsB S k 1 = true ∧ bsB S k 2 = true := by decide +kernel
theorem sub1_bs (S : Nat) (hS : S < 17) (k : Nat) (hk : k < 16) (j : Nat) (hj : j < 3) (h2 : 2 ≤ S) (h3 : k < S) : (bsC (nI S) (nI k) (nI j - 1)).toNatClampNeg < S ∧ bsC (nI S) (nI k) (nI j - 1) = nI (bsC (nI S) (nI k) (nI j - 1)).toNatClampNeg ∧ arI (nI k + (nI j - 1)) (nI S) = nI (bsC (nI S) (nI k) (nI j - 1)).toNatClampNeg := by
  have h := bsB_all S hS k hk
  have hb : bsB S k j = true := by
    rcases (show j = 0 ∨ j = 1 ∨ j = 2 by omega) with rfl | rfl | rfl
    · exact h.1
    · exact h.2.1
    · exact h.2.2
  exact of_decide_eq_true hb h2 h3
theorem rfO_rl {f S k0 : Nat} (hf : f < 2) (hS2 : 2 ≤ S) (hS : S ≤ 16) (hk0 : k0 < S) {many : Int32} (hmany : many = nI S) : ∀ (r j : Nat) {t : T3} {gr : Nat → Nat → Int32}, j + r ≤ 3 → t.1 1 (15 + 20 * f) = nI S → thrK t.1 → rlG n a0 b0 t.1 gr → rfK S t gr →
    rlG n a0 b0 (rfO f n (nI k0) r j t).1 (rtO f n many (nI k0) r j gr) ∧ rfK S (rfO f n (nI k0) r j t) (rtO f n many (nI k0) r j gr) ∧ thrK (rfO f n (nI k0) r j t).1 ∧ ∀ k, (k = 15 ∨ k = 35 ∨ k = 18 ∨ k = 38) → (rfO f n (nI k0) r j t).1 1 k = t.1 1 k
  | 0, j, t, gr, _, _, ht, h, hk => ⟨h, hk, ht, fun _ _ => rfl⟩
  | r + 1, j, t, gr, hj, h15, ht, h, hk => by
    obtain ⟨s, hs, e1, e2⟩ : ∃ s, s < S ∧ bsC (nI S) (nI k0) (nI j - 1) = nI s ∧ arI (nI k0 + (nI j - 1)) (nI S) = nI s := ⟨_, sub1_bs S (by omega) k0 (by omega) j (by omega) hS2 hk0⟩
    unfold rfO rtO
    rw [h15, e1]
    have r1 := rfI_rl hf hS2 hS hs (near := nI j - 1) (k0 := nI k0) hmany (by rw [hmany]; exact e2) 5 0 (by omega) h15 ht h hk
    have e15 := (r1.2.2.2 (15 + 20 * f) (by omega)).trans h15
    have r2 := rfO_rl hf hS2 hS hk0 hmany r (j + 1) (by omega) e15 r1.2.2.1 r1.1 r1.2.1
    exact ⟨r2.1, r2.2.1, r2.2.2.1, fun k hk9 => (r2.2.2.2 k hk9).trans (r1.2.2.2 k hk9)⟩
theorem sec_bm : ∀ S, S < 17 → ∀ b, b < 96 → 2 ≤ S → b < 6 * S → ∃ s, s < S ∧ scC (nI S) (nI b) = nI s ∧ secI (nI S) (nI b) = nI s := by decide +kernel
/-- the whole search -/
theorem rfT_rl {f : Nat} {S : Nat → Nat} {a b : Nat → Nat → Int32} (hf : f < 2) (hi : invK a n S) (hu : a 1 0 = 1) (h : rlG n a0 b0 a b) : rlG n a0 b0 (rfT f n a).1 (rtR f n b) ∧ rfK (S f) (rfT f n a) (rtR f n b) ∧ thrK (rfT f n a).1 ∧ ∀ k, (k = 15 ∨ k = 35 ∨ k = 18 ∨ k = 38) → (rfT f n a).1 1 k = a 1 k := by
  obtain ⟨k1, k2, k3, k4, k5, k6⟩ := inv_sec hi
  have hS : 2 ≤ S f ∧ S f ≤ 16 := by rcases (show f = 0 ∨ f = 1 by omega) with rfl | rfl <;> exact ⟨by omega, by omega⟩
  have e15 : a 1 (15 + 20 * f) = nI (S f) := by
    rcases (show f = 0 ∨ f = 1 by omega) with rfl | rfl
    · exact k1
    · exact k2
  have hbm : bmK (S f) (a 1 (18 + 20 * f)) := by
    have z := hi.2.2.2.2.2.2.2.2.1 hu
    rcases (show f = 0 ∨ f = 1 by omega) with rfl | rfl
    · exact z.1
    · exact z.2
  obtain ⟨b9, hb9, eb9⟩ := hbm
  obtain ⟨k0, hk0, e1, e2⟩ := sec_bm (S f) (by omega) b9 (by omega) hS.1 hb9
  have eB : b 1 (15 + 20 * f) = nI (S f) := (h.sc (by omega)).trans e15
  have eB2 : b 1 (18 + 20 * f) = nI b9 := (h.sc (by omega)).trans eb9
  -- the present beam first
  have st := rfS_rl (n := n) (a0 := a0) (b0 := b0) (t := (a, nI b9, -100000)) (gr := ug b 0 6 (-100000)) hf hS.2 (x := nI b9) ⟨b9, hb9, rfl⟩ hi.2.1 (rl_r0 h (by omega)) (Or.inl ⟨rfl, ug_same⟩)
  have eS : rfS f n (nI b9) (a, nI b9, -100000) = rfB f n a := by
    unfold rfS rfB rfA
    rw [eb9]
    dsimp only
    by_cases c : trnG a f (b0W f (nI b9) (a 1 (38 - 20 * f))) (b1W f (nI b9) (a 1 (38 - 20 * f))) n ≤ -100000
    · rw [if_pos c]
      have e9 : trnG a f (b0W f (nI b9) (a 1 (38 - 20 * f))) (b1W f (nI b9) (a 1 (38 - 20 * f))) n = -100000 := by
        cases z : hrdG a f (b0W f (nI b9) (a 1 (38 - 20 * f))) (b1W f (nI b9) (a 1 (38 - 20 * f))) n
        · exact trn_ff z
        · rw [trn_tt z] at c
          exact absurd c (by rw [Int32.not_le]; exact hr_ms hi.2.1 z)
      rw [e9]
    · rw [if_neg c]
  have eZ : tstG f n (ug b 0 6 (-100000)) (nI b9) = rtZ f n b := by
    unfold rtZ
    rw [eB2]
  rw [eS, eZ] at st
  have q15 : ∀ k, (k = 15 ∨ k = 35 ∨ k = 18 ∨ k = 38) → (rfB f n a).1 1 k = a 1 k := fun k hk => by
    rw [← eS]
    exact rfS_15 hk
  have q2 : rfA f n a 1 (15 + 20 * f) = nI (S f) := (q15 (15 + 20 * f) (by omega)).trans e15
  unfold rfT rtR
  rw [q2, e15, eB, eb9, eB2, e1, e2]
  by_cases c : nI (S f) = 2
  · rw [if_pos c, if_pos c]
    have r := rfO_rl hf hS.1 hS.2 hk0 (many := nI (S f)) rfl 2 0 (by omega) ((q15 _ (by omega)).trans e15) st.2.2 st.1 st.2.1
    exact ⟨r.1, r.2.1, r.2.2.1, fun k hk => (r.2.2.2 k hk).trans (q15 k hk)⟩
  · rw [if_neg c, if_neg c]
    have r := rfO_rl hf hS.1 hS.2 hk0 (many := nI (S f)) rfl 3 0 (by omega) ((q15 _ (by omega)).trans e15) st.2.2 st.1 st.2.1
    exact ⟨r.1, r.2.1, r.2.2.1, fun k hk => (r.2.2.2 k hk).trans (q15 k hk)⟩
theorem trn_iff {g : Nat → Nat → Int32} {fr : Nat} {x y : Int32} (ht : thrK g) : (trnG g fr x y n = -100000) = (hrdG g fr x y n = false) := by
  apply propext
  cases z : hrdG g fr x y n
  · exact ⟨fun _ => rfl, fun _ => trn_ff z⟩
  · refine ⟨fun h => ?_, fun h => absurd h (by decide)⟩
    rw [trn_tt z] at h
    have := hr_ms ht z
    rw [h] at this
    exact absurd this (Int32.lt_irrefl)
end RF
