/-! WHAT A SWEEP LEAVES -/
/-- the event that is noted last stands last -/
theorem nte_top {g : Nat → Nat → Int32} {kd v : Int32} (hE : evK g) : ∃ E : Nat, E < 20 ∧ nteG g kd v 1 14 = nI (E + 1) ∧ nteG g kd v 1 (112 + 3 * E) = kd ∧ nteG g kd v 1 (112 + 3 * E + 1) = v ∧ nteG g kd v 1 (112 + 3 * E + 2) = g 1 2 := by
  obtain ⟨E, hE1, hE2⟩ := hE
  unfold nteG
  by_cases c : g 1 14 = 20
  · rw [if_pos c]
    refine ⟨19, by omega, ?_, nte1_k0, nte1_k1, ?_⟩
    · rw [nte1_14, ug_same]; rfl
    · rw [nte1_k2, ug_ne (by omega)]
      exact shE_lo (by omega)
  · rw [if_neg c]
    have hE3 : E < 20 := by
      refine Nat.lt_of_le_of_ne hE2 fun z => c ?_
      rw [hE1, z]; rfl
    have ec : (g 1 14).toNatClampNeg = E := by rw [hE1]; exact nI_clamp (by omega)
    rw [ec]
    refine ⟨E, hE3, ?_, nte1_k0, nte1_k1, nte1_k2⟩
    rw [nte1_14, hE1]
    exact nI_1 E
/-- the latest event, as questions show it -/
def lsE (g : Nat → Nat → Int32) (kd v t : Int32) : Prop := ∃ E : Nat, E < 20 ∧ g 1 14 = nI (E + 1) ∧ g 1 (112 + 3 * E) = kd ∧ g 1 (112 + 3 * E + 1) = v ∧ g 1 (112 + 3 * E + 2) = t
theorem ls_nte {g : Nat → Nat → Int32} {kd v : Int32} (hE : evK g) : lsE (nteG g kd v) kd v (g 1 2) := nte_top hE
/-- the best sector of a station, by a table -/
def bsL (t : Nat → Int32) (S : Nat) : Int32 := bi (bstF t S 0 none)
theorem bsL_eq {t u : Nat → Int32} {S : Nat} (h : ∀ k, k < S → u k = t k) : bsL u S = bsL t S := by
  unfold bsL
  rw [bstF_eq h S 0 none (by omega) (fun b z => by cases z)]
theorem bsL_none {t : Nat → Int32} (h : ∀ k, k < 16 → t k = -100000) : ∀ (m k : Nat), k + m ≤ 16 → bstF t m k none = none
  | 0, _, _ => rfl
  | m + 1, k, hk => by
    unfold bstF bstS
    rw [if_pos (h k (by omega))]
    exact bsL_none h m (k + 1) (by omega)
theorem swpA_ff {fr n : Nat} : ∀ (K : Nat) {g : Nat → Nat → Int32} {z : Bool}, swpA fr n K g z = false → z = false ∧ ∀ k, k ≠ 3 → k ≠ 4 → k ≠ 5 → swpG fr n K g 1 k = g 1 k
  | 0, g, z, h => ⟨h, fun _ _ _ _ => rfl⟩
  | K + 1, g, z, h => by
    obtain ⟨h1, h2⟩ := swpA_ff K (g := swpS fr n g K) (z := hrdG g fr (b0W fr (nI K) (-1)) (b1W fr (nI K) (-1)) n || z) h
    rw [Bool.or_eq_false_iff] at h1
    refine ⟨h1.2, fun k k3 k4 k5 => (h2 k k3 k4 k5).trans ?_⟩
    unfold swpS
    rw [if_neg (by rw [h1.1]; decide)]
    unfold sntG
    rw [ug_ne (by omega), ug_ne (by omega), ug_ne (by omega), ug_ne (by omega)]
section SX
variable {f n : Nat} {S : Nat → Nat} {g : Nat → Nat → Int32}
theorem pR_1 : phR f n S g = 1 → pha1 f n S g = false := by
  unfold phR
  intro h
  by_cases c : pha1 f n S g = false
  · exact c
  · rw [if_neg c] at h
    split at h
    · exact absurd h (by decide)
    · split at h
      · exact absurd h (by decide)
      · split at h
        · exact absurd h (by decide)
        · exact absurd h (by decide)
theorem pR_0 (h : phR f n S g = 0) : phW f n S g = phg6 f n S g := by
  unfold phR at h
  unfold phW
  by_cases c1 : pha1 f n S g = false
  · rw [if_pos c1] at h; exact absurd h (by decide)
  · rw [if_neg c1] at h ⊢
    by_cases c2 : pha2 f n S g = false
    · rw [if_pos c2] at h; exact absurd h (by decide)
    · rw [if_neg c2] at h ⊢
      by_cases c3 : phh3 f n S g = false
      · rw [if_pos c3] at h; exact absurd h (by decide)
      · rw [if_neg c3] at h ⊢
theorem pR_in : phR f n S g = 0 ∨ phR f n S g = 1 ∨ phR f n S g = 2 ∨ phR f n S g = 3 ∨ phR f n S g = 4 := by
  unfold phR
  split
  · exact Or.inr (Or.inl rfl)
  · split
    · exact Or.inr (Or.inr (Or.inl rfl))
    · split
      · exact Or.inr (Or.inr (Or.inr (Or.inl rfl)))
      · split
        · exact Or.inr (Or.inr (Or.inr (Or.inr rfl)))
        · exact Or.inl rfl
/-- what stands after a sweep: the link, the failures, the latest event -/
theorem dsw_up (hf : f < 2) (hS : S f ≤ 16) (hS2 : S (1 - f) ≤ 16) (hE : evK g) : dswG f n S g 1 0 = (if phR f n S g = 0 then 1 else 0) ∧ dswG f n S g 1 1 = 0 ∧ lsE (dswG f n S g) (if phR f n S g = 0 then 1 else 5) (if phR f n S g = 0 then nI f else phR f n S g) (g 1 2) := by
  have hE2 := pW_ev (n := n) hf hS hS2 hE
  have e2 : phW f n S g 1 2 = g 1 2 := cR_at (cR_pW hf hS hS2) 2 (by unfold pT; omega) (by omega) (by omega) (by omega)
  have u : ∀ (x kd v : Int32), nteG (ug (ug (phW f n S g) 1 0 x) 1 1 0) kd v 1 0 = x ∧ nteG (ug (ug (phW f n S g) 1 0 x) 1 1 0) kd v 1 1 = 0 ∧ lsE (nteG (ug (ug (phW f n S g) 1 0 x) 1 1 0) kd v) kd v (g 1 2) := fun x kd v => by
    have hE3 : evK (ug (ug (phW f n S g) 1 0 x) 1 1 0) := evK_at hE2 (by rw [ug_ne (by omega), ug_ne (by omega)])
    refine ⟨(nte_13 0 (by omega) (by omega) hE3).trans (by rw [ug_ne (by omega), ug_same]), (nte_13 1 (by omega) (by omega) hE3).trans ug_same, ?_⟩
    have z := ls_nte (kd := kd) (v := v) hE3
    rw [ug_ne (by omega), ug_ne (by omega), e2] at z
    exact z
  unfold dswG
  by_cases c : phR f n S g = 0
  · rw [if_pos c, if_pos c, if_pos c, if_pos c]; exact u 1 1 (nI f)
  · rw [if_neg c, if_neg c, if_neg c, if_neg c]; exact u 0 5 _
theorem dsw_lo (hf : f < 2) (hS : S f ≤ 16) (hS2 : S (1 - f) ≤ 16) (hE : evK g) {k : Nat} (h : k < 112) (h0 : k ≠ 0) (h1 : k ≠ 1) (h14 : k ≠ 14) : dswG f n S g 1 k = phW f n S g 1 k := by
  have hE2 := pW_ev (n := n) hf hS hS2 hE
  have u : ∀ (x kd v : Int32), nteG (ug (ug (phW f n S g) 1 0 x) 1 1 0) kd v 1 k = phW f n S g 1 k := fun x kd v => by
    have hE3 : evK (ug (ug (phW f n S g) 1 0 x) 1 1 0) := evK_at hE2 (by rw [ug_ne (by omega), ug_ne (by omega)])
    rw [nte_13 k (Or.inl h) h14 hE3, ug_ne (by omega), ug_ne (by omega)]
  unfold dswG
  split
  · exact u 1 1 (nI f)
  · exact u 0 5 _
theorem p6_4 {k : Nat} (h3 : k ≠ 3) (h4 : k ≠ 4) (h5 : k ≠ 5) (h : k ≠ 18 + 20 * (1 - f)) : phg6 f n S g 1 k = phg4 f n S g 1 k := by
  unfold phg6 phg5 sntG
  rw [ug_ne (by omega), ug_ne (by omega), ug_ne (by omega), ug_ne (by omega), ug_ne (by omega)]
theorem p4_2 {k : Nat} (h3 : k ≠ 3) (h4 : k ≠ 4) (h5 : k ≠ 5) (h : k ≠ 18 + 20 * f) : phg4 f n S g 1 k = phg2 f n S g 1 k := by
  unfold phg4 phg3 sntG
  rw [ug_ne (by omega), ug_ne (by omega), ug_ne (by omega), ug_ne (by omega), ug_ne (by omega)]
/-- a sweep with the result 0 leaves the best sectors of both tables -/
theorem dsw_best (hf : f < 2) (hS : S f ≤ 16) (hS2 : S (1 - f) ≤ 16) (hE : evK g) (h : phR f n S g = 0) : dswG f n S g 1 18 = bsL (fun k => dswG f n S g 1 (39 + k)) (S 0) ∧ dswG f n S g 1 38 = bsL (fun k => dswG f n S g 1 (19 + k)) (S 1) := by
  have lo : ∀ k, k < 112 → k ≠ 0 → k ≠ 1 → k ≠ 14 → dswG f n S g 1 k = phg6 f n S g 1 k := fun k a b c d => (dsw_lo hf hS hS2 hE a b c d).trans (by rw [pR_0 h])
  have a1 : dswG f n S g 1 (18 + 20 * f) = bsL (fun k => dswG f n S g 1 (15 + 20 * (1 - f) + (4 + k))) (S f) := by
    rw [lo _ (by omega) (by omega) (by omega) (by omega), p6_4 (by omega) (by omega) (by omega) (by omega)]
    have e : phg4 f n S g 1 (18 + 20 * f) = phb3 f n S g := by
      unfold phg4 sntG
      rw [ug_ne (by omega), ug_ne (by omega), ug_ne (by omega), ug_ne (by omega)]
      unfold phg3
      exact ug_same
    rw [e]
    show bsL (fun k => phg2 f n S g 1 (15 + 20 * (1 - f) + (4 + k))) (S f) = _
    refine bsL_eq fun k hk => ?_
    show _ = dswG f n S g 1 (15 + 20 * (1 - f) + (4 + k))
    rw [lo _ (by omega) (by omega) (by omega) (by omega), p6_4 (by omega) (by omega) (by omega) (by omega), p4_2 (by omega) (by omega) (by omega) (by omega)]
  have a2 : dswG f n S g 1 (18 + 20 * (1 - f)) = bsL (fun k => dswG f n S g 1 (15 + 20 * f + (4 + k))) (S (1 - f)) := by
    rw [lo _ (by omega) (by omega) (by omega) (by omega)]
    have e : phg6 f n S g 1 (18 + 20 * (1 - f)) = phb5 f n S g := by
      unfold phg6 sntG
      rw [ug_ne (by omega), ug_ne (by omega), ug_ne (by omega), ug_ne (by omega)]
      unfold phg5
      exact ug_same
    rw [e]
    show bsL (fun k => phg4 f n S g 1 (15 + 20 * f + (4 + k))) (S (1 - f)) = _
    refine bsL_eq fun k hk => ?_
    show _ = dswG f n S g 1 (15 + 20 * f + (4 + k))
    rw [lo _ (by omega) (by omega) (by omega) (by omega), p6_4 (by omega) (by omega) (by omega) (by omega)]
  rcases (show f = 0 ∨ f = 1 by omega) with rfl | rfl
  · exact ⟨a1.trans (bsL_eq fun k _ => by rw [show 15 + 20 * (1 - 0) + (4 + k) = 39 + k by omega]), a2.trans (bsL_eq fun k _ => by rw [show 15 + 20 * 0 + (4 + k) = 19 + k by omega])⟩
  · exact ⟨a2.trans (bsL_eq fun k _ => by rw [show 15 + 20 * 1 + (4 + k) = 39 + k by omega]), a1.trans (bsL_eq fun k _ => by rw [show 15 + 20 * (1 - 1) + (4 + k) = 19 + k by omega])⟩
/-- after the result 1 the initiator has no best sector -/
theorem dsw_none (hf : f < 2) (hS : S f ≤ 16) (hS2 : S (1 - f) ≤ 16) (hE : evK g) (h : phR f n S g = 1) : bsL (fun k => dswG f n S g 1 (19 + 20 * (1 - f) + k)) (S f) = -1 := by
  have h1 := pR_1 h
  have e : ∀ k, k < 16 → dswG f n S g 1 (19 + 20 * (1 - f) + k) = -100000 := fun k hk => by
    rw [dsw_lo hf hS hS2 hE (by omega) (by omega) (by omega) (by omega)]
    unfold phW
    rw [if_pos h1]
    unfold pha1 at h1
    unfold phg1
    rw [(swpA_ff (S f) h1).2 _ (by omega) (by omega) (by omega)]
    exact if_pos ⟨rfl, by omega, by omega⟩
  unfold bsL
  rw [bsL_none e (S f) 0 (by omega)]
  rfl
end SX
