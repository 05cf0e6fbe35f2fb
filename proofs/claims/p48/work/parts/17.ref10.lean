def bkK (g : Nat → Nat → Int32) : Prop := ∃ b : Nat, g 1 13 = nI b ∧ b ≤ 3
theorem bkK_at {g g' : Nat → Nat → Int32} (h : bkK g) (e : g' 1 13 = g 1 13) : bkK g' := by
  obtain ⟨E, h1, h2⟩ := h
  exact ⟨E, e.trans h1, h2⟩
theorem evK_nte {g : Nat → Nat → Int32} {kd v : Int32} (h : evK g) : evK (nteG g kd v) := by
  obtain ⟨E, h1, h2⟩ := h
  have q : ∀ (gg : Nat → Nat → Int32) (e : Nat), gg 1 14 = nI e → e < 20 → evK (nte1 gg e kd v) := fun gg e h3 h4 => by
    refine ⟨e + 1, ?_, by omega⟩
    unfold nte1
    rw [ug_same, ug_ne (by omega), ug_ne (by omega), ug_ne (by omega), h3, nI_1]
  unfold nteG
  split
  · exact q _ 19 (by rw [ug_same]; rfl) (by omega)
  · next h3 =>
    rw [h1, nI_clamp (by omega)]
    refine q g E h1 ?_
    rcases Nat.lt_or_ge E 20 with h4 | h4
    · exact h4
    · exact absurd (by rw [h1, show E = 20 by omega]; rfl) h3
def tk1 (n : Nat) (g : Nat → Nat → Int32) : Nat → Nat → Int32 := sntG g 0 (g 1 18) (g 1 38) 2 n
def tk2 (n : Nat) (g : Nat → Nat → Int32) : Nat → Nat → Int32 := sntG (tk1 n g) 1 (tk1 n g 1 18) (tk1 n g 1 38) 2 n
def tka (n : Nat) (g : Nat → Nat → Int32) : Bool := hrdG g 0 (g 1 18) (g 1 38) n
def tkb (n : Nat) (g : Nat → Nat → Int32) : Bool := hrdG (tk1 n g) 1 (tk1 n g 1 18) (tk1 n g 1 38) n
def tkR (n : Nat) (g : Nat → Nat → Int32) : Nat → Nat → Int32 := if tk2 n g 1 1 + 1 < tk2 n g 1 10 then ug (tk2 n g) 1 1 (tk2 n g 1 1 + 1) else rcF n ((ug (tk2 n g) 1 1 (tk2 n g 1 1 + 1)) 1 13).toNatClampNeg 0 (ug (ug (tk2 n g) 1 1 (tk2 n g 1 1 + 1)) 1 1 0)
def tlkG (n : Nat) (g : Nat → Nat → Int32) : Nat → Nat → Int32 := if tka n g = true ∧ tkb n g = true then ug (tk2 n g) 1 1 0 else tkR n g
theorem kf_tk2 {n : Nat} {g : Nat → Nat → Int32} : keptF g (tk2 n g) := kf_snt (kf_snt (kf_rf g))
theorem kf_tr3 {s n : Nat} {S : Nat → Nat} {g : Nat → Nat → Int32} : keptF g (tr3 s n S g) := kf_snt (kf_snt (kf_snt (kf_rf g)))
theorem nte_13 {g : Nat → Nat → Int32} {kd v : Int32} (k : Nat) (h1 : k < 112 ∨ 172 ≤ k) (h2 : k ≠ 14) (hE : evK g) : nteG g kd v 1 k = g 1 k := by
  obtain ⟨E, h3, h4⟩ := hE
  have q : ∀ (gg : Nat → Nat → Int32) (e : Nat), e < 20 → nte1 gg e kd v 1 k = gg 1 k := fun gg e h5 => by
    unfold nte1
    rw [ug_ne (by omega), ug_ne (by omega), ug_ne (by omega), ug_ne (by omega)]
  unfold nteG
  split
  · rw [q _ 19 (by omega), ug_ne (by omega)]
    unfold shE
    rw [if_neg (by omega)]
  · next h5 =>
    refine q g _ ?_
    rw [h3, nI_clamp (by omega)]
    rcases Nat.lt_or_ge E 20 with h6 | h6
    · exact h6
    · exact absurd (by rw [h3, show E = 20 by omega]; rfl) h5
theorem trk_at {s n : Nat} {S : Nat → Nat} {g : Nat → Nat → Int32} (hs2 : s < 2) (hE : evK g) (k : Nat) (hk : frK k) (h1 : k < 112 ∨ 172 ≤ k) (h2 : k ≠ 14) : trkG s n S g 1 k = g 1 k := by
  have e0 : tr3 s n S g 1 k = g 1 k := kf_tr3 k hk
  have e1 : evK (tr3 s n S g) := evK_at hE (kf_tr3 14 (by unfold frK; omega))
  have e2 : ∀ x kd v, nteG (ug (tr3 s n S g) 1 (18 + 20 * s) x) kd v 1 k = g 1 k := fun x kd v => by
    rw [nte_13 k h1 h2 (evK_at e1 (ug_ne (by omega))), ug_ne (by unfold frK at hk; omega)]
    exact e0
  unfold trkG
  repeat' split
  all_goals first | exact e0 | exact e2 _ _ _
