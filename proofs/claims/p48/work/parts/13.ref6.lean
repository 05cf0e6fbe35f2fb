def stK (k : Nat) : Prop := k = 7 ∨ k = 12 ∨ k = 15 ∨ k = 17 ∨ k = 35 ∨ k = 37 ∨ (55 ≤ k ∧ k < 103 ∧ 2 ≤ (k - 55) % 6)
/-- the ranges that the levels rest on -/
def statR (g : Nat → Nat → Int32) (n : Nat) : Prop := g 1 12 = nI n ∧ n ≤ 8 ∧ (∃ a : Nat, g 1 7 = nI a ∧ a ≤ 60) ∧ (∃ a : Nat, g 1 15 = nI a ∧ 2 ≤ a ∧ a ≤ 16) ∧ (∃ a : Nat, g 1 35 = nI a ∧ 2 ≤ a ∧ a ≤ 16) ∧ (∃ a : Nat, g 1 17 = nI a ∧ a ≤ 100) ∧ (∃ a : Nat, g 1 37 = nI a ∧ a ≤ 100) ∧ ∀ p, p < n → (∃ a : Nat, g 1 (57 + 6 * p) = nI a ∧ a ≤ 300) ∧ (∃ a : Nat, g 1 (58 + 6 * p) = nI a ∧ a ≤ 200)
theorem st_same {g g' : Nat → Nat → Int32} {n : Nat} (ha : ∀ k, stK k → g' 1 k = g 1 k) (h : statR g n) : statR g' n := by
  obtain ⟨h1, h2, h3, h4, h5, h6, h7, h8⟩ := h
  refine ⟨by rw [ha _ (by unfold stK; omega)]; exact h1, h2, by rw [ha _ (by unfold stK; omega)]; exact h3, by rw [ha _ (by unfold stK; omega)]; exact h4, by rw [ha _ (by unfold stK; omega)]; exact h5, by rw [ha _ (by unfold stK; omega)]; exact h6, by rw [ha _ (by unfold stK; omega)]; exact h7, fun p hp => ?_⟩
  rw [ha _ (by unfold stK; omega), ha _ (by unfold stK; omega)]
  exact h8 p hp
theorem st_ug {g : Nat → Nat → Int32} {n i k : Nat} {x : Int32} (hk : ¬ (i = 1 ∧ (k = 7 ∨ k = 12 ∨ k = 15 ∨ k = 17 ∨ k = 35 ∨ k = 37 ∨ (55 ≤ k ∧ k < 103 ∧ 2 ≤ (k - 55) % 6)))) (h : statR g n) : statR (ug g i k x) n :=
  st_same (fun j hj => ug_ne (fun z => hk ⟨z.1.symm, by rw [← z.2]; exact hj⟩)) h
def kept (g g' : Nat → Nat → Int32) : Prop := ∀ k, stK k → g' 1 k = g 1 k
theorem kp_rf (g : Nat → Nat → Int32) : kept g g := fun _ _ => rfl
theorem kp_tr {g g1 g2 : Nat → Nat → Int32} (h1 : kept g g1) (h2 : kept g1 g2) : kept g g2 := fun k hk => (h2 k hk).trans (h1 k hk)
theorem kp_ug {g g0 : Nat → Nat → Int32} {i k : Nat} {x : Int32} (hk : ¬ (i = 1 ∧ (k = 7 ∨ k = 12 ∨ k = 15 ∨ k = 17 ∨ k = 35 ∨ k = 37 ∨ (55 ≤ k ∧ k < 103 ∧ 2 ≤ (k - 55) % 6)))) (h : kept g0 g) : kept g0 (ug g i k x) :=
  kp_tr h (fun j hj => ug_ne (fun z => hk ⟨z.1.symm, by rw [← z.2]; exact hj⟩))
theorem kp_snt {g g0 : Nat → Nat → Int32} {fr m : Nat} {b0 b1 t : Int32} (h : kept g0 g) : kept g0 (sntG g fr b0 b1 t m) := kp_ug (by omega) (kp_ug (by omega) (kp_ug (by omega) (kp_ug (by omega) h)))
theorem st_hA {g : Nat → Nat → Int32} {n : Nat} (h : statR g n) : ¬ g 1 7 + 1 = 0 := by
  obtain ⟨a, h1, h2⟩ := h.2.2.1
  rw [h1, nI_1]
  exact nI_ne0 (by omega) (by omega)
theorem st_m0 {g : Nat → Nat → Int32} {n : Nat} (h : statR g n) : ¬ g 1 15 = 0 := by
  obtain ⟨a, h1, h2, h3⟩ := h.2.2.2.1
  rw [h1]
  exact nI_ne0 (by omega) (by omega)
theorem st_m1 {g : Nat → Nat → Int32} {n : Nat} (h : statR g n) : ¬ g 1 35 = 0 := by
  obtain ⟨a, h1, h2, h3⟩ := h.2.2.2.2.1
  rw [h1]
  exact nI_ne0 (by omega) (by omega)
theorem st_lvB {g : Nat → Nat → Int32} {n : Nat} (h : statR g n) {fr : Nat} (hf : fr < 2) (b0 b1 : Int32) : lvB g fr b0 b1 n := by
  obtain ⟨-, h8, -, -, -, h6, h7, hp⟩ := h
  refine ⟨h8, fun q hq => ?_⟩
  obtain ⟨⟨a, a1, a2⟩, ⟨c, c1, c2⟩⟩ := hp q hq
  have e0 : ∃ k : Nat, g 1 (15 + 20 * fr + 2) = nI k ∧ k ≤ 100 := by
    rcases (show fr = 0 ∨ fr = 1 by omega) with rfl | rfl
    · exact h6
    · exact h7
  obtain ⟨k, k1, k2⟩ := e0
  have z : -580 ≤ (levG g fr b0 b1 q).toInt ∧ (levG g fr b0 b1 q).toInt ≤ 196 := by
    unfold levG
    rw [k1, show 55 + 6 * q + 2 = 57 + 6 * q by omega, show 55 + 6 * q + 3 = 58 + 6 * q by omega, a1, c1]
    refine lev_b ?_ (ga_r _ _ _ _) (ga_r _ _ _ _) ?_ ?_
    · rw [nI_toInt (by omega)]; omega
    · rw [nI_toInt (by omega)]; omega
    · rw [nI_toInt (by omega)]; omega
  exact ⟨((levG g fr b0 b1 q).toInt + 700).toNat, by omega, by omega, n7_of (by omega) (by omega)⟩
theorem okQ_of {g : Nat → Nat → Int32} {n : Nat} (h : statR g n) (fr : Nat) (hf : fr < 2) (b0 b1 : Int32) : okQ g fr b0 b1 n := by
  have hl := st_lvB h hf b0 b1
  refine ⟨h.1, h.2.1, st_m0 h, st_m1 h, fun q hq => ?_, fun q hq => ?_⟩
  · obtain ⟨k, k1, k2, k3⟩ := hl.2 q hq
    exact ⟨k, by omega, k3⟩
  · exact pF_n32 (Nat.le_of_lt (rec_F hl (q + 1) (by omega)).1)
def b0W (fr : Nat) (b o : Int32) : Int32 := if fr = 0 then b else o
def b1W (fr : Nat) (b o : Int32) : Int32 := if fr = 0 then o else b
/-- one sweep frame: station fr with its wide beam k, the other one's table -/
def swpS (fr n : Nat) (g : Nat → Nat → Int32) (k : Nat) : Nat → Nat → Int32 := if hrdG g fr (b0W fr (nI k) (-1)) (b1W fr (nI k) (-1)) n = true then ug (sntG g fr (b0W fr (nI k) (-1)) (b1W fr (nI k) (-1)) 16 n) 1 (15 + 20 * (1 - fr) + (4 + k)) (sntG g fr (b0W fr (nI k) (-1)) (b1W fr (nI k) (-1)) 16 n 0 5) else sntG g fr (b0W fr (nI k) (-1)) (b1W fr (nI k) (-1)) 16 n
def swpG (fr n : Nat) : Nat → (Nat → Nat → Int32) → Nat → Nat → Int32
  | 0, g => g
  | k + 1, g => swpG fr n k (swpS fr n g k)
def swpA (fr n : Nat) : Nat → (Nat → Nat → Int32) → Bool → Bool
  | 0, _, a => a
  | k + 1, g, a => swpA fr n k (swpS fr n g k) (hrdG g fr (b0W fr (nI k) (-1)) (b1W fr (nI k) (-1)) n || a)
theorem nI_m1 (m : Nat) : nI m + Int32.ofInt (-1) = nI m - 1 := by
  rw [show Int32.ofInt (-1) = -1 from by decide, Int32.sub_eq_add_neg]
