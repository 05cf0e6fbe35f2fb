/-- the row of paths while it is written -/
def layA (a : Nat → Nat) (g : Nat → Nat → Int32) (σ τ : Nat → Nat) : Wd := fun i k => if i = 5 then .ref (6 + a k) else layB g σ τ i k
theorem lA_0 {g : Nat → Nat → Int32} {σ τ : Nat → Nat} : layB g σ τ = layA σ g σ τ := by
  funext i k
  unfold layA
  by_cases h : i = 5
  · rw [if_pos h, h]; rfl
  · rw [if_neg h]
def upN (a : Nat → Nat) (j x : Nat) : Nat → Nat := fun k => if k = j then x else a k
theorem lA_up {a : Nat → Nat} {g : Nat → Nat → Int32} {σ τ : Nat → Nat} {j x : Nat} : up2 (layA a g σ τ) 5 j (.ref (6 + x)) = layA (upN a j x) g σ τ := by
  funext i k
  unfold layA up2 upN
  by_cases h : i = 5
  · rw [if_pos h, if_pos h]
    by_cases h2 : k = j
    · rw [if_pos h2, if_pos h2]
    · rw [if_neg h2, if_neg h2]
      exact if_pos h
  · rw [if_neg h, if_neg h]
    exact if_neg h
def drS (q : Nat) (σ : Nat → Nat) : Nat → Nat := fun j => if j < q then σ j else if j < 7 then σ (j + 1) else σ q
def drT (q : Nat) (τ : Nat → Nat) : Nat → Nat := fun o => if τ o < q then τ o else if τ o = q then 7 else τ o - 1
/-- where the numbers of the new path j stood -/
def drQ (q j : Nat) : Nat := if j < q then j else if j < 7 then j + 1 else q
def drG (q : Nat) (g : Nat → Nat → Int32) : Nat → Nat → Int32 := ug (fun a k => if a = 1 ∧ 55 ≤ k ∧ k < 103 then g 1 (55 + 6 * drQ q ((k - 55) / 6) + (k - 55) % 6) else g a k) 1 12 (g 1 12 - 1)
theorem dr_pm {q : Nat} {σ τ : Nat → Nat} (h : pmK σ τ) (hq : q < 8) : pmK (drS q σ) (drT q τ) := by
  constructor
  · intro k hk
    unfold drS drT
    by_cases c1 : k < q
    · rw [if_pos c1]
      have z := h.1 k hk
      rw [z.2, if_pos c1]
      exact ⟨z.1, rfl⟩
    · rw [if_neg c1]
      by_cases c2 : k < 7
      · rw [if_pos c2]
        have z := h.1 (k + 1) (by omega)
        rw [z.2, if_neg (by omega), if_neg (by omega)]
        exact ⟨z.1, by omega⟩
      · rw [if_neg c2]
        have z := h.1 q hq
        rw [z.2, if_neg (by omega), if_pos rfl]
        exact ⟨z.1, by omega⟩
  · intro k hk
    have z := h.2 k hk
    unfold drS drT
    by_cases c1 : τ k < q
    · rw [if_pos c1, if_pos c1]; exact z
    · rw [if_neg c1]
      by_cases c2 : τ k = q
      · rw [if_pos c2, if_neg (by omega), if_neg (by omega), ← c2]
        exact ⟨by omega, z.2⟩
      · rw [if_neg c2, if_neg (by omega), if_pos (by omega), show τ k - 1 + 1 = τ k by omega]
        exact ⟨by omega, z.2⟩
theorem drQ_T {q o : Nat} {τ : Nat → Nat} (ho : τ o < 8) (hq : q < 8) : drQ q (drT q τ o) = τ o := by
  unfold drQ drT
  by_cases c1 : τ o < q
  · rw [if_pos c1, if_pos c1]
  · rw [if_neg c1]
    by_cases c2 : τ o = q
    · rw [if_pos c2, if_neg (by omega), if_neg (by omega), c2]
    · rw [if_neg c2, if_neg (by omega), if_pos (by omega)]; omega
theorem dr_at {q a k : Nat} {g : Nat → Nat → Int32} (h : ¬ (a = 1 ∧ ((55 ≤ k ∧ k < 103) ∨ k = 12))) : drG q g a k = g a k := (ug_ne (by omega)).trans (if_neg (by omega))
theorem dr_12 {q : Nat} {g : Nat → Nat → Int32} : drG q g 1 12 = g 1 12 - 1 := ug_same
theorem dr_p {q j r : Nat} {g : Nat → Nat → Int32} (hj : j < 8) (hr : r < 6) : drG q g 1 (55 + 6 * j + r) = g 1 (55 + 6 * drQ q j + r) := by
  refine (ug_ne (by omega)).trans ((if_pos ⟨rfl, by omega, by omega⟩).trans ?_)
  rw [show (55 + 6 * j + r - 55) / 6 = j by omega, show (55 + 6 * j + r - 55) % 6 = r by omega]
/-- the end of dropPath is a world of the class -/
theorem lA_end {a : Nat → Nat} {g : Nat → Nat → Int32} {σ τ : Nat → Nat} {q : Nat} (hσ : pmK σ τ) (hq : q < 8) (ha : ∀ j, j < 8 → a j = drS q σ j) : wEq shB 26 (layA a (ug g 1 12 (g 1 12 - 1)) σ τ) (layB (drG q g) (drS q σ) (drT q τ)) := by
  have hp : ∀ j k, j < 8 → k < 6 → layB (ug g 1 12 (g 1 12 - 1)) σ τ (6 + j) k = layB (drG q g) (drS q σ) (drT q τ) (6 + j) k := by
    intro j k hj hk
    rw [lb_p hj, lb_p hj]
    have z := hσ.2 j hj
    have z2 := ((dr_pm hσ hq).2 j hj).1
    rw [dr_p z2 hk, drQ_T z.1 hq, ug_ne (by omega)]
  have hg : ∀ k, ¬ (55 ≤ k ∧ k < 103) → (ug g 1 12 (g 1 12 - 1)) 1 k = drG q g 1 k := by
    intro k hk
    by_cases h12 : k = 12
    · rw [h12, dr_12, ug_same]
    · rw [dr_at (by omega), ug_ne (by omega)]
  have ho : ∀ b k, b ≠ 1 → (ug g 1 12 (g 1 12 - 1)) b k = drG q g b k := by
    intro b k hb
    rw [dr_at (by omega), ug_ne (by omega)]
  intro i hi k hk
  unfold layA
  rcases (show i = 0 ∨ i = 1 ∨ i = 2 ∨ i = 3 ∨ i = 4 ∨ i = 5 ∨ i = 6 ∨ i = 7 ∨ i = 8 ∨ i = 9 ∨ i = 10 ∨ i = 11 ∨ i = 12 ∨ i = 13 ∨ i = 14 ∨ i = 15 ∨ i = 16 ∨ i = 17 ∨ i = 18 ∨ i = 19 ∨ i = 20 ∨ i = 21 ∨ i = 22 ∨ i = 23 ∨ i = 24 ∨ i = 25 by omega) with rfl | rfl | rfl | rfl | rfl | rfl | rfl | rfl | rfl | rfl | rfl | rfl | rfl | rfl | rfl | rfl | rfl | rfl | rfl | rfl | rfl | rfl | rfl | rfl | rfl | rfl
  case _ =>
    rw [if_neg (by omega)]
    cases hb : iB 0 k with
    | true =>
      rw [lb_int (by omega) hb, lb_int (by omega) hb]
      have hk : k < 18 := hk
      have e : ∀ t : Nat → Nat, pB t 0 k = if k = 3 then (1, 12) else (1, k - 6) := fun t => rfl
      rw [e, e]
      by_cases h3 : k = 3
      · rw [if_pos h3]; exact congrArg Value.int (hg 12 (by omega))
      · rw [if_neg h3]; exact congrArg Value.int (hg _ (by omega))
    | false =>
      rw [lb_ref (g' := g) (by omega) hb, lb_ref (σ := drS q σ) (g' := g) (by omega) hb]
      have hk : k < 18 := hk
      simp only [iB, Bool.or_eq_false_iff, beq_eq_false_iff_ne] at hb
      have h6 : ¬ 6 ≤ k := fun z => by have q := Nat.ble_eq.mpr z; rw [hb.2] at q; cases q
      rcases (show k = 0 ∨ k = 1 ∨ k = 2 ∨ k = 4 ∨ k = 5 by omega) with rfl | rfl | rfl | rfl | rfl <;> rfl
  case _ =>
    have hk : k < 5 := hk
    rcases (show k = 0 ∨ k = 1 ∨ k = 2 ∨ k = 3 ∨ k = 4 by omega) with rfl | rfl | rfl | rfl | rfl
    case _ => exact congrArg Value.int (hg 15 (by omega))
    case _ => exact congrArg Value.int (hg 16 (by omega))
    case _ => exact congrArg Value.int (hg 17 (by omega))
    case _ => exact congrArg Value.int (hg 18 (by omega))
    case _ => rfl
  case _ =>
    have hk : k < 16 := hk
    exact congrArg Value.int (hg (19 + k) (by omega))
  case _ =>
    have hk : k < 5 := hk
    rcases (show k = 0 ∨ k = 1 ∨ k = 2 ∨ k = 3 ∨ k = 4 by omega) with rfl | rfl | rfl | rfl | rfl
    case _ => exact congrArg Value.int (hg 35 (by omega))
    case _ => exact congrArg Value.int (hg 36 (by omega))
    case _ => exact congrArg Value.int (hg 37 (by omega))
    case _ => exact congrArg Value.int (hg 38 (by omega))
    case _ => rfl
  case _ =>
    have hk : k < 16 := hk
    exact congrArg Value.int (hg (39 + k) (by omega))
  case _ =>
    have hk : k < 8 := hk
    rw [if_pos rfl, ha k hk]
    rfl
  case _ => exact (if_neg (by omega)).trans (hp 0 k (by omega) hk)
  case _ => exact (if_neg (by omega)).trans (hp 1 k (by omega) hk)
  case _ => exact (if_neg (by omega)).trans (hp 2 k (by omega) hk)
  case _ => exact (if_neg (by omega)).trans (hp 3 k (by omega) hk)
  case _ => exact (if_neg (by omega)).trans (hp 4 k (by omega) hk)
  case _ => exact (if_neg (by omega)).trans (hp 5 k (by omega) hk)
  case _ => exact (if_neg (by omega)).trans (hp 6 k (by omega) hk)
  case _ => exact (if_neg (by omega)).trans (hp 7 k (by omega) hk)
  case _ =>
    have hk : k < 4 := hk
    rcases (show k = 0 ∨ k = 1 ∨ k = 2 ∨ k = 3 by omega) with rfl | rfl | rfl | rfl
    case _ => rfl
    case _ => rfl
    case _ => rfl
    case _ => exact congrArg Value.int (hg 13 (by omega))
  case _ => have hk : k < 3 := hk; exact congrArg Value.int (hg (103 + 3 * k) (by omega))
  case _ => have hk : k < 3 := hk; exact congrArg Value.int (hg (103 + 3 * k + 1) (by omega))
  case _ => have hk : k < 3 := hk; exact congrArg Value.int (hg (103 + 3 * k + 2) (by omega))
  case _ =>
    have hk : k < 4 := hk
    rcases (show k = 0 ∨ k = 1 ∨ k = 2 ∨ k = 3 by omega) with rfl | rfl | rfl | rfl
    case _ => rfl
    case _ => rfl
    case _ => rfl
    case _ => exact congrArg Value.int (hg 14 (by omega))
  case _ => have hk : k < 20 := hk; exact congrArg Value.int (hg (112 + 3 * k) (by omega))
  case _ => have hk : k < 20 := hk; exact congrArg Value.int (hg (112 + 3 * k + 1) (by omega))
  case _ => have hk : k < 20 := hk; exact congrArg Value.int (hg (112 + 3 * k + 2) (by omega))
  case _ => rfl
  case _ => exact congrArg Value.int (ho 4 k (by omega))
  case _ =>
    have hk : k < 5 := hk
    rcases (show k = 0 ∨ k = 1 ∨ k = 2 ∨ k = 3 ∨ k = 4 by omega) with rfl | rfl | rfl | rfl | rfl
    case _ => rfl
    case _ => exact congrArg Value.int (ho 0 4 (by omega))
    case _ => exact congrArg Value.int (ho 0 9 (by omega))
    case _ => exact congrArg Value.int (ho 0 10 (by omega))
    case _ => exact congrArg Value.int (ho 0 20 (by omega))
  case _ => exact congrArg Value.int (ho 3 k (by omega))
theorem hp_in {x : Nat} {n : Nat} {g : Nat → Nat → Int32} (hn : g 1 12 = nI n) (hn8 : n ≤ 8) (hx : x < n) : cs_hasPath_r (nI x) g = 1 := by
  unfold cs_hasPath_r
  rw [hn, if_neg (show ¬ nI x < 0 from nI_nlt (a := x) (b := 0) (by omega) (by omega)), if_neg (nI_ge (a := x) (b := n) (by omega) (by omega)), if_neg (show ¬ 8 ≤ nI x from nI_ge (a := x) (b := 8) (by omega) (by omega))]
theorem lA_12 {a : Nat → Nat} {g : Nat → Nat → Int32} {σ τ : Nat → Nat} {x : Int32} (hσ : pmK σ τ) : wEq shB 26 (up2 (layA a g σ τ) 0 3 (.int x)) (layA a (ug g 1 12 x) σ τ) := by
  intro i hi k hk
  have z := lb_up (o := 0) (k := 3) (a := 1) (b := 12) (x := x) (g := g) hσ (by decide) (by decide) (by rfl) (by rfl) i hi k hk
  by_cases h : i = 5
  · have e1 : up2 (layA a g σ τ) 0 3 (.int x) i k = layA a g σ τ i k := if_neg (by omega)
    rw [e1]
    exact (if_pos h).trans (if_pos h).symm
  · have e2 : layA a (ug g 1 12 x) σ τ i k = layB (ug g 1 12 x) σ τ i k := if_neg h
    rw [e2, ← z]
    unfold up2
    have e3 : layA a g σ τ i k = layB g σ τ i k := if_neg h
    rw [e3]
theorem dr_inv {σ A9 : Nat → Nat} {q p9 r : Nat} (hA : ∀ j, j < 8 → A9 j = if j < q then σ j else if j + 1 < p9 then σ (j + 1) else σ j) (hp : p9 + (r + 1) = 8) (hq : q < p9) : ∀ j, j < 8 → upN A9 (p9 - 1) (A9 p9) j = if j < q then σ j else if j + 1 < p9 + 1 then σ (j + 1) else σ j := by
  intro j hj
  unfold upN
  by_cases c : j = p9 - 1
  · rw [if_pos c, if_neg (by omega), if_pos (by omega), hA p9 (by omega), if_neg (by omega), if_neg (by omega), show j + 1 = p9 by omega]
  · rw [if_neg c, hA j hj]
    by_cases c1 : j < q
    · rw [if_pos c1, if_pos c1]
    · rw [if_neg c1, if_neg c1]
      by_cases c2 : j + 1 < p9
      · rw [if_pos c2, if_pos (by omega)]
      · rw [if_neg c2, if_neg (by omega)]
theorem dr_fin {σ A9 : Nat → Nat} {q p9 : Nat} (hA : ∀ j, j < 8 → A9 j = if j < q then σ j else if j + 1 < p9 then σ (j + 1) else σ j) (hp : p9 + 0 = 8) (hq : q < 8) : ∀ j, j < 8 → upN A9 7 (σ q) j = drS q σ j := by
  intro j hj
  unfold upN drS
  by_cases c : j = 7
  · rw [if_pos c, if_neg (by omega), if_neg (by omega)]
  · rw [if_neg c, hA j hj]
    by_cases c1 : j < q
    · rw [if_pos c1, if_pos c1]
    · rw [if_neg c1, if_neg c1, if_pos (by omega), if_pos (by omega)]
theorem dr_ini {σ : Nat → Nat} {q : Nat} : ∀ j, j < 8 → σ j = if j < q then σ j else if j + 1 < q + 1 then σ (j + 1) else σ j := by
  intro j hj
  by_cases c1 : j < q
  · rw [if_pos c1]
  · rw [if_neg c1, if_neg (by omega)]
theorem dr_8 {σ τ A9 : Nat → Nat} {q p9 : Nat} (hσ : pmK σ τ) (hA : ∀ j, j < 8 → A9 j = if j < q then σ j else if j + 1 < p9 then σ (j + 1) else σ j) (hp : p9 < 8) (hq : q < p9) : A9 p9 < 8 := by
  rw [hA p9 hp, if_neg (by omega), if_neg (by omega)]
  exact (hσ.1 p9 hp).1
set_option maxRecDepth 100000 in
set_option maxHeartbeats 8000000 in
theorem cs_dropPath {l : Launch} {D : va_G} {cA : FieldType → ClassId} {z0 : Nat} {SK : Nat → Nat} {SV : Nat → Int32} {ad : Nat → Nat} (hE : aD (fun q => z0 ≤ q) ad 26) (g : Nat → Nat → Int32) (σ τ : Nat → Nat) (hσ : pmK σ τ) (n q : Nat) (hn : g 1 12 = nI n) (hn8 : n ≤ 8) (hq : q < n) : bF l D cA z0 SK SV ad shB 26 yX6_dropPath cX6_dropPath 4 none 1 [.ref 0, .int (nI q)] (layB g σ τ) none (layB (drG q g) (drS q σ) (drT q τ)) := by
  refine bCT_intro (tb := tb_X6_dropPath) (own := RX6) hE pn_X6 rfl tk_X6_dropPath rfl (Nat.le_of_ble_eq_true rfl) ?_
  intro p e s0 m args below meth c C hr
  refine bv_blk C frk_X6 csk_X6 2 2 rfl (L1 := ([(0, .ref 0), (1, .int (nI q))] : Lc)) (st1 := ([.int (nI q), .ref 0] : List Value)) (w1 := (layB g σ τ)) (by rfl) ?_
  refine bv_fV1 C rfl (cs_hasPath hE g σ τ hσ (nI q)) ml_X6_132 im_X6_hasPath sel_X6_hasPath ini_X6 cd_X6_hasPath ok_X6_hasPath rfl ⟨Nat.le_of_ble_eq_true rfl, Nat.le_of_ble_eq_true rfl⟩ ⟨Nat.zero_le _, Nat.zero_le _⟩ (by decide) rfl rfl rfl (rest := ([] : List Value)) rfl (Nat.le_of_ble_eq_true rfl) ?_
  refine bv_if_ne (j := 5) C rfl rfl (fun _ => ?_) (fun h => absurd h ((by rw [hp_in hn hn8 hq]; decide)))
  refine bv_weq (show layB g σ τ = layA σ g σ τ from lA_0) ?_
  refine bv_blk C frk_X6 csk_X6 3 8 rfl (L1 := ([(0, .ref 0), (1, .int (nI q))] : Lc)) (st1 := ([.int (nI q), .ref 5] : List Value)) (w1 := (layA σ g σ τ)) (by rfl) ?_
  refine bv_aaldPath (y := 6 + σ q) C rfl rfl (by decide) (j := q) (by exact rfl) (by first | decide | omega) (by decide) (by rfl) ?_
  refine bv_blk C frk_X6 csk_X6 5 14 rfl (L1 := ([(3, .int ((nI q) + (1))), (2, .ref (6 + σ q)), (0, .ref 0), (1, .int (nI q))] : Lc)) (st1 := ([] : List Value)) (w1 := (layA σ g σ τ)) (by rfl) ?_
  have lp : ∀ (r p9 : Nat) (A9 : Nat → Nat), p9 + r = 8 → q < p9 → (∀ j, j < 8 → A9 j = if j < q then σ j else if j + 1 < p9 then σ (j + 1) else σ j) → bV p l e (bR 1) s0 m args below meth c D cA shB (adA ad 26) 4 tb_X6_dropPath (MQ below (bQ D cA ad shB 26 (fun r w1 => r = none ∧ w1 = (layB (drG q g) (drS q σ) (drT q τ)))) args s0 0 0 (adA ad 26)) ad 26 0 0 (layA A9 g σ τ) 14 ([(3, .int (nI p9)), (2, .ref (6 + σ q)), (0, .ref 0), (1, .int (nI q))] : Lc) ([] : List Value) := by
    intro r
    induction r with
    | zero =>
      intro p9 A9 hp9 hq9 hA
      refine bv_blk C frk_X6 csk_X6 2 16 rfl (L1 := ([(3, .int (nI p9)), (2, .ref (6 + σ q)), (0, .ref 0), (1, .int (nI q))] : Lc)) (st1 := ([.int (8), .int (nI p9)] : List Value)) (w1 := (layA A9 g σ τ)) (by rfl) ?_
      refine bv_icmp_ge (j := 29) C rfl rfl (fun _ => ?_) (fun h => absurd (nI_le (a := 8) (b := p9) (by omega) (by omega)) h)
      refine bv_blk C frk_X6 csk_X6 4 33 rfl (L1 := ([(3, .int (nI p9)), (2, .ref (6 + σ q)), (0, .ref 0), (1, .int (nI q))] : Lc)) (st1 := ([.ref (6 + σ q), .int (7), .ref 5] : List Value)) (w1 := (layA A9 g σ τ)) (by rfl) ?_
      refine bv_aastPath (y := 6 + σ q) C rfl rfl (by decide) (j := 7) (by exact rfl) (by first | decide | omega) (by decide) (shB_p ((hσ.1 q (by omega)).1)) (by have z8 := ((hσ.1 q (by omega)).1); omega) ?_
      rw [lA_up]
      refine bv_blk C frk_X6 csk_X6 6 40 rfl (L1 := ([(3, .int (nI p9)), (2, .ref (6 + σ q)), (0, .ref 0), (1, .int (nI q))] : Lc)) (st1 := ([] : List Value)) (w1 := up2 (layA (upN A9 7 (σ q)) g σ τ) 0 3 (.int ((g 1 12) - (1)))) (by rfl) ?_
      refine bv_w (lA_12 hσ) ?_
      refine bv_w (lA_end hσ (by omega) (dr_fin hA (by omega) (by omega))) ?_
      exact bv_vret C rfl hr ⟨by (rfl), by (rfl)⟩
    | succ r ih =>
      intro p9 A9 hp9 hq9 hA
      refine bv_blk C frk_X6 csk_X6 2 16 rfl (L1 := ([(3, .int (nI p9)), (2, .ref (6 + σ q)), (0, .ref 0), (1, .int (nI q))] : Lc)) (st1 := ([.int (8), .int (nI p9)] : List Value)) (w1 := (layA A9 g σ τ)) (by rfl) ?_
      refine bv_icmp_ge (j := 29) C rfl rfl (fun h => absurd h (nI_ge (a := p9) (b := 8) (by omega) (by omega))) (fun _ => ?_)
      refine bv_blk C frk_X6 csk_X6 8 25 rfl (L1 := ([(3, .int (nI p9)), (2, .ref (6 + σ q)), (0, .ref 0), (1, .int (nI q))] : Lc)) (st1 := ([.int (nI p9), .ref 5, .int ((nI p9) - (1)), .ref 5] : List Value)) (w1 := (layA A9 g σ τ)) (by rfl) ?_
      refine bv_aaldPath (y := 6 + A9 p9) C rfl rfl (by decide) (j := p9) (by exact rfl) (by first | decide | omega) (by decide) (by rfl) ?_
      refine bv_aastPath (y := 6 + A9 p9) C rfl rfl (by decide) (j := (p9 - 1)) (by exact (nIs rfl rfl (by omega))) (by first | decide | omega) (by decide) (shB_p (dr_8 hσ hA (by omega) hq9)) (by have z8 := (dr_8 hσ hA (by omega) hq9); omega) ?_
      rw [lA_up]
      refine bv_blk C frk_X6 csk_X6 1 28 rfl (L1 := ([(3, .int ((nI p9) + Int32.ofInt 1)), (2, .ref (6 + σ q)), (0, .ref 0), (1, .int (nI q))] : Lc)) (st1 := ([] : List Value)) (w1 := (layA (upN A9 (p9 - 1) (A9 p9)) g σ τ)) (by rfl) ?_
      rw [show ((nI p9) + Int32.ofInt 1) = nI (p9 + 1) from (nIi rfl)]
      refine bv_goto (j := 14) C rfl rfl ?_
      refine bv_sub [0, 1, 2, 3] (by rfl) ?_
      exact ih (p9 + 1) _ (by omega) (by omega) (dr_inv hA hp9 hq9)
  rw [show (nI q) + (1) = nI (q + 1) from nIa (a := q) (b := 1) rfl rfl]
  refine bv_sub [0, 1, 2, 3] (by rfl) ?_
  exact lp (7 - q) (q + 1) σ (by omega) (by omega) dr_ini
