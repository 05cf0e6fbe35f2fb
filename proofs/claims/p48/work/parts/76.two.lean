def shU : Sh := fun i => if i < 22 then shB i else shB (i - 22)
/-- two States, one behind the other -/
def layT (g : Nat → Nat → Int32) (σ τ : Nat → Nat) (g2 : Nat → Nat → Int32) (σ2 τ2 : Nat → Nat) : Wd := fun i k => if i < 22 then layB g σ τ i k else cvv (fun o => 22 + o) (layB g2 σ2 τ2 (i - 22) k)
theorem lt_up {g g2 : Nat → Nat → Int32} {σ τ σ2 τ2 : Nat → Nat} {o k a b : Nat} {x : Int32} (hσ : pmK σ τ) (ho : o < 22) (hk : k < szE (shB o)) (hi : iB o k = true) (hp : pB τ o k = (a, b)) : wEq shU 44 (up2 (layT g σ τ g2 σ2 τ2) o k (.int x)) (layT (ug g a b x) σ τ g2 σ2 τ2) := by
  intro i h1 q h2
  by_cases h22 : i < 22
  · have e1 : shU i = shB i := if_pos h22
    rw [e1] at h2
    have z := lb_up (x := x) (g := g) hσ (by omega) hk hi hp i (by omega) q h2
    have e2 : layT (ug g a b x) σ τ g2 σ2 τ2 i q = layB (ug g a b x) σ τ i q := if_pos h22
    rw [e2, ← z]
    unfold up2
    by_cases c1 : i = o
    · rw [if_pos c1, if_pos c1]
      by_cases c2 : q = k
      · rw [if_pos c2, if_pos c2]
      · rw [if_neg c2, if_neg c2]; exact if_pos h22
    · rw [if_neg c1, if_neg c1]; exact if_pos h22
  · have e1 : up2 (layT g σ τ g2 σ2 τ2) o k (.int x) i q = layT g σ τ g2 σ2 τ2 i q := if_neg (by omega)
    rw [e1]
    exact (if_neg h22).trans (if_neg h22).symm
theorem lt_q {g g2 : Nat → Nat → Int32} {σ τ σ2 τ2 : Nat → Nat} {p k : Nat} (hσ : pmK σ2 τ2) (h : p < 8) : layT g σ τ g2 σ2 τ2 (22 + (6 + σ2 p)) k = .int (g2 1 (55 + 6 * p + k)) := by
  unfold layT
  rw [if_neg (by omega), show 22 + (6 + σ2 p) - 22 = 6 + σ2 p by omega, lb_pth hσ h]
  rfl
theorem shU_p {j : Nat} (h : j < 8) : shU (6 + j) = .inr (3, 6) := (if_pos (by omega)).trans (shB_p h)
theorem shU_q {j : Nat} (h : j < 8) : shU (22 + (6 + j)) = .inr (3, 6) := by
  unfold shU
  rw [if_neg (by omega), show 22 + (6 + j) - 22 = 6 + j by omega, shB_p h]
theorem lt_upP {g g2 : Nat → Nat → Int32} {σ τ σ2 τ2 : Nat → Nat} {p k : Nat} {x : Int32} (hσ : pmK σ τ) (hp : p < 8) (hk : k < 6) : wEq shU 44 (up2 (layT g σ τ g2 σ2 τ2) (6 + σ p) k (.int x)) (layT (ug g 1 (55 + 6 * p + k) x) σ τ g2 σ2 τ2) := by
  have h1 := (hσ.1 p hp).1
  refine lt_up hσ (by omega) (by rw [shB_p h1]; exact hk) ?_ (pB_pth hσ hp)
  rcases (show σ p = 0 ∨ σ p = 1 ∨ σ p = 2 ∨ σ p = 3 ∨ σ p = 4 ∨ σ p = 5 ∨ σ p = 6 ∨ σ p = 7 by omega) with h | h | h | h | h | h | h | h <;> rw [h] <;> rfl
theorem fit_01 {x : Int32} (h : x = 0 ∨ x = 1) (ad : Nat → Nat) : fits .boolean (cvv ad (.int x)) = true := by
  rcases h with rfl | rfl <;> rfl
section CP
variable {p : Program} {l : Launch} {e : Env} {R : Room} {s : State} {m : MethodId} {args : Array Value} {below : List Frame} {meth : Method} {c : Code} {D : va_G} {cA : FieldType → ClassId} {z0 : Nat} {SK : Nat → Nat} {SV : Nat → Int32} {A : Nat → Prop} {nL : Nat} {own : String} {cc : ByteArray} {tb : Tb} {Q : State → Prop} {ad : Nat → Nat} {cells slots : Nat} {i j pc : Nat} {L L1 : Lc} {st st1 r : List Value} {g g2 : Nat → Nat → Int32} {σ τ σ2 τ2 : Nat → Nat}
theorem bv_putT (C : bC p s m args meth c D cA z0 SK SV A nL own cc tb) {q k idx : Nat} {x : Int32} (ht : tb[i]? = some (pc, .putfield idx)) (hlk : Cond.fieldLink own idx (TX3 k).1 (TX3 k).2.1 (TX3 k).2.2.1 ∈ ALLW) (hk : k < 6) (hσ : pmK σ τ) (hq : q < 8) (hfin : (TX3 k).2.2.2 = false) (hty : parseFieldDescriptor (TX3 k).2.2.1 = some .int) (kk : bV p l e R s m args below meth c D cA shU A nL tb Q ad 44 cells slots (layT (ug g 1 (55 + 6 * q + k) x) σ τ g2 σ2 τ2) (i + 1) L r) : bV p l e R s m args below meth c D cA shU A nL tb Q ad 44 cells slots (layT g σ τ g2 σ2 τ2) i L (.int x :: .ref (6 + σ q) :: r) := by
  refine bv_put C ht cl_X3 hlk hk hfin hty rfl rfl (shU_p (hσ.1 q hq).1) hk (by have h := (hσ.1 q hq).1; omega) ?_
  exact bv_w (lt_upP hσ hq hk) kk
theorem bv_getT (C : bC p s m args meth c D cA z0 SK SV A nL own cc tb) {q k idx : Nat} (ht : tb[i]? = some (pc, .getfield idx)) (hlk : Cond.fieldLink own idx (TX3 k).1 (TX3 k).2.1 (TX3 k).2.2.1 ∈ ALLW) (hk : k < 6) (hσ : pmK σ2 τ2) (hq : q < 8) (kk : bV p l e R s m args below meth c D cA shU A nL tb Q ad 44 cells slots (layT g σ τ g2 σ2 τ2) (i + 1) L (.int (g2 1 (55 + 6 * q + k)) :: r)) : bV p l e R s m args below meth c D cA shU A nL tb Q ad 44 cells slots (layT g σ τ g2 σ2 τ2) i L (.ref (22 + (6 + σ2 q)) :: r) := by
  refine bv_get C ht cl_X3 hlk hk (shU_q (hσ.1 q hq).1) hk (by have h := (hσ.1 q hq).1; omega) ?_
  rw [lt_q hσ hq]
  exact kk
end CP
/-- the places from lo on, below hi, out of g2 -/
def cpR (g g2 : Nat → Nat → Int32) (lo hi : Nat) : Nat → Nat → Int32 := fun a k => if a = 1 ∧ lo ≤ k ∧ k < hi then g2 1 k else g a k
theorem cpR_0 {g g2 : Nat → Nat → Int32} {lo : Nat} : cpR g g2 lo lo = g := by
  funext a k
  exact if_neg (by omega)
theorem cpR_s {g g2 : Nat → Nat → Int32} {lo hi : Nat} (h : lo ≤ hi) : ug (cpR g g2 lo hi) 1 hi (g2 1 hi) = cpR g g2 lo (hi + 1) := by
  funext a k
  unfold ug cpR
  by_cases c : a = 1 ∧ lo ≤ k ∧ k < hi + 1
  · rw [if_pos c, if_pos c.1]
    by_cases c2 : k = hi
    · rw [if_pos c2, c2]
    · rw [if_neg c2, if_pos ⟨c.1, by omega, by omega⟩]
  · rw [if_neg c]
    by_cases c1 : a = 1
    · rw [if_pos c1, if_neg (show ¬ k = hi by omega), if_neg (by omega)]
    · rw [if_neg c1, if_neg (by omega)]
theorem cpR_1 {g g2 : Nat → Nat → Int32} {k : Nat} : ug g 1 k (g2 1 k) = cpR g g2 k (k + 1) := by
  have z := cpR_s (g := g) (g2 := g2) (Nat.le_refl k)
  rw [cpR_0] at z
  exact z
theorem cpR_j {g g2 : Nat → Nat → Int32} {a b c : Nat} (h1 : a ≤ b) (h2 : b ≤ c) : cpR (cpR g g2 a b) g2 b c = cpR g g2 a c := by
  funext i k
  unfold cpR
  by_cases d : i = 1 ∧ a ≤ k ∧ k < c
  · rw [if_pos d]
    by_cases d2 : b ≤ k
    · rw [if_pos ⟨d.1, d2, d.2.2⟩]
    · rw [if_neg (by omega), if_pos ⟨d.1, d.2.1, by omega⟩]
  · rw [if_neg d, if_neg (by omega), if_neg (by omega)]
theorem cp_sta {g g2 : Nat → Nat → Int32} {B : Nat} : cpR (ug (ug (ug (ug g 1 B (g2 1 B)) 1 (B + 1) (g2 1 (B + 1))) 1 (B + 2) (g2 1 (B + 2))) 1 (B + 3) (g2 1 (B + 3))) g2 (B + 4) (B + 20) = cpR g g2 B (B + 20) := by
  rw [cpR_1 (g := g) (k := B), cpR_s (by omega), cpR_s (by omega), cpR_s (by omega), cpR_j (by omega) (by omega)]
theorem cp_pth {g g2 : Nat → Nat → Int32} {B : Nat} : ug (ug (ug (ug (ug (ug g 1 (B + 0) (g2 1 (B + 0))) 1 (B + 1) (g2 1 (B + 1))) 1 (B + 2) (g2 1 (B + 2))) 1 (B + 3) (g2 1 (B + 3))) 1 (B + 4) (g2 1 (B + 4))) 1 (B + 5) (g2 1 (B + 5)) = cpR g g2 B (B + 6) := by
  rw [show B + 0 = B from rfl, cpR_1 (g := g) (k := B), cpR_s (by omega), cpR_s (by omega), cpR_s (by omega), cpR_s (by omega), cpR_s (by omega)]
theorem cp_3 {g g2 : Nat → Nat → Int32} {B q : Nat} : ug (ug (ug (cpR g g2 B (B + 3 * q)) 1 (B + 3 * q) (g2 1 (B + 3 * q))) 1 (B + 3 * q + 1) (g2 1 (B + 3 * q + 1))) 1 (B + 3 * q + 2) (g2 1 (B + 3 * q + 2)) = cpR g g2 B (B + 3 * (q + 1)) := by
  rw [cpR_s (by omega), cpR_s (by omega), cpR_s (by omega)]
  rfl
theorem cp_6 {g g2 : Nat → Nat → Int32} {B q : Nat} : cpR (cpR g g2 B (B + 6 * q)) g2 (B + 6 * q) (B + 6 * q + 6) = cpR g g2 B (B + 6 * (q + 1)) := by
  rw [cpR_j (by omega) (by omega)]
  rfl
/-- the whole state -/
def cpA (g g2 : Nat → Nat → Int32) : Nat → Nat → Int32 := cpR g g2 0 172
set_option maxRecDepth 100000 in
set_option maxHeartbeats 8000000 in
theorem ct2_station_1 {l : Launch} {D : va_G} {cA : FieldType → ClassId} {z0 : Nat} {SK : Nat → Nat} {SV : Nat → Int32} {ad : Nat → Nat} (hE : aD (fun q => z0 ≤ q) ad 44) (g g2 : Nat → Nat → Int32) (σ τ σ2 τ2 : Nat → Nat) (hσ : pmK σ τ) (hσ2 : pmK σ2 τ2)  : bF l D cA z0 SK SV ad shU 44 yX7_copyFrom cX7_copyFrom 3 none 0 [.ref 1, .ref 23] (layT g σ τ g2 σ2 τ2) none (layT (cpR g g2 15 35) σ τ g2 σ2 τ2) := by
  refine bCT_intro (tb := tb_X7_copyFrom) (own := RX7) hE pn_X7 rfl tk_X7_copyFrom rfl (Nat.le_of_ble_eq_true rfl) ?_
  intro p e s0 m args below meth c C hr
  refine bv_blk C frk_X7 csk_X7 4 4 rfl (L1 := ([(0, .ref 1), (1, .ref 23)] : Lc)) (st1 := ([] : List Value)) (w1 := up2 (layT g σ τ g2 σ2 τ2) 1 0 (.int (g2 1 15))) (by rfl) ?_
  refine bv_w (lt_up (o := 1) (k := 0) (a := 1) (b := 15) hσ (by decide) (by decide) (by rfl) (by rfl)) ?_
  refine bv_blk C frk_X7 csk_X7 4 8 rfl (L1 := ([(0, .ref 1), (1, .ref 23)] : Lc)) (st1 := ([] : List Value)) (w1 := up2 (layT (ug g 1 15 (g2 1 15)) σ τ g2 σ2 τ2) 1 1 (.int (g2 1 16))) (by rfl) ?_
  refine bv_w (lt_up (o := 1) (k := 1) (a := 1) (b := 16) hσ (by decide) (by decide) (by rfl) (by rfl)) ?_
  refine bv_blk C frk_X7 csk_X7 4 12 rfl (L1 := ([(0, .ref 1), (1, .ref 23)] : Lc)) (st1 := ([] : List Value)) (w1 := up2 (layT (ug (ug g 1 15 (g2 1 15)) 1 16 (g2 1 16)) σ τ g2 σ2 τ2) 1 2 (.int (g2 1 17))) (by rfl) ?_
  refine bv_w (lt_up (o := 1) (k := 2) (a := 1) (b := 17) hσ (by decide) (by decide) (by rfl) (by rfl)) ?_
  refine bv_blk C frk_X7 csk_X7 4 16 rfl (L1 := ([(0, .ref 1), (1, .ref 23)] : Lc)) (st1 := ([] : List Value)) (w1 := up2 (layT (ug (ug (ug g 1 15 (g2 1 15)) 1 16 (g2 1 16)) 1 17 (g2 1 17)) σ τ g2 σ2 τ2) 1 3 (.int (g2 1 18))) (by rfl) ?_
  refine bv_w (lt_up (o := 1) (k := 3) (a := 1) (b := 18) hσ (by decide) (by decide) (by rfl) (by rfl)) ?_
  refine bv_blk C frk_X7 csk_X7 2 18 rfl (L1 := ([(2, .int (0)), (0, .ref 1), (1, .ref 23)] : Lc)) (st1 := ([] : List Value)) (w1 := (layT (ug (ug (ug (ug g 1 15 (g2 1 15)) 1 16 (g2 1 16)) 1 17 (g2 1 17)) 1 18 (g2 1 18)) σ τ g2 σ2 τ2)) (by rfl) ?_
  have lp_a : ∀ (n_a k_a : Nat), 0 ≤ k_a → k_a + n_a = 16 → bV p l e (bR 0) s0 m args below meth c D cA shU (adA ad 44) 3 tb_X7_copyFrom (MQ below (bQ D cA ad shU 44 (fun r w1 => r = none ∧ w1 = (layT (cpR g g2 15 35) σ τ g2 σ2 τ2))) args s0 0 0 (adA ad 44)) ad 44 0 0 (layT (cpR (ug (ug (ug (ug g 1 15 (g2 1 15)) 1 16 (g2 1 16)) 1 17 (g2 1 17)) 1 18 (g2 1 18)) g2 19 (19 + k_a)) σ τ g2 σ2 τ2) 18 ([(2, .int (nI k_a)), (0, .ref 1), (1, .ref 23)] : Lc) ([] : List Value) := by
    intro n_a
    induction n_a with
    | zero =>
      intro k_a hs_a hk_a
      have hkB_a : k_a = 16 := by omega
      rw [hkB_a]
      refine bv_blk C frk_X7 csk_X7 2 20 rfl (L1 := ([(2, .int (nI 16)), (0, .ref 1), (1, .ref 23)] : Lc)) (st1 := ([.int (16), .int (nI 16)] : List Value)) (w1 := (layT (cpR (ug (ug (ug (ug g 1 15 (g2 1 15)) 1 16 (g2 1 16)) 1 17 (g2 1 17)) 1 18 (g2 1 18)) g2 19 (19 + 16)) σ τ g2 σ2 τ2)) (by rfl) ?_
      refine bv_icmp_ge (j := 31) C rfl rfl (fun _ => ?_) (fun h => absurd (nI_le (a := 16) (b := 16) (by omega) (by omega)) h)
      exact bv_vret C rfl hr ⟨by (rfl), by (rw [show (cpR _ g2 19 (19 + 16)) = (cpR g g2 15 35) from cp_sta (B := 15)])⟩
    | succ n_a ih =>
      intro k_a hs_a hk_a
      refine bv_blk C frk_X7 csk_X7 2 20 rfl (L1 := ([(2, .int (nI k_a)), (0, .ref 1), (1, .ref 23)] : Lc)) (st1 := ([.int (16), .int (nI k_a)] : List Value)) (w1 := (layT (cpR (ug (ug (ug (ug g 1 15 (g2 1 15)) 1 16 (g2 1 16)) 1 17 (g2 1 17)) 1 18 (g2 1 18)) g2 19 (19 + k_a)) σ τ g2 σ2 τ2)) (by rfl) ?_
      refine bv_icmp_ge (j := 31) C rfl rfl (fun h => absurd h (nI_ge (a := k_a) (b := 16) (by omega) (by omega))) (fun _ => ?_)
      refine bv_blk C frk_X7 csk_X7 6 27 rfl (L1 := ([(2, .int (nI k_a)), (0, .ref 1), (1, .ref 23)] : Lc)) (st1 := ([.int (nI k_a), .ref 24, .int (nI k_a), .ref 2] : List Value)) (w1 := (layT (cpR (ug (ug (ug (ug g 1 15 (g2 1 15)) 1 16 (g2 1 16)) 1 17 (g2 1 17)) 1 18 (g2 1 18)) g2 19 (19 + k_a)) σ τ g2 σ2 τ2)) (by rfl) ?_
      refine bv_iald C rfl rfl (by decide) (j := k_a) (by exact rfl) (by first | decide | omega) (by decide) (y := (g2 1 (19 + k_a))) (by rfl) ?_
      refine bv_iast C rfl rfl (by decide) (j := k_a) (by exact rfl) (by first | decide | omega) (by decide) ?_
      refine bv_w (lt_up (o := 2) (k := k_a) (a := 1) (b := (19 + k_a)) hσ (by decide) (show k_a < 16 by first | decide | omega) (by rfl) (by rfl)) ?_
      refine bv_blk C frk_X7 csk_X7 1 30 rfl (L1 := ([(2, .int ((nI k_a) + Int32.ofInt 1)), (0, .ref 1), (1, .ref 23)] : Lc)) (st1 := ([] : List Value)) (w1 := (layT (ug (cpR (ug (ug (ug (ug g 1 15 (g2 1 15)) 1 16 (g2 1 16)) 1 17 (g2 1 17)) 1 18 (g2 1 18)) g2 19 (19 + k_a)) 1 (19 + k_a) (g2 1 (19 + k_a))) σ τ g2 σ2 τ2)) (by rfl) ?_
      rw [show ((nI k_a) + Int32.ofInt 1) = nI (k_a + 1) from (nIi rfl)]
      refine bv_goto (j := 18) C rfl rfl ?_
      refine bv_weq (show (layT (ug (cpR (ug (ug (ug (ug g 1 15 (g2 1 15)) 1 16 (g2 1 16)) 1 17 (g2 1 17)) 1 18 (g2 1 18)) g2 19 (19 + k_a)) 1 (19 + k_a) (g2 1 (19 + k_a))) σ τ g2 σ2 τ2) = (layT (cpR (ug (ug (ug (ug g 1 15 (g2 1 15)) 1 16 (g2 1 16)) 1 17 (g2 1 17)) 1 18 (g2 1 18)) g2 19 (19 + (k_a + 1))) σ τ g2 σ2 τ2) from by rw [cpR_s (by omega)]; rfl) ?_
      refine bv_sub [0, 1, 2] (by rfl) ?_
      exact ih (k_a + 1) (by omega) (by omega)
  refine bv_weq (show (layT (ug (ug (ug (ug g 1 15 (g2 1 15)) 1 16 (g2 1 16)) 1 17 (g2 1 17)) 1 18 (g2 1 18)) σ τ g2 σ2 τ2) = (layT (cpR (ug (ug (ug (ug g 1 15 (g2 1 15)) 1 16 (g2 1 16)) 1 17 (g2 1 17)) 1 18 (g2 1 18)) g2 19 (19 + 0)) σ τ g2 σ2 τ2) from by rw [show 19 + 0 = 19 from rfl, cpR_0]) ?_
  refine bv_sub [0, 1, 2] (by rfl) ?_
  exact lp_a (16 - 0) 0 (Nat.le_refl _) (by omega)
set_option maxRecDepth 100000 in
set_option maxHeartbeats 8000000 in
theorem ct2_station_3 {l : Launch} {D : va_G} {cA : FieldType → ClassId} {z0 : Nat} {SK : Nat → Nat} {SV : Nat → Int32} {ad : Nat → Nat} (hE : aD (fun q => z0 ≤ q) ad 44) (g g2 : Nat → Nat → Int32) (σ τ σ2 τ2 : Nat → Nat) (hσ : pmK σ τ) (hσ2 : pmK σ2 τ2)  : bF l D cA z0 SK SV ad shU 44 yX7_copyFrom cX7_copyFrom 3 none 0 [.ref 3, .ref 25] (layT g σ τ g2 σ2 τ2) none (layT (cpR g g2 35 55) σ τ g2 σ2 τ2) := by
  refine bCT_intro (tb := tb_X7_copyFrom) (own := RX7) hE pn_X7 rfl tk_X7_copyFrom rfl (Nat.le_of_ble_eq_true rfl) ?_
  intro p e s0 m args below meth c C hr
  refine bv_blk C frk_X7 csk_X7 4 4 rfl (L1 := ([(0, .ref 3), (1, .ref 25)] : Lc)) (st1 := ([] : List Value)) (w1 := up2 (layT g σ τ g2 σ2 τ2) 3 0 (.int (g2 1 35))) (by rfl) ?_
  refine bv_w (lt_up (o := 3) (k := 0) (a := 1) (b := 35) hσ (by decide) (by decide) (by rfl) (by rfl)) ?_
  refine bv_blk C frk_X7 csk_X7 4 8 rfl (L1 := ([(0, .ref 3), (1, .ref 25)] : Lc)) (st1 := ([] : List Value)) (w1 := up2 (layT (ug g 1 35 (g2 1 35)) σ τ g2 σ2 τ2) 3 1 (.int (g2 1 36))) (by rfl) ?_
  refine bv_w (lt_up (o := 3) (k := 1) (a := 1) (b := 36) hσ (by decide) (by decide) (by rfl) (by rfl)) ?_
  refine bv_blk C frk_X7 csk_X7 4 12 rfl (L1 := ([(0, .ref 3), (1, .ref 25)] : Lc)) (st1 := ([] : List Value)) (w1 := up2 (layT (ug (ug g 1 35 (g2 1 35)) 1 36 (g2 1 36)) σ τ g2 σ2 τ2) 3 2 (.int (g2 1 37))) (by rfl) ?_
  refine bv_w (lt_up (o := 3) (k := 2) (a := 1) (b := 37) hσ (by decide) (by decide) (by rfl) (by rfl)) ?_
  refine bv_blk C frk_X7 csk_X7 4 16 rfl (L1 := ([(0, .ref 3), (1, .ref 25)] : Lc)) (st1 := ([] : List Value)) (w1 := up2 (layT (ug (ug (ug g 1 35 (g2 1 35)) 1 36 (g2 1 36)) 1 37 (g2 1 37)) σ τ g2 σ2 τ2) 3 3 (.int (g2 1 38))) (by rfl) ?_
  refine bv_w (lt_up (o := 3) (k := 3) (a := 1) (b := 38) hσ (by decide) (by decide) (by rfl) (by rfl)) ?_
  refine bv_blk C frk_X7 csk_X7 2 18 rfl (L1 := ([(2, .int (0)), (0, .ref 3), (1, .ref 25)] : Lc)) (st1 := ([] : List Value)) (w1 := (layT (ug (ug (ug (ug g 1 35 (g2 1 35)) 1 36 (g2 1 36)) 1 37 (g2 1 37)) 1 38 (g2 1 38)) σ τ g2 σ2 τ2)) (by rfl) ?_
  have lp_a : ∀ (n_a k_a : Nat), 0 ≤ k_a → k_a + n_a = 16 → bV p l e (bR 0) s0 m args below meth c D cA shU (adA ad 44) 3 tb_X7_copyFrom (MQ below (bQ D cA ad shU 44 (fun r w1 => r = none ∧ w1 = (layT (cpR g g2 35 55) σ τ g2 σ2 τ2))) args s0 0 0 (adA ad 44)) ad 44 0 0 (layT (cpR (ug (ug (ug (ug g 1 35 (g2 1 35)) 1 36 (g2 1 36)) 1 37 (g2 1 37)) 1 38 (g2 1 38)) g2 39 (39 + k_a)) σ τ g2 σ2 τ2) 18 ([(2, .int (nI k_a)), (0, .ref 3), (1, .ref 25)] : Lc) ([] : List Value) := by
    intro n_a
    induction n_a with
    | zero =>
      intro k_a hs_a hk_a
      have hkB_a : k_a = 16 := by omega
      rw [hkB_a]
      refine bv_blk C frk_X7 csk_X7 2 20 rfl (L1 := ([(2, .int (nI 16)), (0, .ref 3), (1, .ref 25)] : Lc)) (st1 := ([.int (16), .int (nI 16)] : List Value)) (w1 := (layT (cpR (ug (ug (ug (ug g 1 35 (g2 1 35)) 1 36 (g2 1 36)) 1 37 (g2 1 37)) 1 38 (g2 1 38)) g2 39 (39 + 16)) σ τ g2 σ2 τ2)) (by rfl) ?_
      refine bv_icmp_ge (j := 31) C rfl rfl (fun _ => ?_) (fun h => absurd (nI_le (a := 16) (b := 16) (by omega) (by omega)) h)
      exact bv_vret C rfl hr ⟨by (rfl), by (rw [show (cpR _ g2 39 (39 + 16)) = (cpR g g2 35 55) from cp_sta (B := 35)])⟩
    | succ n_a ih =>
      intro k_a hs_a hk_a
      refine bv_blk C frk_X7 csk_X7 2 20 rfl (L1 := ([(2, .int (nI k_a)), (0, .ref 3), (1, .ref 25)] : Lc)) (st1 := ([.int (16), .int (nI k_a)] : List Value)) (w1 := (layT (cpR (ug (ug (ug (ug g 1 35 (g2 1 35)) 1 36 (g2 1 36)) 1 37 (g2 1 37)) 1 38 (g2 1 38)) g2 39 (39 + k_a)) σ τ g2 σ2 τ2)) (by rfl) ?_
      refine bv_icmp_ge (j := 31) C rfl rfl (fun h => absurd h (nI_ge (a := k_a) (b := 16) (by omega) (by omega))) (fun _ => ?_)
      refine bv_blk C frk_X7 csk_X7 6 27 rfl (L1 := ([(2, .int (nI k_a)), (0, .ref 3), (1, .ref 25)] : Lc)) (st1 := ([.int (nI k_a), .ref 26, .int (nI k_a), .ref 4] : List Value)) (w1 := (layT (cpR (ug (ug (ug (ug g 1 35 (g2 1 35)) 1 36 (g2 1 36)) 1 37 (g2 1 37)) 1 38 (g2 1 38)) g2 39 (39 + k_a)) σ τ g2 σ2 τ2)) (by rfl) ?_
      refine bv_iald C rfl rfl (by decide) (j := k_a) (by exact rfl) (by first | decide | omega) (by decide) (y := (g2 1 (39 + k_a))) (by rfl) ?_
      refine bv_iast C rfl rfl (by decide) (j := k_a) (by exact rfl) (by first | decide | omega) (by decide) ?_
      refine bv_w (lt_up (o := 4) (k := k_a) (a := 1) (b := (39 + k_a)) hσ (by decide) (show k_a < 16 by first | decide | omega) (by rfl) (by rfl)) ?_
      refine bv_blk C frk_X7 csk_X7 1 30 rfl (L1 := ([(2, .int ((nI k_a) + Int32.ofInt 1)), (0, .ref 3), (1, .ref 25)] : Lc)) (st1 := ([] : List Value)) (w1 := (layT (ug (cpR (ug (ug (ug (ug g 1 35 (g2 1 35)) 1 36 (g2 1 36)) 1 37 (g2 1 37)) 1 38 (g2 1 38)) g2 39 (39 + k_a)) 1 (39 + k_a) (g2 1 (39 + k_a))) σ τ g2 σ2 τ2)) (by rfl) ?_
      rw [show ((nI k_a) + Int32.ofInt 1) = nI (k_a + 1) from (nIi rfl)]
      refine bv_goto (j := 18) C rfl rfl ?_
      refine bv_weq (show (layT (ug (cpR (ug (ug (ug (ug g 1 35 (g2 1 35)) 1 36 (g2 1 36)) 1 37 (g2 1 37)) 1 38 (g2 1 38)) g2 39 (39 + k_a)) 1 (39 + k_a) (g2 1 (39 + k_a))) σ τ g2 σ2 τ2) = (layT (cpR (ug (ug (ug (ug g 1 35 (g2 1 35)) 1 36 (g2 1 36)) 1 37 (g2 1 37)) 1 38 (g2 1 38)) g2 39 (39 + (k_a + 1))) σ τ g2 σ2 τ2) from by rw [cpR_s (by omega)]; rfl) ?_
      refine bv_sub [0, 1, 2] (by rfl) ?_
      exact ih (k_a + 1) (by omega) (by omega)
  refine bv_weq (show (layT (ug (ug (ug (ug g 1 35 (g2 1 35)) 1 36 (g2 1 36)) 1 37 (g2 1 37)) 1 38 (g2 1 38)) σ τ g2 σ2 τ2) = (layT (cpR (ug (ug (ug (ug g 1 35 (g2 1 35)) 1 36 (g2 1 36)) 1 37 (g2 1 37)) 1 38 (g2 1 38)) g2 39 (39 + 0)) σ τ g2 σ2 τ2) from by rw [show 39 + 0 = 39 from rfl, cpR_0]) ?_
  refine bv_sub [0, 1, 2] (by rfl) ?_
  exact lp_a (16 - 0) 0 (Nat.le_refl _) (by omega)
set_option maxRecDepth 100000 in
set_option maxHeartbeats 8000000 in
theorem ct2_path {l : Launch} {D : va_G} {cA : FieldType → ClassId} {z0 : Nat} {SK : Nat → Nat} {SV : Nat → Int32} {ad : Nat → Nat} (hE : aD (fun q => z0 ≤ q) ad 44) (g g2 : Nat → Nat → Int32) (σ τ σ2 τ2 : Nat → Nat) (hσ : pmK σ τ) (hσ2 : pmK σ2 τ2) (p9 : Nat) (hp : p9 < 8) : bF l D cA z0 SK SV ad shU 44 yX3_copyFrom cX3_copyFrom 2 none 0 [.ref (6 + σ p9), .ref (22 + (6 + σ2 p9))] (layT g σ τ g2 σ2 τ2) none (layT (cpR g g2 (55 + 6 * p9) (55 + 6 * p9 + 6)) σ τ g2 σ2 τ2) := by
  refine bCT_intro (tb := tb_X3_copyFrom) (own := RX3) hE pn_X3 rfl tk_X3_copyFrom rfl (Nat.le_of_ble_eq_true rfl) ?_
  intro p e s0 m args below meth c C hr
  refine bv_blk C frk_X3 csk_X3 2 2 rfl (L1 := ([(0, .ref (6 + σ p9)), (1, .ref (22 + (6 + σ2 p9)))] : Lc)) (st1 := ([.ref (22 + (6 + σ2 p9)), .ref (6 + σ p9)] : List Value)) (w1 := (layT g σ τ g2 σ2 τ2)) (by rfl) ?_
  refine bv_getT (q := p9) (k := 0) C rfl fl_X3_7 (by decide) hσ2 (show p9 < 8 by first | decide | omega) ?_
  refine bv_putT (q := p9) (k := 0) C rfl fl_X3_7 (by decide) hσ (show p9 < 8 by first | decide | omega) rfl (by decide +kernel) ?_
  refine bv_blk C frk_X3 csk_X3 2 6 rfl (L1 := ([(0, .ref (6 + σ p9)), (1, .ref (22 + (6 + σ2 p9)))] : Lc)) (st1 := ([.ref (22 + (6 + σ2 p9)), .ref (6 + σ p9)] : List Value)) (w1 := (layT (ug g 1 (55 + 6 * p9 + 0) (g2 1 (55 + 6 * p9 + 0))) σ τ g2 σ2 τ2)) (by rfl) ?_
  refine bv_getT (q := p9) (k := 1) C rfl fl_X3_13 (by decide) hσ2 (show p9 < 8 by first | decide | omega) ?_
  refine bv_putT (q := p9) (k := 1) C rfl fl_X3_13 (by decide) hσ (show p9 < 8 by first | decide | omega) rfl (by decide +kernel) ?_
  refine bv_blk C frk_X3 csk_X3 2 10 rfl (L1 := ([(0, .ref (6 + σ p9)), (1, .ref (22 + (6 + σ2 p9)))] : Lc)) (st1 := ([.ref (22 + (6 + σ2 p9)), .ref (6 + σ p9)] : List Value)) (w1 := (layT (ug (ug g 1 (55 + 6 * p9 + 0) (g2 1 (55 + 6 * p9 + 0))) 1 (55 + 6 * p9 + 1) (g2 1 (55 + 6 * p9 + 1))) σ τ g2 σ2 τ2)) (by rfl) ?_
  refine bv_getT (q := p9) (k := 2) C rfl fl_X3_16 (by decide) hσ2 (show p9 < 8 by first | decide | omega) ?_
  refine bv_putT (q := p9) (k := 2) C rfl fl_X3_16 (by decide) hσ (show p9 < 8 by first | decide | omega) rfl (by decide +kernel) ?_
  refine bv_blk C frk_X3 csk_X3 2 14 rfl (L1 := ([(0, .ref (6 + σ p9)), (1, .ref (22 + (6 + σ2 p9)))] : Lc)) (st1 := ([.ref (22 + (6 + σ2 p9)), .ref (6 + σ p9)] : List Value)) (w1 := (layT (ug (ug (ug g 1 (55 + 6 * p9 + 0) (g2 1 (55 + 6 * p9 + 0))) 1 (55 + 6 * p9 + 1) (g2 1 (55 + 6 * p9 + 1))) 1 (55 + 6 * p9 + 2) (g2 1 (55 + 6 * p9 + 2))) σ τ g2 σ2 τ2)) (by rfl) ?_
  refine bv_getT (q := p9) (k := 3) C rfl fl_X3_19 (by decide) hσ2 (show p9 < 8 by first | decide | omega) ?_
  refine bv_putT (q := p9) (k := 3) C rfl fl_X3_19 (by decide) hσ (show p9 < 8 by first | decide | omega) rfl (by decide +kernel) ?_
  refine bv_blk C frk_X3 csk_X3 2 18 rfl (L1 := ([(0, .ref (6 + σ p9)), (1, .ref (22 + (6 + σ2 p9)))] : Lc)) (st1 := ([.ref (22 + (6 + σ2 p9)), .ref (6 + σ p9)] : List Value)) (w1 := (layT (ug (ug (ug (ug g 1 (55 + 6 * p9 + 0) (g2 1 (55 + 6 * p9 + 0))) 1 (55 + 6 * p9 + 1) (g2 1 (55 + 6 * p9 + 1))) 1 (55 + 6 * p9 + 2) (g2 1 (55 + 6 * p9 + 2))) 1 (55 + 6 * p9 + 3) (g2 1 (55 + 6 * p9 + 3))) σ τ g2 σ2 τ2)) (by rfl) ?_
  refine bv_getT (q := p9) (k := 4) C rfl fl_X3_22 (by decide) hσ2 (show p9 < 8 by first | decide | omega) ?_
  refine bv_putT (q := p9) (k := 4) C rfl fl_X3_22 (by decide) hσ (show p9 < 8 by first | decide | omega) rfl (by decide +kernel) ?_
  refine bv_blk C frk_X3 csk_X3 2 22 rfl (L1 := ([(0, .ref (6 + σ p9)), (1, .ref (22 + (6 + σ2 p9)))] : Lc)) (st1 := ([.ref (22 + (6 + σ2 p9)), .ref (6 + σ p9)] : List Value)) (w1 := (layT (ug (ug (ug (ug (ug g 1 (55 + 6 * p9 + 0) (g2 1 (55 + 6 * p9 + 0))) 1 (55 + 6 * p9 + 1) (g2 1 (55 + 6 * p9 + 1))) 1 (55 + 6 * p9 + 2) (g2 1 (55 + 6 * p9 + 2))) 1 (55 + 6 * p9 + 3) (g2 1 (55 + 6 * p9 + 3))) 1 (55 + 6 * p9 + 4) (g2 1 (55 + 6 * p9 + 4))) σ τ g2 σ2 τ2)) (by rfl) ?_
  refine bv_getT (q := p9) (k := 5) C rfl fl_X3_25 (by decide) hσ2 (show p9 < 8 by first | decide | omega) ?_
  refine bv_putT (q := p9) (k := 5) C rfl fl_X3_25 (by decide) hσ (show p9 < 8 by first | decide | omega) rfl (by decide +kernel) ?_
  exact bv_vret C rfl hr ⟨by (rfl), by (rw [cp_pth])⟩
set_option maxRecDepth 100000 in
set_option maxHeartbeats 8000000 in
theorem ct2_bk {l : Launch} {D : va_G} {cA : FieldType → ClassId} {z0 : Nat} {SK : Nat → Nat} {SV : Nat → Int32} {ad : Nat → Nat} (hE : aD (fun q => z0 ≤ q) ad 44) (g g2 : Nat → Nat → Int32) (σ τ σ2 τ2 : Nat → Nat) (hσ : pmK σ τ) (hσ2 : pmK σ2 τ2)  : bF l D cA z0 SK SV ad shU 44 yX0_copyFrom cX0_copyFrom 3 none 0 [.ref 14, .ref 36] (layT g σ τ g2 σ2 τ2) none (layT (cpR (cpR g g2 103 112) g2 13 14) σ τ g2 σ2 τ2) := by
  refine bCT_intro (tb := tb_X0_copyFrom) (own := RX0) hE pn_X0 rfl tk_X0_copyFrom rfl (Nat.le_of_ble_eq_true rfl) ?_
  intro p e s0 m args below meth c C hr
  refine bv_blk C frk_X0 csk_X0 2 2 rfl (L1 := ([(2, .int (0)), (0, .ref 14), (1, .ref 36)] : Lc)) (st1 := ([] : List Value)) (w1 := (layT g σ τ g2 σ2 τ2)) (by rfl) ?_
  have lp_a : ∀ (n_a k_a : Nat), 0 ≤ k_a → k_a + n_a = 3 → bV p l e (bR 0) s0 m args below meth c D cA shU (adA ad 44) 3 tb_X0_copyFrom (MQ below (bQ D cA ad shU 44 (fun r w1 => r = none ∧ w1 = (layT (cpR (cpR g g2 103 112) g2 13 14) σ τ g2 σ2 τ2))) args s0 0 0 (adA ad 44)) ad 44 0 0 (layT (cpR g g2 103 (103 + 3 * k_a)) σ τ g2 σ2 τ2) 2 ([(2, .int (nI k_a)), (0, .ref 14), (1, .ref 36)] : Lc) ([] : List Value) := by
    intro n_a
    induction n_a with
    | zero =>
      intro k_a hs_a hk_a
      have hkB_a : k_a = 3 := by omega
      rw [hkB_a]
      refine bv_blk C frk_X0 csk_X0 2 4 rfl (L1 := ([(2, .int (nI 3)), (0, .ref 14), (1, .ref 36)] : Lc)) (st1 := ([.int (3), .int (nI 3)] : List Value)) (w1 := (layT (cpR g g2 103 (103 + 3 * 3)) σ τ g2 σ2 τ2)) (by rfl) ?_
      refine bv_icmp_ge (j := 31) C rfl rfl (fun _ => ?_) (fun h => absurd (nI_le (a := 3) (b := 3) (by omega) (by omega)) h)
      refine bv_blk C frk_X0 csk_X0 4 35 rfl (L1 := ([(2, .int (nI 3)), (0, .ref 14), (1, .ref 36)] : Lc)) (st1 := ([] : List Value)) (w1 := up2 (layT (cpR g g2 103 (103 + 3 * 3)) σ τ g2 σ2 τ2) 14 3 (.int (g2 1 13))) (by rfl) ?_
      refine bv_w (lt_up (o := 14) (k := 3) (a := 1) (b := 13) hσ (by decide) (by decide) (by rfl) (by rfl)) ?_
      exact bv_vret C rfl hr ⟨by (rfl), by (rw [cpR_1, show 103 + 3 * 3 = 112 from rfl])⟩
    | succ n_a ih =>
      intro k_a hs_a hk_a
      refine bv_blk C frk_X0 csk_X0 2 4 rfl (L1 := ([(2, .int (nI k_a)), (0, .ref 14), (1, .ref 36)] : Lc)) (st1 := ([.int (3), .int (nI k_a)] : List Value)) (w1 := (layT (cpR g g2 103 (103 + 3 * k_a)) σ τ g2 σ2 τ2)) (by rfl) ?_
      refine bv_icmp_ge (j := 31) C rfl rfl (fun h => absurd h (nI_ge (a := k_a) (b := 3) (by omega) (by omega))) (fun _ => ?_)
      refine bv_blk C frk_X0 csk_X0 6 11 rfl (L1 := ([(2, .int (nI k_a)), (0, .ref 14), (1, .ref 36)] : Lc)) (st1 := ([.int (nI k_a), .ref 37, .int (nI k_a), .ref 15] : List Value)) (w1 := (layT (cpR g g2 103 (103 + 3 * k_a)) σ τ g2 σ2 τ2)) (by rfl) ?_
      refine bv_iald C rfl rfl (by decide) (j := k_a) (by exact rfl) (by first | decide | omega) (by decide) (y := (g2 1 (103 + 3 * k_a))) (by rfl) ?_
      refine bv_iast C rfl rfl (by decide) (j := k_a) (by exact rfl) (by first | decide | omega) (by decide) ?_
      refine bv_w (lt_up (o := 15) (k := k_a) (a := 1) (b := (103 + 3 * k_a)) hσ (by decide) (show k_a < 3 by first | decide | omega) (by rfl) (by rfl)) ?_
      refine bv_blk C frk_X0 csk_X0 6 19 rfl (L1 := ([(2, .int (nI k_a)), (0, .ref 14), (1, .ref 36)] : Lc)) (st1 := ([.int (nI k_a), .ref 38, .int (nI k_a), .ref 16] : List Value)) (w1 := (layT (ug (cpR g g2 103 (103 + 3 * k_a)) 1 (103 + 3 * k_a) (g2 1 (103 + 3 * k_a))) σ τ g2 σ2 τ2)) (by rfl) ?_
      refine bv_iald C rfl rfl (by decide) (j := k_a) (by exact rfl) (by first | decide | omega) (by decide) (y := (g2 1 (103 + 3 * k_a + 1))) (by rfl) ?_
      refine bv_iast C rfl rfl (by decide) (j := k_a) (by exact rfl) (by first | decide | omega) (by decide) ?_
      refine bv_w (lt_up (o := 16) (k := k_a) (a := 1) (b := (103 + 3 * k_a + 1)) hσ (by decide) (show k_a < 3 by first | decide | omega) (by rfl) (by rfl)) ?_
      refine bv_blk C frk_X0 csk_X0 6 27 rfl (L1 := ([(2, .int (nI k_a)), (0, .ref 14), (1, .ref 36)] : Lc)) (st1 := ([.int (nI k_a), .ref 39, .int (nI k_a), .ref 17] : List Value)) (w1 := (layT (ug (ug (cpR g g2 103 (103 + 3 * k_a)) 1 (103 + 3 * k_a) (g2 1 (103 + 3 * k_a))) 1 (103 + 3 * k_a + 1) (g2 1 (103 + 3 * k_a + 1))) σ τ g2 σ2 τ2)) (by rfl) ?_
      refine bv_iald C rfl rfl (by decide) (j := k_a) (by exact rfl) (by first | decide | omega) (by decide) (y := (g2 1 (103 + 3 * k_a + 2))) (by rfl) ?_
      refine bv_iast C rfl rfl (by decide) (j := k_a) (by exact rfl) (by first | decide | omega) (by decide) ?_
      refine bv_w (lt_up (o := 17) (k := k_a) (a := 1) (b := (103 + 3 * k_a + 2)) hσ (by decide) (show k_a < 3 by first | decide | omega) (by rfl) (by rfl)) ?_
      refine bv_blk C frk_X0 csk_X0 1 30 rfl (L1 := ([(2, .int ((nI k_a) + Int32.ofInt 1)), (0, .ref 14), (1, .ref 36)] : Lc)) (st1 := ([] : List Value)) (w1 := (layT (ug (ug (ug (cpR g g2 103 (103 + 3 * k_a)) 1 (103 + 3 * k_a) (g2 1 (103 + 3 * k_a))) 1 (103 + 3 * k_a + 1) (g2 1 (103 + 3 * k_a + 1))) 1 (103 + 3 * k_a + 2) (g2 1 (103 + 3 * k_a + 2))) σ τ g2 σ2 τ2)) (by rfl) ?_
      rw [show ((nI k_a) + Int32.ofInt 1) = nI (k_a + 1) from (nIi rfl)]
      refine bv_goto (j := 2) C rfl rfl ?_
      refine bv_weq (show (layT (ug (ug (ug (cpR g g2 103 (103 + 3 * k_a)) 1 (103 + 3 * k_a) (g2 1 (103 + 3 * k_a))) 1 (103 + 3 * k_a + 1) (g2 1 (103 + 3 * k_a + 1))) 1 (103 + 3 * k_a + 2) (g2 1 (103 + 3 * k_a + 2))) σ τ g2 σ2 τ2) = (layT (cpR g g2 103 (103 + 3 * (k_a + 1))) σ τ g2 σ2 τ2) from by rw [cp_3]) ?_
      refine bv_sub [0, 1, 2] (by rfl) ?_
      exact ih (k_a + 1) (by omega) (by omega)
  refine bv_weq (show (layT g σ τ g2 σ2 τ2) = (layT (cpR g g2 103 (103 + 3 * 0)) σ τ g2 σ2 τ2) from by rw [show 103 + 3 * 0 = 103 from rfl, cpR_0]) ?_
  refine bv_sub [0, 1, 2] (by rfl) ?_
  exact lp_a (3 - 0) 0 (Nat.le_refl _) (by omega)
set_option maxRecDepth 100000 in
set_option maxHeartbeats 8000000 in
theorem ct2_ev {l : Launch} {D : va_G} {cA : FieldType → ClassId} {z0 : Nat} {SK : Nat → Nat} {SV : Nat → Int32} {ad : Nat → Nat} (hE : aD (fun q => z0 ≤ q) ad 44) (g g2 : Nat → Nat → Int32) (σ τ σ2 τ2 : Nat → Nat) (hσ : pmK σ τ) (hσ2 : pmK σ2 τ2)  : bF l D cA z0 SK SV ad shU 44 yX1_copyFrom cX1_copyFrom 3 none 0 [.ref 18, .ref 40] (layT g σ τ g2 σ2 τ2) none (layT (cpR (cpR g g2 112 172) g2 14 15) σ τ g2 σ2 τ2) := by
  refine bCT_intro (tb := tb_X1_copyFrom) (own := RX1) hE pn_X1 rfl tk_X1_copyFrom rfl (Nat.le_of_ble_eq_true rfl) ?_
  intro p e s0 m args below meth c C hr
  refine bv_blk C frk_X1 csk_X1 2 2 rfl (L1 := ([(2, .int (0)), (0, .ref 18), (1, .ref 40)] : Lc)) (st1 := ([] : List Value)) (w1 := (layT g σ τ g2 σ2 τ2)) (by rfl) ?_
  have lp_a : ∀ (n_a k_a : Nat), 0 ≤ k_a → k_a + n_a = 20 → bV p l e (bR 0) s0 m args below meth c D cA shU (adA ad 44) 3 tb_X1_copyFrom (MQ below (bQ D cA ad shU 44 (fun r w1 => r = none ∧ w1 = (layT (cpR (cpR g g2 112 172) g2 14 15) σ τ g2 σ2 τ2))) args s0 0 0 (adA ad 44)) ad 44 0 0 (layT (cpR g g2 112 (112 + 3 * k_a)) σ τ g2 σ2 τ2) 2 ([(2, .int (nI k_a)), (0, .ref 18), (1, .ref 40)] : Lc) ([] : List Value) := by
    intro n_a
    induction n_a with
    | zero =>
      intro k_a hs_a hk_a
      have hkB_a : k_a = 20 := by omega
      rw [hkB_a]
      refine bv_blk C frk_X1 csk_X1 2 4 rfl (L1 := ([(2, .int (nI 20)), (0, .ref 18), (1, .ref 40)] : Lc)) (st1 := ([.int (20), .int (nI 20)] : List Value)) (w1 := (layT (cpR g g2 112 (112 + 3 * 20)) σ τ g2 σ2 τ2)) (by rfl) ?_
      refine bv_icmp_ge (j := 31) C rfl rfl (fun _ => ?_) (fun h => absurd (nI_le (a := 20) (b := 20) (by omega) (by omega)) h)
      refine bv_blk C frk_X1 csk_X1 4 35 rfl (L1 := ([(2, .int (nI 20)), (0, .ref 18), (1, .ref 40)] : Lc)) (st1 := ([] : List Value)) (w1 := up2 (layT (cpR g g2 112 (112 + 3 * 20)) σ τ g2 σ2 τ2) 18 3 (.int (g2 1 14))) (by rfl) ?_
      refine bv_w (lt_up (o := 18) (k := 3) (a := 1) (b := 14) hσ (by decide) (by decide) (by rfl) (by rfl)) ?_
      exact bv_vret C rfl hr ⟨by (rfl), by (rw [cpR_1, show 112 + 3 * 20 = 172 from rfl])⟩
    | succ n_a ih =>
      intro k_a hs_a hk_a
      refine bv_blk C frk_X1 csk_X1 2 4 rfl (L1 := ([(2, .int (nI k_a)), (0, .ref 18), (1, .ref 40)] : Lc)) (st1 := ([.int (20), .int (nI k_a)] : List Value)) (w1 := (layT (cpR g g2 112 (112 + 3 * k_a)) σ τ g2 σ2 τ2)) (by rfl) ?_
      refine bv_icmp_ge (j := 31) C rfl rfl (fun h => absurd h (nI_ge (a := k_a) (b := 20) (by omega) (by omega))) (fun _ => ?_)
      refine bv_blk C frk_X1 csk_X1 6 11 rfl (L1 := ([(2, .int (nI k_a)), (0, .ref 18), (1, .ref 40)] : Lc)) (st1 := ([.int (nI k_a), .ref 41, .int (nI k_a), .ref 19] : List Value)) (w1 := (layT (cpR g g2 112 (112 + 3 * k_a)) σ τ g2 σ2 τ2)) (by rfl) ?_
      refine bv_iald C rfl rfl (by decide) (j := k_a) (by exact rfl) (by first | decide | omega) (by decide) (y := (g2 1 (112 + 3 * k_a))) (by rfl) ?_
      refine bv_iast C rfl rfl (by decide) (j := k_a) (by exact rfl) (by first | decide | omega) (by decide) ?_
      refine bv_w (lt_up (o := 19) (k := k_a) (a := 1) (b := (112 + 3 * k_a)) hσ (by decide) (show k_a < 20 by first | decide | omega) (by rfl) (by rfl)) ?_
      refine bv_blk C frk_X1 csk_X1 6 19 rfl (L1 := ([(2, .int (nI k_a)), (0, .ref 18), (1, .ref 40)] : Lc)) (st1 := ([.int (nI k_a), .ref 42, .int (nI k_a), .ref 20] : List Value)) (w1 := (layT (ug (cpR g g2 112 (112 + 3 * k_a)) 1 (112 + 3 * k_a) (g2 1 (112 + 3 * k_a))) σ τ g2 σ2 τ2)) (by rfl) ?_
      refine bv_iald C rfl rfl (by decide) (j := k_a) (by exact rfl) (by first | decide | omega) (by decide) (y := (g2 1 (112 + 3 * k_a + 1))) (by rfl) ?_
      refine bv_iast C rfl rfl (by decide) (j := k_a) (by exact rfl) (by first | decide | omega) (by decide) ?_
      refine bv_w (lt_up (o := 20) (k := k_a) (a := 1) (b := (112 + 3 * k_a + 1)) hσ (by decide) (show k_a < 20 by first | decide | omega) (by rfl) (by rfl)) ?_
      refine bv_blk C frk_X1 csk_X1 6 27 rfl (L1 := ([(2, .int (nI k_a)), (0, .ref 18), (1, .ref 40)] : Lc)) (st1 := ([.int (nI k_a), .ref 43, .int (nI k_a), .ref 21] : List Value)) (w1 := (layT (ug (ug (cpR g g2 112 (112 + 3 * k_a)) 1 (112 + 3 * k_a) (g2 1 (112 + 3 * k_a))) 1 (112 + 3 * k_a + 1) (g2 1 (112 + 3 * k_a + 1))) σ τ g2 σ2 τ2)) (by rfl) ?_
      refine bv_iald C rfl rfl (by decide) (j := k_a) (by exact rfl) (by first | decide | omega) (by decide) (y := (g2 1 (112 + 3 * k_a + 2))) (by rfl) ?_
      refine bv_iast C rfl rfl (by decide) (j := k_a) (by exact rfl) (by first | decide | omega) (by decide) ?_
      refine bv_w (lt_up (o := 21) (k := k_a) (a := 1) (b := (112 + 3 * k_a + 2)) hσ (by decide) (show k_a < 20 by first | decide | omega) (by rfl) (by rfl)) ?_
      refine bv_blk C frk_X1 csk_X1 1 30 rfl (L1 := ([(2, .int ((nI k_a) + Int32.ofInt 1)), (0, .ref 18), (1, .ref 40)] : Lc)) (st1 := ([] : List Value)) (w1 := (layT (ug (ug (ug (cpR g g2 112 (112 + 3 * k_a)) 1 (112 + 3 * k_a) (g2 1 (112 + 3 * k_a))) 1 (112 + 3 * k_a + 1) (g2 1 (112 + 3 * k_a + 1))) 1 (112 + 3 * k_a + 2) (g2 1 (112 + 3 * k_a + 2))) σ τ g2 σ2 τ2)) (by rfl) ?_
      rw [show ((nI k_a) + Int32.ofInt 1) = nI (k_a + 1) from (nIi rfl)]
      refine bv_goto (j := 2) C rfl rfl ?_
      refine bv_weq (show (layT (ug (ug (ug (cpR g g2 112 (112 + 3 * k_a)) 1 (112 + 3 * k_a) (g2 1 (112 + 3 * k_a))) 1 (112 + 3 * k_a + 1) (g2 1 (112 + 3 * k_a + 1))) 1 (112 + 3 * k_a + 2) (g2 1 (112 + 3 * k_a + 2))) σ τ g2 σ2 τ2) = (layT (cpR g g2 112 (112 + 3 * (k_a + 1))) σ τ g2 σ2 τ2) from by rw [cp_3]) ?_
      refine bv_sub [0, 1, 2] (by rfl) ?_
      exact ih (k_a + 1) (by omega) (by omega)
  refine bv_weq (show (layT g σ τ g2 σ2 τ2) = (layT (cpR g g2 112 (112 + 3 * 0)) σ τ g2 σ2 τ2) from by rw [show 112 + 3 * 0 = 112 from rfl, cpR_0]) ?_
  refine bv_sub [0, 1, 2] (by rfl) ?_
  exact lp_a (20 - 0) 0 (Nat.le_refl _) (by omega)
