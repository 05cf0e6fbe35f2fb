def dblN (v : UInt32) : Nat → UInt32
  | 0 => v
  | n + 1 => FP.fmul (dblN v n) FP.fconst2
def hlfN (v : UInt32) : Nat → UInt32
  | 0 => v
  | n + 1 => FP.fmul (hlfN v n) 1056964608
def powF (q : Int32) : UInt32 := if 0 ≤ (q - arI q 12) / 12 then dblN (partT (arI q 12).toNatClampNeg) ((q - arI q 12) / 12).toNatClampNeg else hlfN (partT (arI q 12).toNatClampNeg) (-((q - arI q 12) / 12)).toNatClampNeg
def qOK (q : Int32) : Prop := ∃ m : Nat, m < 1101 ∧ q = nI m - 700
theorem qOK_of {q : Int32} (h1 : -700 ≤ q.toInt) (h2 : q.toInt ≤ 400) : qOK q := by
  refine ⟨(q.toInt + 700).toNat, by omega, Int32.toInt_inj.mp ?_⟩
  rw [Int32.toInt_sub, nI_toInt (by omega), show (700 : Int32).toInt = 700 from rfl, Int.bmod_def]
  omega
def chkQ (q : Int32) : Bool := Nat.blt (arI q 12).toNatClampNeg 12 && (arI q 12 == nI (arI q 12).toNatClampNeg) && (if 0 ≤ (q - arI q 12) / 12 then ((q - arI q 12) / 12 == nI ((q - arI q 12) / 12).toNatClampNeg) && Nat.ble ((q - arI q 12) / 12).toNatClampNeg 34 else ((q - arI q 12) / 12 == -(nI (-((q - arI q 12) / 12)).toNatClampNeg)) && Nat.ble 1 (-((q - arI q 12) / 12)).toNatClampNeg && Nat.ble (-((q - arI q 12) / 12)).toNatClampNeg 60)
theorem chkQ_all : ∀ m, m < 1101 → chkQ (nI m - 700) = true := by decide +kernel
theorem nn_dbl : ∀ p, p < 12 → ∀ n, n < 36 → vf_n32 (dblN (partT p) n) := (by decide +kernel : ∀ p, p < 12 → ∀ n, n < 36 → (dblN (partT p) n) &&& 0x7fffffff ≤ 0x7f800000)
theorem nn_hlf : ∀ p, p < 12 → ∀ n, n < 62 → vf_n32 (hlfN (partT p) n) := (by decide +kernel : ∀ p, p < 12 → ∀ n, n < 62 → (hlfN (partT p) n) &&& 0x7fffffff ≤ 0x7f800000)
theorem neg_le0 : ∀ d : Nat, d < 62 → -(nI d) ≤ 0 := by decide +kernel
theorem neg_ge0 : ∀ d : Nat, d < 62 → 1 ≤ d → ¬ 0 ≤ -(nI d) := by decide +kernel
theorem neg_in : ∀ d : Nat, d < 62 → -(nI (d + 1)) + Int32.ofInt 1 = -(nI d) := by decide +kernel
set_option maxRecDepth 100000 in
set_option maxHeartbeats 4000000 in
theorem ct_powP {l : Launch} {D : va_G} {cA : FieldType → ClassId} {z0 : Nat} {SK SV : Nat → Nat} {ad : Nat → Nat} (hE : aD (fun q => z0 ≤ q) ad 9) (g : Nat → Nat → Int32) (h : Int64) (q : Int32) (P d : Nat) (hP : arI q 12 = nI P) (hP2 : P < 12) (hd : (q - arI q 12) / 12 = nI d) (hd2 : d ≤ 34) : bF l D cA z0 SK SV ad shM 9 yX9_power cX9_power 6 (some .float) 1 [.ref 0, .int q] (layM g h) (some (.float (dblN (partT P) d))) (layM g h) := by
  refine bCT_intro (tb := tb_X9_power) (own := RX9) hE pn_X9 rfl tk_X9_power rfl (Nat.le_of_ble_eq_true rfl) ?_
  intro p e s0 m args below meth c C hr
  refine bv_blk C frk_X9 csk_X9 2 2 rfl (L1 := ([(0, .ref 0), (1, .int q)] : Lc)) (st1 := ([.int (12), .int q] : List Value)) (w1 := (layM g h)) (by rfl) ?_
  refine bv_fS1 C rfl (ct_around hE _ q (12) (by decide)) ml_X9_76 st_X9_around ini_X9 cd_X9_around ok_X9_around rfl ⟨Nat.le_of_ble_eq_true rfl, Nat.le_of_ble_eq_true rfl⟩ ⟨Nat.zero_le _, Nat.zero_le _⟩ (rest := ([] : List Value)) rfl (Nat.le_of_ble_eq_true rfl) ?_
  refine bv_blk C frk_X9 csk_X9 5 8 rfl (L1 := ([(2, .int (arI q (12))), (0, .ref 0), (1, .int q)] : Lc)) (st1 := ([.int (12), .int (q - (arI q (12)))] : List Value)) (w1 := (layM g h)) (by rfl) ?_
  refine bv_idiv C rfl (by decide) ?_
  refine bv_blk C frk_X9 csk_X9 4 13 rfl (L1 := ([(3, .int ((q - (arI q (12))) / (12))), (2, .int (arI q (12))), (0, .ref 0), (1, .int q)] : Lc)) (st1 := ([.int (arI q (12)), .ref 2] : List Value)) (w1 := (layM g h)) (by rfl) ?_
  refine bv_fald C rfl rfl (by decide) (j := P) (by exact hP) (by first | decide | omega) (by decide) (y := (partT P)) (by rfl) ?_
  refine bv_blk C frk_X9 csk_X9 3 17 rfl (L1 := ([(5, .int (0)), (4, .float (partT P)), (3, .int ((q - (arI q (12))) / (12))), (2, .int (arI q (12))), (0, .ref 0), (1, .int q)] : Lc)) (st1 := ([] : List Value)) (w1 := (layM g h)) (by rfl) ?_
  have lp_a : ∀ (n_a k_a : Nat), 0 ≤ k_a → k_a + n_a = d → bV p l e (bR 1) s0 m args below meth c D cA shM (adA ad 9) 6 tb_X9_power (MQ below (bQ D cA ad shM 9 (fun r w1 => r = (some (.float (dblN (partT P) d))) ∧ w1 = (layM g h))) args s0 0 0 (adA ad 9)) ad 9 0 0 (layM g h) 17 ([(5, .int (nI k_a)), (0, .ref 0), (1, .int q), (2, .int (arI q (12))), (3, .int ((q - (arI q (12))) / (12))), (4, .float (dblN (partT P) k_a))] : Lc) ([] : List Value) := by
    intro n_a
    induction n_a with
    | zero =>
      intro k_a hs_a hk_a
      have hkB_a : k_a = d := by omega
      rw [hkB_a]
      refine bv_blk C frk_X9 csk_X9 2 19 rfl (L1 := ([(5, .int (nI d)), (0, .ref 0), (1, .int q), (2, .int (arI q (12))), (3, .int ((q - (arI q (12))) / (12))), (4, .float (dblN (partT P) d))] : Lc)) (st1 := ([.int ((q - (arI q (12))) / (12)), .int (nI d)] : List Value)) (w1 := (layM g h)) (by rfl) ?_
      refine bv_icmp_ge (j := 26) C rfl rfl (fun _ => ?_) (fun h => absurd (by rw [show ((q - (arI q (12))) / (12)) = nI d from hd]; exact (nI_le (a := d) (b := d) (by omega) (by omega))) h)
      refine bv_blk C frk_X9 csk_X9 3 29 rfl (L1 := ([(5, .int ((q - (arI q (12))) / (12))), (0, .ref 0), (1, .int q), (2, .int (arI q (12))), (3, .int ((q - (arI q (12))) / (12))), (4, .float (dblN (partT P) d))] : Lc)) (st1 := ([.int ((q - (arI q (12))) / (12))] : List Value)) (w1 := (layM g h)) (by rfl) ?_
      refine bv_if_ge (j := 36) C rfl rfl (fun _ => ?_) (fun h => absurd (by rw [show ((q - (arI q (12))) / (12)) = nI d from hd]; exact (nI_le (a := 0) (b := d) (by omega) (by omega))) h)
      refine bv_blk C frk_X9 csk_X9 1 37 rfl (L1 := ([(5, .int ((q - (arI q (12))) / (12))), (0, .ref 0), (1, .int q), (2, .int (arI q (12))), (3, .int ((q - (arI q (12))) / (12))), (4, .float (dblN (partT P) d))] : Lc)) (st1 := ([.float (dblN (partT P) d)] : List Value)) (w1 := (layM g h)) (by rfl) ?_
      exact bv_fret C rfl hr ⟨by (rfl), by (rfl)⟩
    | succ n_a ih =>
      intro k_a hs_a hk_a
      refine bv_blk C frk_X9 csk_X9 2 19 rfl (L1 := ([(5, .int (nI k_a)), (0, .ref 0), (1, .int q), (2, .int (arI q (12))), (3, .int ((q - (arI q (12))) / (12))), (4, .float (dblN (partT P) k_a))] : Lc)) (st1 := ([.int ((q - (arI q (12))) / (12)), .int (nI k_a)] : List Value)) (w1 := (layM g h)) (by rfl) ?_
      refine bv_icmp_ge (j := 26) C rfl rfl (fun h => absurd h (by rw [show ((q - (arI q (12))) / (12)) = nI d from hd]; exact (nI_ge (a := k_a) (b := d) (by omega) (by omega)))) (fun _ => ?_)
      refine bv_blk C frk_X9 csk_X9 1 21 rfl (L1 := ([(5, .int (nI k_a)), (0, .ref 0), (1, .int q), (2, .int (arI q (12))), (3, .int ((q - (arI q (12))) / (12))), (4, .float (dblN (partT P) k_a))] : Lc)) (st1 := ([.float (dblN (partT P) k_a)] : List Value)) (w1 := (layM g h)) (by rfl) ?_
      refine bv_fconst2 C rfl ?_
      refine bv_fmul C rfl (nn_dbl P hP2 (k_a + 1) (by omega)) ?_
      refine bv_blk C frk_X9 csk_X9 2 25 rfl (L1 := ([(5, .int ((nI k_a) + Int32.ofInt 1)), (4, .float (FP.fmul (dblN (partT P) k_a) FP.fconst2)), (0, .ref 0), (1, .int q), (2, .int (arI q (12))), (3, .int ((q - (arI q (12))) / (12)))] : Lc)) (st1 := ([] : List Value)) (w1 := (layM g h)) (by rfl) ?_
      rw [show ((nI k_a) + Int32.ofInt 1) = nI (k_a + 1) from (nIi rfl)]
      refine bv_goto (j := 17) C rfl rfl ?_
      refine bv_weq (show (layM g h) = (layM g h) from by rfl) ?_
      refine bv_sub [0, 2, 3, 4, 5, 1] (by rfl) ?_
      exact ih (k_a + 1) (by omega) (by omega)
  refine bv_weq (show (layM g h) = (layM g h) from by rfl) ?_
  refine bv_sub [0, 4, 5, 3, 2, 1] (by rfl) ?_
  exact lp_a (d - 0) 0 (Nat.le_refl _) (by omega)
set_option maxRecDepth 100000 in
set_option maxHeartbeats 4000000 in
theorem ct_powN {l : Launch} {D : va_G} {cA : FieldType → ClassId} {z0 : Nat} {SK SV : Nat → Nat} {ad : Nat → Nat} (hE : aD (fun q => z0 ≤ q) ad 9) (g : Nat → Nat → Int32) (h : Int64) (q : Int32) (P d : Nat) (hP : arI q 12 = nI P) (hP2 : P < 12) (hd : (q - arI q 12) / 12 = -(nI d)) (hd1 : 1 ≤ d) (hd2 : d ≤ 60) : bF l D cA z0 SK SV ad shM 9 yX9_power cX9_power 6 (some .float) 1 [.ref 0, .int q] (layM g h) (some (.float (hlfN (partT P) d))) (layM g h) := by
  refine bCT_intro (tb := tb_X9_power) (own := RX9) hE pn_X9 rfl tk_X9_power rfl (Nat.le_of_ble_eq_true rfl) ?_
  intro p e s0 m args below meth c C hr
  refine bv_blk C frk_X9 csk_X9 2 2 rfl (L1 := ([(0, .ref 0), (1, .int q)] : Lc)) (st1 := ([.int (12), .int q] : List Value)) (w1 := (layM g h)) (by rfl) ?_
  refine bv_fS1 C rfl (ct_around hE _ q (12) (by decide)) ml_X9_76 st_X9_around ini_X9 cd_X9_around ok_X9_around rfl ⟨Nat.le_of_ble_eq_true rfl, Nat.le_of_ble_eq_true rfl⟩ ⟨Nat.zero_le _, Nat.zero_le _⟩ (rest := ([] : List Value)) rfl (Nat.le_of_ble_eq_true rfl) ?_
  refine bv_blk C frk_X9 csk_X9 5 8 rfl (L1 := ([(2, .int (arI q (12))), (0, .ref 0), (1, .int q)] : Lc)) (st1 := ([.int (12), .int (q - (arI q (12)))] : List Value)) (w1 := (layM g h)) (by rfl) ?_
  refine bv_idiv C rfl (by decide) ?_
  refine bv_blk C frk_X9 csk_X9 4 13 rfl (L1 := ([(3, .int ((q - (arI q (12))) / (12))), (2, .int (arI q (12))), (0, .ref 0), (1, .int q)] : Lc)) (st1 := ([.int (arI q (12)), .ref 2] : List Value)) (w1 := (layM g h)) (by rfl) ?_
  refine bv_fald C rfl rfl (by decide) (j := P) (by exact hP) (by first | decide | omega) (by decide) (y := (partT P)) (by rfl) ?_
  refine bv_blk C frk_X9 csk_X9 5 19 rfl (L1 := ([(5, .int (0)), (4, .float (partT P)), (3, .int ((q - (arI q (12))) / (12))), (2, .int (arI q (12))), (0, .ref 0), (1, .int q)] : Lc)) (st1 := ([.int ((q - (arI q (12))) / (12)), .int (0)] : List Value)) (w1 := (layM g h)) (by rfl) ?_
  refine bv_icmp_ge (j := 26) C rfl rfl (fun _ => ?_) (fun h => absurd (by rw [hd]; exact neg_le0 d (by omega)) h)
  refine bv_blk C frk_X9 csk_X9 2 28 rfl (L1 := ([(5, .int ((q - (arI q (12))) / (12))), (4, .float (partT P)), (3, .int ((q - (arI q (12))) / (12))), (2, .int (arI q (12))), (0, .ref 0), (1, .int q)] : Lc)) (st1 := ([] : List Value)) (w1 := (layM g h)) (by rfl) ?_
  have lp : ∀ n : Nat, n ≤ d → bV p l e (bR 1) s0 m args below meth c D cA shM (adA ad 9) 6 tb_X9_power (MQ below (bQ D cA ad shM 9 (fun r w1 => r = (some (.float (hlfN (partT P) d))) ∧ w1 = (layM g h))) args s0 0 0 (adA ad 9)) ad 9 0 0 (layM g h) 28 ([(5, .int (-(nI n))), (0, .ref 0), (1, .int q), (2, .int (arI q (12))), (3, .int ((q - (arI q (12))) / (12))), (4, .float (hlfN (partT P) (d - n)))] : Lc) ([] : List Value) := by
    intro n
    induction n with
    | zero =>
      intro hn
      refine bv_blk C frk_X9 csk_X9 1 29 rfl (L1 := ([(5, .int (-(nI 0))), (0, .ref 0), (1, .int q), (2, .int (arI q (12))), (3, .int ((q - (arI q (12))) / (12))), (4, .float (hlfN (partT P) (d - 0)))] : Lc)) (st1 := ([.int (-(nI 0))] : List Value)) (w1 := (layM g h)) (by rfl) ?_
      refine bv_if_ge (j := 36) C rfl rfl (fun _ => ?_) (fun h => absurd (by decide) h)
      refine bv_blk C frk_X9 csk_X9 1 37 rfl (L1 := ([(5, .int (-(nI 0))), (0, .ref 0), (1, .int q), (2, .int (arI q (12))), (3, .int ((q - (arI q (12))) / (12))), (4, .float (hlfN (partT P) (d - 0)))] : Lc)) (st1 := ([.float (hlfN (partT P) (d - 0))] : List Value)) (w1 := (layM g h)) (by rfl) ?_
      exact bv_fret C rfl hr ⟨by (rw [Nat.sub_zero]), by (rfl)⟩
    | succ n ih =>
      intro hn
      refine bv_blk C frk_X9 csk_X9 1 29 rfl (L1 := ([(5, .int (-(nI (n + 1)))), (0, .ref 0), (1, .int q), (2, .int (arI q (12))), (3, .int ((q - (arI q (12))) / (12))), (4, .float (hlfN (partT P) (d - (n + 1))))] : Lc)) (st1 := ([.int (-(nI (n + 1)))] : List Value)) (w1 := (layM g h)) (by rfl) ?_
      refine bv_if_ge (j := 36) C rfl rfl (fun h => absurd h (neg_ge0 (n + 1) (by omega) (by omega))) (fun _ => ?_)
      refine bv_blk C frk_X9 csk_X9 2 32 rfl (L1 := ([(5, .int (-(nI (n + 1)))), (0, .ref 0), (1, .int q), (2, .int (arI q (12))), (3, .int ((q - (arI q (12))) / (12))), (4, .float (hlfN (partT P) (d - (n + 1))))] : Lc)) (st1 := ([.float (1056964608), .float (hlfN (partT P) (d - (n + 1)))] : List Value)) (w1 := (layM g h)) (by rfl) ?_
      refine bv_fmul C rfl (by have q := nn_hlf P hP2 (d - (n + 1) + 1) (by omega); exact q) ?_
      refine bv_blk C frk_X9 csk_X9 2 35 rfl (L1 := ([(5, .int ((-(nI (n + 1))) + Int32.ofInt 1)), (4, .float (FP.fmul (hlfN (partT P) (d - (n + 1))) (1056964608))), (0, .ref 0), (1, .int q), (2, .int (arI q (12))), (3, .int ((q - (arI q (12))) / (12)))] : Lc)) (st1 := ([] : List Value)) (w1 := (layM g h)) (by rfl) ?_
      refine bv_goto (j := 28) C rfl rfl ?_
      rw [neg_in n (by omega)]
      refine bv_sub [0, 2, 3, 4, 5, 1] (by rfl) ?_
      have q := ih (by omega)
      rw [show d - n = d - (n + 1) + 1 by omega] at q
      exact q
  refine bv_sub [0, 4, 5, 3, 2, 1] (by rfl) ?_
  have q := lp d (Nat.le_refl d)
  rw [Nat.sub_self] at q
  rw [hd]
  rw [hd] at q
  exact q
theorem ct_power {l : Launch} {D : va_G} {cA : FieldType → ClassId} {z0 : Nat} {SK SV : Nat → Nat} {ad : Nat → Nat} (hE : aD (fun q => z0 ≤ q) ad 9) (g : Nat → Nat → Int32) (h : Int64) (q : Int32) (hq : qOK q) : bF l D cA z0 SK SV ad shM 9 yX9_power cX9_power 6 (some .float) 1 [.ref 0, .int q] (layM g h) (some (.float (powF q))) (layM g h) := by
  obtain ⟨m, hm, rfl⟩ := hq
  have hk := chkQ_all m hm
  generalize nI m - 700 = q at hk
  simp only [chkQ, Bool.and_eq_true, Nat.blt_eq, beq_iff_eq] at hk
  obtain ⟨⟨h1, h2⟩, h3⟩ := hk
  unfold powF
  split at h3
  · next h4 =>
    simp only [Bool.and_eq_true, beq_iff_eq, Nat.ble_eq] at h3
    rw [if_pos h4]
    exact ct_powP hE g h q _ _ h2 h1 h3.1 h3.2
  · next h4 =>
    simp only [Bool.and_eq_true, beq_iff_eq, Nat.ble_eq] at h3
    rw [if_neg h4]
    exact ct_powN hE g h q _ _ h2 h1 h3.1.1 h3.1.2 h3.2
def levG (g : Nat → Nat → Int32) (fr : Nat) (b0 b1 : Int32) (p : Nat) : Int32 := g 1 (15 + 20 * fr + 2) + gaI (g 1 15) (g 1 16) b0 (g 1 (55 + 6 * p + 0)) + gaI (g 1 35) (g 1 36) b1 (g 1 (55 + 6 * p + 1)) - g 1 (55 + 6 * p + 2) - g 1 (55 + 6 * p + 3)
def recG (g : Nat → Nat → Int32) (fr : Nat) (b0 b1 : Int32) : Nat → UInt32
  | 0 => FP.fconst0
  | p + 1 => FP.fadd (recG g fr b0 b1 p) (powF (levG g fr b0 b1 p))
/-- what received and quality ask: the levels are in the table of powers, no sum is a NaN -/
def okQ (g : Nat → Nat → Int32) (fr : Nat) (b0 b1 : Int32) (n : Nat) : Prop := g 1 12 = nI n ∧ n ≤ 8 ∧ (¬ g 1 15 = 0) ∧ (¬ g 1 35 = 0) ∧ (∀ p, p < n → qOK (levG g fr b0 b1 p)) ∧ ∀ p, p < n → vf_n32 (FP.fadd (recG g fr b0 b1 p) (powF (levG g fr b0 b1 p)))
set_option maxRecDepth 100000 in
set_option maxHeartbeats 4000000 in
theorem ct_received {l : Launch} {D : va_G} {cA : FieldType → ClassId} {z0 : Nat} {SK SV : Nat → Nat} {ad : Nat → Nat} (hE : aD (fun q => z0 ≤ q) ad 9) (g : Nat → Nat → Int32) (h : Int64) (fr n : Nat) (b0 b1 : Int32) (hf : fr < 2) (hk : okQ g fr b0 b1 n) : bF l D cA z0 SK SV ad shM 9 yX9_received cX9_received 7 (some .float) 4 [.ref 0, .int (nI fr), .int b0, .int b1] (layM g h) (some (.float (recG g fr b0 b1 n))) (layM g h) := by
  refine bCT_intro (tb := tb_X9_received) (own := RX9) hE pn_X9 rfl tk_X9_received rfl (Nat.le_of_ble_eq_true rfl) ?_
  intro p e s0 m args below meth c C hr
  obtain ⟨hn, hn8, hm0, hm1, hq, hnn⟩ := hk
  refine bv_fconst0 C rfl ?_
  refine bv_blk C frk_X9 csk_X9 3 4 rfl (L1 := ([(5, .int (0)), (4, .float FP.fconst0), (0, .ref 0), (1, .int (nI fr)), (2, .int b0), (3, .int b1)] : Lc)) (st1 := ([] : List Value)) (w1 := (layM g h)) (by rfl) ?_
  have lp_a : ∀ (n_a k_a : Nat), 0 ≤ k_a → k_a + n_a = n → bV p l e (bR 4) s0 m args below meth c D cA shM (adA ad 9) 7 tb_X9_received (MQ below (bQ D cA ad shM 9 (fun r w1 => r = (some (.float (recG g fr b0 b1 n))) ∧ w1 = (layM g h))) args s0 0 0 (adA ad 9)) ad 9 0 0 (layM g h) 4 ([(5, .int (nI k_a)), (0, .ref 0), (1, .int (nI fr)), (2, .int b0), (3, .int b1), (4, .float (recG g fr b0 b1 k_a))] : Lc) ([] : List Value) := by
    intro n_a
    induction n_a with
    | zero =>
      intro k_a hs_a hk_a
      have hkB_a : k_a = n := by omega
      rw [hkB_a]
      refine bv_blk C frk_X9 csk_X9 4 8 rfl (L1 := ([(5, .int (nI n)), (0, .ref 0), (1, .int (nI fr)), (2, .int b0), (3, .int b1), (4, .float (recG g fr b0 b1 n))] : Lc)) (st1 := ([.int (12), .ref 1, .int (nI n)] : List Value)) (w1 := (layM g h)) (by rfl) ?_
      refine bv_iald C rfl rfl (by decide) (j := 12) (by exact rfl) (by first | decide | omega) (by decide) (y := (g 1 12)) (by rfl) ?_
      refine bv_icmp_ge (j := 51) C rfl rfl (fun _ => ?_) (fun h => absurd (by rw [show (g 1 12) = nI n from hn]; exact (nI_le (a := n) (b := n) (by omega) (by omega))) h)
      refine bv_blk C frk_X9 csk_X9 1 52 rfl (L1 := ([(5, .int (nI n)), (0, .ref 0), (1, .int (nI fr)), (2, .int b0), (3, .int b1), (4, .float (recG g fr b0 b1 n))] : Lc)) (st1 := ([.float (recG g fr b0 b1 n)] : List Value)) (w1 := (layM g h)) (by rfl) ?_
      exact bv_fret C rfl hr ⟨by (rfl), by (rfl)⟩
    | succ n_a ih =>
      intro k_a hs_a hk_a
      refine bv_blk C frk_X9 csk_X9 4 8 rfl (L1 := ([(5, .int (nI k_a)), (0, .ref 0), (1, .int (nI fr)), (2, .int b0), (3, .int b1), (4, .float (recG g fr b0 b1 k_a))] : Lc)) (st1 := ([.int (12), .ref 1, .int (nI k_a)] : List Value)) (w1 := (layM g h)) (by rfl) ?_
      refine bv_iald C rfl rfl (by decide) (j := 12) (by exact rfl) (by first | decide | omega) (by decide) (y := (g 1 12)) (by rfl) ?_
      refine bv_icmp_ge (j := 51) C rfl rfl (fun h => absurd h (by rw [show (g 1 12) = nI n from hn]; exact (nI_ge (a := k_a) (b := n) (by omega) (by omega)))) (fun _ => ?_)
      refine bv_blk C frk_X9 csk_X9 3 13 rfl (L1 := ([(5, .int (nI k_a)), (0, .ref 0), (1, .int (nI fr)), (2, .int b0), (3, .int b1), (4, .float (recG g fr b0 b1 k_a))] : Lc)) (st1 := ([.int (2), .int (nI fr), .ref 0] : List Value)) (w1 := (layM g h)) (by rfl) ?_
      refine bv_fV1 C rfl (ct_of hE _ _ fr 2 (by omega) (by omega)) ml_X9_69 im_X9_of sel_X9_of ini_X9 cd_X9_of ok_X9_of rfl ⟨Nat.le_of_ble_eq_true rfl, Nat.le_of_ble_eq_true rfl⟩ ⟨Nat.zero_le _, Nat.zero_le _⟩ (by decide) rfl rfl rfl (rest := ([] : List Value)) rfl (Nat.le_of_ble_eq_true rfl) ?_
      refine bv_blk C frk_X9 csk_X9 6 20 rfl (L1 := ([(5, .int (nI k_a)), (0, .ref 0), (1, .int (nI fr)), (2, .int b0), (3, .int b1), (4, .float (recG g fr b0 b1 k_a))] : Lc)) (st1 := ([.int (0), .int (nI k_a), .ref 0, .int b0, .int (0), .ref 0, .int (g 1 (15 + 20 * fr + 2))] : List Value)) (w1 := (layM g h)) (by rfl) ?_
      refine bv_fV1 C rfl (ct_ofPath hE _ _ k_a 0 (by omega) (by omega)) ml_X9_86 im_X9_ofPath sel_X9_ofPath ini_X9 cd_X9_ofPath ok_X9_ofPath rfl ⟨Nat.le_of_ble_eq_true rfl, Nat.le_of_ble_eq_true rfl⟩ ⟨Nat.zero_le _, Nat.zero_le _⟩ (by decide) rfl rfl rfl (rest := ([.int b0, .int (0), .ref 0, .int (g 1 (15 + 20 * fr + 2))] : List Value)) rfl (Nat.le_of_ble_eq_true rfl) ?_
      refine bv_fV1 C rfl (ct_gainOf hE _ _ 0 b0 (g 1 (55 + 6 * k_a + 0)) (by omega) hm0) ml_X9_89 im_X9_gainOf sel_X9_gainOf ini_X9 cd_X9_gainOf ok_X9_gainOf rfl ⟨Nat.le_of_ble_eq_true rfl, Nat.le_of_ble_eq_true rfl⟩ ⟨Nat.zero_le _, Nat.zero_le _⟩ (by decide) rfl rfl rfl (rest := ([.int (g 1 (15 + 20 * fr + 2))] : List Value)) rfl (Nat.le_of_ble_eq_true rfl) ?_
      refine bv_blk C frk_X9 csk_X9 7 29 rfl (L1 := ([(5, .int (nI k_a)), (0, .ref 0), (1, .int (nI fr)), (2, .int b0), (3, .int b1), (4, .float (recG g fr b0 b1 k_a))] : Lc)) (st1 := ([.int (1), .int (nI k_a), .ref 0, .int b1, .int (1), .ref 0, .int ((g 1 (15 + 20 * fr + 2)) + (gaI (g 1 15) (g 1 16) b0 (g 1 (55 + 6 * k_a + 0))))] : List Value)) (w1 := (layM g h)) (by rfl) ?_
      refine bv_fV1 C rfl (ct_ofPath hE _ _ k_a 1 (by omega) (by omega)) ml_X9_86 im_X9_ofPath sel_X9_ofPath ini_X9 cd_X9_ofPath ok_X9_ofPath rfl ⟨Nat.le_of_ble_eq_true rfl, Nat.le_of_ble_eq_true rfl⟩ ⟨Nat.zero_le _, Nat.zero_le _⟩ (by decide) rfl rfl rfl (rest := ([.int b1, .int (1), .ref 0, .int ((g 1 (15 + 20 * fr + 2)) + (gaI (g 1 15) (g 1 16) b0 (g 1 (55 + 6 * k_a + 0))))] : List Value)) rfl (Nat.le_of_ble_eq_true rfl) ?_
      refine bv_fV1 C rfl (ct_gainOf hE _ _ 1 b1 (g 1 (55 + 6 * k_a + 1)) (by omega) hm1) ml_X9_89 im_X9_gainOf sel_X9_gainOf ini_X9 cd_X9_gainOf ok_X9_gainOf rfl ⟨Nat.le_of_ble_eq_true rfl, Nat.le_of_ble_eq_true rfl⟩ ⟨Nat.zero_le _, Nat.zero_le _⟩ (by decide) rfl rfl rfl (rest := ([.int ((g 1 (15 + 20 * fr + 2)) + (gaI (g 1 15) (g 1 16) b0 (g 1 (55 + 6 * k_a + 0))))] : List Value)) rfl (Nat.le_of_ble_eq_true rfl) ?_
      refine bv_blk C frk_X9 csk_X9 4 35 rfl (L1 := ([(5, .int (nI k_a)), (0, .ref 0), (1, .int (nI fr)), (2, .int b0), (3, .int b1), (4, .float (recG g fr b0 b1 k_a))] : Lc)) (st1 := ([.int (2), .int (nI k_a), .ref 0, .int (((g 1 (15 + 20 * fr + 2)) + (gaI (g 1 15) (g 1 16) b0 (g 1 (55 + 6 * k_a + 0)))) + (gaI (g 1 35) (g 1 36) b1 (g 1 (55 + 6 * k_a + 1))))] : List Value)) (w1 := (layM g h)) (by rfl) ?_
      refine bv_fV1 C rfl (ct_ofPath hE _ _ k_a 2 (by omega) (by omega)) ml_X9_86 im_X9_ofPath sel_X9_ofPath ini_X9 cd_X9_ofPath ok_X9_ofPath rfl ⟨Nat.le_of_ble_eq_true rfl, Nat.le_of_ble_eq_true rfl⟩ ⟨Nat.zero_le _, Nat.zero_le _⟩ (by decide) rfl rfl rfl (rest := ([.int (((g 1 (15 + 20 * fr + 2)) + (gaI (g 1 15) (g 1 16) b0 (g 1 (55 + 6 * k_a + 0)))) + (gaI (g 1 35) (g 1 36) b1 (g 1 (55 + 6 * k_a + 1))))] : List Value)) rfl (Nat.le_of_ble_eq_true rfl) ?_
      refine bv_blk C frk_X9 csk_X9 4 40 rfl (L1 := ([(5, .int (nI k_a)), (0, .ref 0), (1, .int (nI fr)), (2, .int b0), (3, .int b1), (4, .float (recG g fr b0 b1 k_a))] : Lc)) (st1 := ([.int (3), .int (nI k_a), .ref 0, .int ((((g 1 (15 + 20 * fr + 2)) + (gaI (g 1 15) (g 1 16) b0 (g 1 (55 + 6 * k_a + 0)))) + (gaI (g 1 35) (g 1 36) b1 (g 1 (55 + 6 * k_a + 1)))) - (g 1 (55 + 6 * k_a + 2)))] : List Value)) (w1 := (layM g h)) (by rfl) ?_
      refine bv_fV1 C rfl (ct_ofPath hE _ _ k_a 3 (by omega) (by omega)) ml_X9_86 im_X9_ofPath sel_X9_ofPath ini_X9 cd_X9_ofPath ok_X9_ofPath rfl ⟨Nat.le_of_ble_eq_true rfl, Nat.le_of_ble_eq_true rfl⟩ ⟨Nat.zero_le _, Nat.zero_le _⟩ (by decide) rfl rfl rfl (rest := ([.int ((((g 1 (15 + 20 * fr + 2)) + (gaI (g 1 15) (g 1 16) b0 (g 1 (55 + 6 * k_a + 0)))) + (gaI (g 1 35) (g 1 36) b1 (g 1 (55 + 6 * k_a + 1)))) - (g 1 (55 + 6 * k_a + 2)))] : List Value)) rfl (Nat.le_of_ble_eq_true rfl) ?_
      refine bv_blk C frk_X9 csk_X9 5 46 rfl (L1 := ([(6, .int (((((g 1 (15 + 20 * fr + 2)) + (gaI (g 1 15) (g 1 16) b0 (g 1 (55 + 6 * k_a + 0)))) + (gaI (g 1 35) (g 1 36) b1 (g 1 (55 + 6 * k_a + 1)))) - (g 1 (55 + 6 * k_a + 2))) - (g 1 (55 + 6 * k_a + 3)))), (5, .int (nI k_a)), (0, .ref 0), (1, .int (nI fr)), (2, .int b0), (3, .int b1), (4, .float (recG g fr b0 b1 k_a))] : Lc)) (st1 := ([.int (((((g 1 (15 + 20 * fr + 2)) + (gaI (g 1 15) (g 1 16) b0 (g 1 (55 + 6 * k_a + 0)))) + (gaI (g 1 35) (g 1 36) b1 (g 1 (55 + 6 * k_a + 1)))) - (g 1 (55 + 6 * k_a + 2))) - (g 1 (55 + 6 * k_a + 3))), .ref 0, .float (recG g fr b0 b1 k_a)] : List Value)) (w1 := (layM g h)) (by rfl) ?_
      refine bv_fV1 C rfl (ct_power hE _ _ (((((g 1 (15 + 20 * fr + 2)) + (gaI (g 1 15) (g 1 16) b0 (g 1 (55 + 6 * k_a + 0)))) + (gaI (g 1 35) (g 1 36) b1 (g 1 (55 + 6 * k_a + 1)))) - (g 1 (55 + 6 * k_a + 2))) - (g 1 (55 + 6 * k_a + 3))) (hq k_a (by omega))) ml_X9_93 im_X9_power sel_X9_power ini_X9 cd_X9_power ok_X9_power rfl ⟨Nat.le_of_ble_eq_true rfl, Nat.le_of_ble_eq_true rfl⟩ ⟨Nat.zero_le _, Nat.zero_le _⟩ (by decide) rfl rfl rfl (rest := ([.float (recG g fr b0 b1 k_a)] : List Value)) rfl (Nat.le_of_ble_eq_true rfl) ?_
      refine bv_fadd C rfl (hnn k_a (by omega)) ?_
      refine bv_blk C frk_X9 csk_X9 2 50 rfl (L1 := ([(5, .int ((nI k_a) + Int32.ofInt 1)), (4, .float (FP.fadd (recG g fr b0 b1 k_a) (powF (((((g 1 (15 + 20 * fr + 2)) + (gaI (g 1 15) (g 1 16) b0 (g 1 (55 + 6 * k_a + 0)))) + (gaI (g 1 35) (g 1 36) b1 (g 1 (55 + 6 * k_a + 1)))) - (g 1 (55 + 6 * k_a + 2))) - (g 1 (55 + 6 * k_a + 3)))))), (6, .int (((((g 1 (15 + 20 * fr + 2)) + (gaI (g 1 15) (g 1 16) b0 (g 1 (55 + 6 * k_a + 0)))) + (gaI (g 1 35) (g 1 36) b1 (g 1 (55 + 6 * k_a + 1)))) - (g 1 (55 + 6 * k_a + 2))) - (g 1 (55 + 6 * k_a + 3)))), (0, .ref 0), (1, .int (nI fr)), (2, .int b0), (3, .int b1)] : Lc)) (st1 := ([] : List Value)) (w1 := (layM g h)) (by rfl) ?_
      rw [show ((nI k_a) + Int32.ofInt 1) = nI (k_a + 1) from (nIi rfl)]
      refine bv_goto (j := 4) C rfl rfl ?_
      refine bv_weq (show (layM g h) = (layM g h) from by rfl) ?_
      refine bv_sub [0, 3, 4, 5, 6, 1] (by rfl) ?_
      exact ih (k_a + 1) (by omega) (by omega)
  refine bv_weq (show (layM g h) = (layM g h) from by rfl) ?_
  refine bv_sub [0, 2, 3, 4, 5, 1] (by rfl) ?_
  exact lp_a (n - 0) 0 (Nat.le_refl _) (by omega)
