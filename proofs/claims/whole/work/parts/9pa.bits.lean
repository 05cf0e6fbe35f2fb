/-! THE BITS OF A SHARE, as the class tells them -/
theorem sh23 : ∀ E : Nat, E < 128 → (nI E <<< ((23 : Int32) &&& 31)) = nI (E * 8388608) := by decide
theorem to32 (x : UInt32) : x.toInt32 = nI x.toNat := by
  apply Int32.toBitVec_inj.mp
  apply BitVec.eq_of_toNat_eq
  show x.toBitVec.toNat = (BitVec.ofNat 32 x.toNat).toNat
  rw [BitVec.toNat_ofNat]
  exact (Nat.mod_eq_of_lt x.toNat_lt).symm
theorem one_F : pF FP.fconst1 ∧ FP.fconst1.toNat = 1065353216 := ⟨by unfold pF; decide, rfl⟩
theorem dec_n {a k : Nat} (h : a + k < 1000) : nI (a + (k + 1)) + Int32.ofInt (-1) = nI (a + k) := by
  apply Int32.toInt_inj.mp
  rw [Int32.toInt_add, nI_toInt (by omega), nI_toInt (by omega), show (Int32.ofInt (-1)).toInt = -1 from rfl, Int.bmod_def]
  omega
set_option maxRecDepth 100000 in
set_option maxHeartbeats 8000000 in
theorem cs_bitsOf {l : Launch} {D : va_G} {cA : FieldType → ClassId} {z0 : Nat} {SK SV : Nat → Nat} {ad : Nat → Nat} {sh : Sh} {N : Nat} (hE : aD (fun q => z0 ≤ q) ad N) (w : Wd) (x : UInt32) (h1 : 8388608 ≤ x.toNat) (h2 : x.toNat ≤ 1065353216) : bF l D cA z0 SK SV ad sh N yX4_bitsOf cX4_bitsOf 3 (some .int) 0 [.float x] w (some (.int x.toInt32)) w := by
  refine bCT_intro (tb := tb_X4_bitsOf) (own := RX4) hE pn_X4 rfl tk_X4_bitsOf rfl (Nat.le_of_ble_eq_true rfl) ?_
  intro p e s0 m args below meth c C hr
  have ht := Nat.mod_lt x.toNat (show 0 < 8388608 by decide)
  have hx1 : 1 ≤ x.toNat / 8388608 := by omega
  have lp : ∀ (k : Nat) (y : UInt32), y.toNat + k * 8388608 = 1065353216 + x.toNat % 8388608 → x.toNat / 8388608 + k ≤ 127 → bV p l e (bR 0) s0 m args below meth c D cA sh (adA ad N) 3 tb_X4_bitsOf (MQ below (bQ D cA ad sh N (fun r w1 => r = (some (.int x.toInt32)) ∧ w1 = w)) args s0 0 0 (adA ad N)) ad N 0 0 w 4 ([(2, .float y), (1, .int (nI (x.toNat / 8388608 + k))), (0, .float x)] : Lc) ([] : List Value) := by
    intro k
    induction k with
    | zero =>
      intro y hy hk
      have py : pF y := by unfold pF; omega
      obtain ⟨g1, g2, g3⟩ := sg_F (x := y) (t := x.toNat % 8388608) ht (by omega)
      refine bv_blk C frk_X4 csk_X4 1 5 rfl (L1 := ([(2, .float y), (1, .int (nI (x.toNat / 8388608 + 0))), (0, .float x)] : Lc)) (st1 := ([.float y] : List Value)) (w1 := w) (by rfl) ?_
      refine bv_fconst1 C rfl ?_
      refine bv_blk C frk_X4 csk_X4 1 7 rfl (L1 := ([(2, .float y), (1, .int (nI (x.toNat / 8388608 + 0))), (0, .float x)] : Lc)) (st1 := ([.int (Op.cmpValue (FP.fcmp y FP.fconst1) .g)] : List Value)) (w1 := w) (by rfl) ?_
      refine bv_if_ge (j := 17) C rfl rfl (fun _ => ?_) (fun hc => absurd ((cm_ge py one_F.1).mpr (by rw [one_F.2]; omega)) hc)
      refine bv_blk C frk_X4 csk_X4 4 21 rfl (L1 := ([(2, .float y), (1, .int (nI (x.toNat / 8388608 + 0))), (0, .float x)] : Lc)) (st1 := ([.float y, .int (nI (x.toNat / 8388608 + 0) <<< ((23) &&& 31))] : List Value)) (w1 := w) (by rfl) ?_
      refine bv_fconst1 C rfl ?_
      refine bv_fsub C rfl g1 ?_
      refine bv_blk C frk_X4 csk_X4 1 24 rfl (L1 := ([(2, .float y), (1, .int (nI (x.toNat / 8388608 + 0))), (0, .float x)] : Lc)) (st1 := ([.float (1258291200), .float (FP.fsub y FP.fconst1), .int (nI (x.toNat / 8388608 + 0) <<< ((23) &&& 31))] : List Value)) (w1 := w) (by rfl) ?_
      refine bv_fmul C rfl g2 ?_
      refine bv_blk C frk_X4 csk_X4 2 27 rfl (L1 := ([(2, .float y), (1, .int (nI (x.toNat / 8388608 + 0))), (0, .float x)] : Lc)) (st1 := ([.int ((nI (x.toNat / 8388608 + 0) <<< ((23) &&& 31)) + FP.f2i (FP.fmul (FP.fsub y FP.fconst1) (1258291200)))] : List Value)) (w1 := w) (by rfl) ?_
      have hv : (nI (x.toNat / 8388608 + 0) <<< ((23) &&& 31)) + FP.f2i (FP.fmul (FP.fsub y FP.fconst1) (1258291200)) = x.toInt32 := by
        rw [g3, Nat.add_zero, sh23 _ (by omega), nI_add, to32]
        congr 1
        omega
      exact bv_iret C rfl hr rfl ⟨by rw [hv], rfl⟩
    | succ k ih =>
      intro y hy hk
      have py : pF y := by unfold pF; omega
      have dd := dbl_F (a := y) (by omega) (by omega)
      have pd : pF (FP.fmul y FP.fconst2) := by unfold pF; rw [dd]; omega
      refine bv_blk C frk_X4 csk_X4 1 5 rfl (L1 := ([(2, .float y), (1, .int (nI (x.toNat / 8388608 + (k + 1)))), (0, .float x)] : Lc)) (st1 := ([.float y] : List Value)) (w1 := w) (by rfl) ?_
      refine bv_fconst1 C rfl ?_
      refine bv_blk C frk_X4 csk_X4 1 7 rfl (L1 := ([(2, .float y), (1, .int (nI (x.toNat / 8388608 + (k + 1)))), (0, .float x)] : Lc)) (st1 := ([.int (Op.cmpValue (FP.fcmp y FP.fconst1) .g)] : List Value)) (w1 := w) (by rfl) ?_
      refine bv_if_ge (j := 17) C rfl rfl (fun hc => absurd ((cm_ge py one_F.1).mp hc) (by rw [one_F.2]; omega)) (fun _ => ?_)
      refine bv_blk C frk_X4 csk_X4 2 10 rfl (L1 := ([(2, .float y), (1, .int (nI (x.toNat / 8388608 + (k + 1)))), (0, .float x)] : Lc)) (st1 := ([.int (1), .int (nI (x.toNat / 8388608 + (k + 1)))] : List Value)) (w1 := w) (by rfl) ?_
      refine bv_icmp_le (j := 17) C rfl rfl (fun hc => absurd ((nI_leI (a := x.toNat / 8388608 + (k + 1)) (b := 1) (by omega) (by omega)).mp hc) (by omega)) (fun _ => ?_)
      refine bv_blk C frk_X4 csk_X4 1 12 rfl (L1 := ([(2, .float y), (1, .int (nI (x.toNat / 8388608 + (k + 1)))), (0, .float x)] : Lc)) (st1 := ([.float y] : List Value)) (w1 := w) (by rfl) ?_
      refine bv_fconst2 C rfl ?_
      refine bv_fmul C rfl (pF_n32 (Nat.le_of_lt pd)) ?_
      refine bv_blk C frk_X4 csk_X4 2 16 rfl (L1 := ([(1, .int (nI (x.toNat / 8388608 + (k + 1)) + Int32.ofInt (-1))), (2, .float (FP.fmul y FP.fconst2)), (0, .float x)] : Lc)) (st1 := ([] : List Value)) (w1 := w) (by rfl) ?_
      rw [dec_n (by omega)]
      refine bv_goto (j := 4) C rfl rfl ?_
      refine bv_sub [1, 0, 2] (by rfl) ?_
      exact ih _ (by rw [dd]; omega) (by omega)
  refine bv_blk C frk_X4 csk_X4 4 4 rfl (L1 := ([(2, .float x), (1, .int (127)), (0, .float x)] : Lc)) (st1 := ([] : List Value)) (w1 := w) (by rfl) ?_
  rw [show (127 : Int32) = nI (x.toNat / 8388608 + (127 - x.toNat / 8388608)) from by rw [show x.toNat / 8388608 + (127 - x.toNat / 8388608) = 127 by omega]; rfl]
  exact lp (127 - x.toNat / 8388608) x (by omega) (by omega)
/-! THE SUM OF THE POWERS OF ALL PAIRS -/
theorem sI_F {g : Nat → Nat → Int32} {n : Nat} (hs : statR g n) (i : Nat) : ∀ (q j k : Nat) (t : UInt32), pF t → uF t ≤ k * 2 ^ 166 → k + 8 * q < 2049 → pF (shI g n i q j t) ∧ uF (shI g n i q j t) ≤ (k + 8 * q) * 2 ^ 166 ∧ uF t ≤ uF (shI g n i q j t) ∧ ∀ j2, j ≤ j2 → j2 < j + q → uF (recG g 0 (nI i) (nI j2) n) ≤ uF (shI g n i q j t) := by
  intro q
  induction q with
  | zero => exact fun j k t h1 h2 h3 => ⟨h1, h2, Nat.le_refl _, fun j2 a b => absurd b (by omega)⟩
  | succ q ih =>
    intro j k t h1 h2 h3
    obtain ⟨r1, r2, -⟩ := rec_F (st_lvB hs (fr := 0) (by omega) (nI i) (nI j)) n (Nat.le_refl _)
    have r3 : uF (recG g 0 (nI i) (nI j) n) ≤ 8 * 2 ^ 166 := Nat.le_trans r2 (Nat.mul_le_mul_right _ hs.2.1)
    obtain ⟨e1, e2, e3, e4⟩ := ad_c h1 r1 (i := k) (j := 8) (by omega) h2 r3
    obtain ⟨k1, k2, k3, k4⟩ := ih (j + 1) (k + 8) _ e1 e2 (by omega)
    rw [shI_s]
    refine ⟨k1, by rw [show k + 8 * (q + 1) = k + 8 + 8 * q by omega]; exact k2, Nat.le_trans e3 k3, fun j2 a b => ?_⟩
    by_cases c : j2 = j
    · rw [c]
      exact Nat.le_trans e4 k3
    · exact k4 j2 (by omega) (by omega)
theorem sO_F {g : Nat → Nat → Int32} {n S1 : Nat} (hs : statR g n) : ∀ (r i k : Nat) (t : UInt32), pF t → uF t ≤ k * 2 ^ 166 → k + 8 * S1 * r < 2049 → pF (shO g n S1 r i t) ∧ uF (shO g n S1 r i t) ≤ (k + 8 * S1 * r) * 2 ^ 166 ∧ uF t ≤ uF (shO g n S1 r i t) ∧ ∀ i2 j2, i ≤ i2 → i2 < i + r → j2 < S1 → uF (recG g 0 (nI i2) (nI j2) n) ≤ uF (shO g n S1 r i t) := by
  intro r
  induction r with
  | zero => exact fun i k t h1 h2 h3 => ⟨h1, by rw [Nat.mul_zero, Nat.add_zero]; exact h2, Nat.le_refl _, fun i2 j2 a b => absurd b (by omega)⟩
  | succ r ih =>
    intro i k t h1 h2 h3
    rw [Nat.mul_succ] at h3
    obtain ⟨e1, e2, e3, e4⟩ := sI_F hs i S1 0 k t h1 h2 (by omega)
    obtain ⟨k1, k2, k3, k4⟩ := ih (i + 1) (k + 8 * S1) _ e1 e2 (by omega)
    rw [shO_nx]
    refine ⟨k1, by rw [show k + 8 * S1 * (r + 1) = k + 8 * S1 + 8 * S1 * r from (by rw [Nat.mul_add (8 * S1) r 1, Nat.mul_one]; omega)]; exact k2, Nat.le_trans e3 k3, fun i2 j2 a b d => ?_⟩
    by_cases c : i2 = i
    · rw [c]
      exact Nat.le_trans (e4 j2 (Nat.zero_le _) (by omega)) k3
    · exact k4 i2 j2 (by omega) (by omega) d
theorem sI_nan {g : Nat → Nat → Int32} {n i : Nat} : ∀ (q j : Nat) (t : UInt32), FP.Core.val32 t = .nan → FP.Core.val32 (shI g n i q j t) = .nan
  | 0, _, _, h => h
  | q + 1, j, t, h => sI_nan q (j + 1) _ (FP.Core.fadd_nan (Or.inl h))
theorem sO_nan {g : Nat → Nat → Int32} {n S1 : Nat} : ∀ (r i : Nat) (t : UInt32), FP.Core.val32 t = .nan → FP.Core.val32 (shO g n S1 r i t) = .nan
  | 0, _, _, h => h
  | r + 1, i, t, h => sO_nan r (i + 1) _ (sI_nan _ _ _ h)
theorem n32_of {r : UInt32} (h : FP.Core.val32 r ≠ .nan) : vf_n32 r := by
  show r &&& 0x7fffffff ≤ 0x7f800000
  rw [UInt32.le_iff_toNat_le, FP.Core.mask_toNat32]
  exact (FP.Core.ne_nan32 r).mp h
theorem ad_n {a b : UInt32} (ha : FP.Core.val32 a ≠ .nan) (hb : pF b) : vf_n32 (FP.fadd a b) := by
  refine n32_of (fun z => ?_)
  have e := FP.Core.val32_fadd a b
  rw [z] at e
  rcases (FP.Core.exactSum_nan _ _).mp (FP.Core.round_nan.mp e.symm) with h | h | ⟨s, -, h⟩
  · exact ha h
  · exact pF_ne hb h
  · obtain ⟨c, q, e2, -⟩ := pF_fin hb
    rw [e2] at h
    cases h
theorem qu_p {a b : UInt32} (ha : pF a) (hb : pF b) (h1 : uF a ≤ 2 ^ 177) (h2 : 2 ^ 100 ≤ uF b) : pF (FP.fdiv a b) := by
  have p100 : 0 < 2 ^ 100 := Nat.two_pow_pos _
  obtain ⟨c, d, q, r, k1, k2, k3, k4, k5, k6, k7⟩ := qu_rr ha hb (by omega)
  have hq : FP.Core.b32.qmin = -149 := FP.Core.qmin_b32
  have hp : (FP.Core.b32.qmin - (-400)).toNat = 251 := by rw [hq]; rfl
  have hP : 0 < 2 ^ (r + 149).toNat := Nat.two_pow_pos _
  have hx : FP.Core.inUnits c (q - r) (-400) * 2 ^ (r + 149).toNat = uF a * 2 ^ 400 := by
    unfold FP.Core.inUnits
    rw [← k6, Nat.mul_assoc, ← Nat.pow_add, Nat.mul_assoc, ← Nat.pow_add]
    congr 2
    omega
  have u1 : FP.Core.unitsOf FP.Core.b32 1711276032 = 2 ^ 226 := by decide +kernel
  have z : (FP.fdiv a b).toNat ≤ 1711276032 := by
    refine rr_le (e0 := -400) k1 k2 (by rw [hq]; omega) (by omega) ?_
    rw [hp, u1]
    refine Nat.le_of_mul_le_mul_right ?_ hP
    rw [hx, Nat.mul_assoc, Nat.mul_assoc, k7]
    calc uF a * 2 ^ 400 ≤ 2 ^ 177 * 2 ^ 400 := Nat.mul_le_mul_right _ h1
      _ ≤ 2 ^ 226 * (2 ^ 251 * 2 ^ 100) := by rw [← Nat.pow_add, ← Nat.pow_add, ← Nat.pow_add]; exact Nat.pow_le_pow_right (by decide) (by decide)
      _ ≤ 2 ^ 226 * (2 ^ 251 * uF b) := Nat.mul_le_mul_left _ (Nat.mul_le_mul_left _ h2)
  unfold pF
  omega
/-- of the sum and of one pair's power -/
theorem sT_F {g : Nat → Nat → Int32} {n S0 S1 : Nat} (hs : statR g n) (hn : ¬ n = 0) (h0 : 2 ≤ S0) (hA : S0 ≤ 16) (h1 : 2 ≤ S1) (hB : S1 ≤ 16) : pF (shT g n S0 S1) ∧ uF (shT g n S0 S1) ≤ 2 ^ 177 ∧ 2 ^ 100 ≤ uF (shT g n S0 S1) ∧ ∀ i j, i < S0 → j < S1 → uF (recG g 0 (nI i) (nI j) n) ≤ uF (shT g n S0 S1) := by
  have hm : S1 * S0 ≤ 16 * 16 := Nat.mul_le_mul hB hA
  obtain ⟨k1, k2, k3, k4⟩ := sO_F hs (S1 := S1) S0 0 0 FP.fconst0 fc0_F.1 (by rw [fc0_F.2]; exact Nat.zero_le _) (by rw [Nat.mul_assoc]; omega)
  have k5 : ∀ i j, i < S0 → j < S1 → uF (recG g 0 (nI i) (nI j) n) ≤ uF (shT g n S0 S1) := fun i j a b => k4 i j (Nat.zero_le _) (by omega) b
  refine ⟨k1, Nat.le_trans k2 ?_, ?_, k5⟩
  · have e9 : (2 : Nat) ^ 177 = 2048 * 2 ^ 166 := by decide
    rw [e9]
    exact Nat.mul_le_mul_right _ (by rw [Nat.mul_assoc]; omega)
  · obtain ⟨-, -, r3⟩ := rec_F (st_lvB hs (fr := 0) (by omega) (nI 0) (nI 0)) n (Nat.le_refl _)
    exact Nat.le_trans pB9_120 (Nat.le_trans (uF_le.mpr (r3 (by omega))) (k5 0 0 (by omega) (by omega)))
theorem rc_F {g : Nat → Nat → Int32} {n : Nat} (hs : statR g n) (hn : ¬ n = 0) (a b : Int32) : pF (recG g 0 a b n) ∧ uF (recG g 0 a b n) ≤ 2 ^ 177 ∧ 2 ^ 100 ≤ uF (recG g 0 a b n) := by
  obtain ⟨r1, r2, r3⟩ := rec_F (st_lvB hs (fr := 0) (by omega) a b) n (Nat.le_refl _)
  refine ⟨r1, Nat.le_trans r2 ?_, Nat.le_trans pB9_120 (uF_le.mpr (r3 (by omega)))⟩
  have e9 : (2 : Nat) ^ 177 = 2048 * 2 ^ 166 := by decide
  rw [e9]
  exact Nat.mul_le_mul_right _ (by have := hs.2.1; omega)
theorem m1000 : pF 1148846080 := by unfold pF; decide
theorem sh_K {g : Nat → Nat → Int32} {n S0 S1 : Nat} (hs : statR g n) (hn : ¬ n = 0) (h0 : 2 ≤ S0) (hA : S0 ≤ 16) (h1 : 2 ≤ S1) (hB : S1 ≤ 16) (a b : Int32) : shOKC g n S0 S1 a b := by
  obtain ⟨t1, t2, t3, t4⟩ := sT_F hs hn h0 hA h1 hB
  obtain ⟨r1, r2, r3⟩ := rc_F hs hn a b
  have hd := qu_p r1 t1 r2 t3
  refine ⟨⟨fun i j t hi hj z => ?_, pF_n32 (Nat.le_of_lt hd), pF_n32 (mu_n hd m1000), cm_self hd⟩, fun z => ?_⟩
  · obtain ⟨q, j2, e⟩ := z
    refine ad_n (fun z => ?_) (rec_F (st_lvB hs (fr := 0) (by omega) (nI i) (nI j)) n (Nat.le_refl _)).1
    have e2 := sO_nan (g := g) (n := n) (S1 := S1) (S0 - i - 1) (i + 1) _ (sI_nan (g := g) (n := n) (i := i) q j2 t z)
    rw [e] at e2
    exact pF_ne t1 e2
  · have z2 := (cm_le t1 fc0_F.1).mp z
    have z3 := uF_le.mpr z2
    rw [fc0_F.2] at z3
    have p100 : 0 < 2 ^ 100 := Nat.two_pow_pos _
    omega
theorem sh_B {g : Nat → Nat → Int32} {n S0 S1 i j : Nat} (hs : statR g n) (hn : ¬ n = 0) (h0 : 2 ≤ S0) (hA : S0 ≤ 16) (h1 : 2 ≤ S1) (hB : S1 ≤ 16) (hi : i < S0) (hj : j < S1) : 8388608 ≤ (FP.fdiv (recG g 0 (nI i) (nI j) n) (shT g n S0 S1)).toNat ∧ (FP.fdiv (recG g 0 (nI i) (nI j) n) (shT g n S0 S1)).toNat ≤ 1065353216 := by
  obtain ⟨t1, t2, t3, t4⟩ := sT_F hs hn h0 hA h1 hB
  obtain ⟨r1, r2, r3⟩ := rc_F hs hn (nI i) (nI j)
  exact qu_F r1 t1 r3 (t4 i j hi hj) t2
