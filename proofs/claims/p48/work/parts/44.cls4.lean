theorem i32_ext {x y : Int32} (h : x.toInt = y.toInt) : x = y := Int32.toInt_inj.mp h
theorem i32_rng (x : Int32) : -2147483648 ≤ x.toInt ∧ x.toInt < 2147483648 := ⟨Int32.le_toInt x, Int32.toInt_lt x⟩
theorem tdiv64 (v : Int) : v - v.tdiv 64 * 64 = v.tmod 64 := by
  have := Int.tmod_add_tdiv_mul v 64
  omega
theorem tmod64 (v : Int) : -64 < v.tmod 64 ∧ v.tmod 64 < 64 ∧ (v.tmod 64) % 64 = v % 64 := by
  have h1 := Int.tmod_lt_of_pos v (show (0 : Int) < 64 by omega)
  have h2 := Int.lt_tmod_of_pos v (show (0 : Int) < 64 by omega)
  refine ⟨by omega, h1, ?_⟩
  have := Int.tmod_add_tdiv_mul v 64
  omega
theorem rem64 (x : Int32) : (remI x 64).toInt = x.toInt.tmod 64 := by
  have hx := i32_rng x
  have h2 := tmod64 x.toInt
  have h3 := tdiv64 x.toInt
  have hd : (x / 64).toInt = x.toInt.tdiv 64 := by
    rw [Int32.toInt_div, show (64 : Int32).toInt = 64 from rfl, Int.bmod_def]
    omega
  unfold remI
  rw [Int32.toInt_sub, Int32.toInt_mul, hd, show (64 : Int32).toInt = 64 from rfl, Int.bmod_def, Int.bmod_def]
  omega
theorem ar64_toInt (x : Int32) : (arI x 64).toInt = x.toInt % 64 := by
  have h1 := rem64 x
  have h2 := tmod64 x.toInt
  have h3 : (remI x 64 + 64).toInt = x.toInt.tmod 64 + 64 := by
    rw [Int32.toInt_add, h1, show (64 : Int32).toInt = 64 from rfl, Int.bmod_def]
    omega
  unfold arI
  rw [rem64, h3]
  have h4 := tmod64 (x.toInt.tmod 64 + 64)
  have h5 := Int.tmod_add_tdiv_mul (x.toInt.tmod 64 + 64) 64
  have h6 : 0 ≤ (x.toInt.tmod 64 + 64).tmod 64 := Int.tmod_nonneg _ (by omega)
  omega
theorem and63_toInt (x : Int32) : (x &&& 63).toInt = x.toInt % 64 := by
  rw [pk_and x 6 (by decide), nI_toInt (by omega)]
  have h1 : x.toInt = x.toBitVec.toInt := rfl
  rw [h1, BitVec.toInt_eq_toNat_cond]
  have h2 := x.toBitVec.isLt
  split <;> omega
theorem ar64 (x : Int32) : arI x 64 = x &&& 63 := i32_ext ((ar64_toInt x).trans (and63_toInt x).symm)
theorem ag_C (a b : Int32) : angI a b = agC a b := by
  unfold angI agC
  rw [ar64]
theorem pt_C {many o b : Int32} (h : ¬ many ≤ 0) : ptI many o b = ptC many o b := by
  unfold ptI ptC
  rw [if_neg h, ar64]
  rfl
theorem ga_C {many o b t : Int32} (h : ¬ many ≤ 0) : gaI many o b t = gnC many b (agC (ptC many o b) t) := by
  unfold gaI gnC
  rw [ag_C, pt_C h]
  by_cases h1 : b = -1
  · simp only [h1, if_true]
  · simp only [h1, if_false]
    by_cases h2 : many ≤ b
    · simp only [h2, if_true]
    · simp only [h2, if_false]
theorem lev_C {g : Nat → Nat → Int32} (h0 : ¬ g 1 15 ≤ 0) (h1 : ¬ g 1 35 ≤ 0) (fr : Nat) (b0 b1 : Int32) (p : Nat) : g 1 (15 + 20 * fr + 2) + gnC (g 1 15) b0 (agC (ptC (g 1 15) (g 1 16) b0) (g 1 (55 + 6 * p + 0))) + gnC (g 1 35) b1 (agC (ptC (g 1 35) (g 1 36) b1) (g 1 (55 + 6 * p + 1))) - g 1 (55 + 6 * p + 2) - g 1 (55 + 6 * p + 3) = levG g fr b0 b1 p := by
  unfold levG
  rw [ga_C h0, ga_C h1]
theorem st_p0 {g : Nat → Nat → Int32} {n : Nat} (h : statR g n) : ¬ g 1 15 ≤ 0 := by
  obtain ⟨a, h1, h2, h3⟩ := h.2.2.2.1
  rw [h1]
  exact fun z => absurd ((nI_leI (a := a) (b := 0) (by omega) (by omega)).mp z) (by omega)
theorem st_p1 {g : Nat → Nat → Int32} {n : Nat} (h : statR g n) : ¬ g 1 35 ≤ 0 := by
  obtain ⟨a, h1, h2, h3⟩ := h.2.2.2.2.1
  rw [h1]
  exact fun z => absurd ((nI_leI (a := a) (b := 0) (by omega) (by omega)).mp z) (by omega)
theorem ug_cm {g : Nat → Nat → Int32} {i k a b : Nat} {x y : Int32} (h : ¬ (i = a ∧ k = b)) : ug (ug g i k x) a b y = ug (ug g a b y) i k x := by
  funext q r
  by_cases h1 : q = a ∧ r = b
  · obtain ⟨rfl, rfl⟩ := h1
    rw [ug_same, ug_ne (fun z => h ⟨z.1.symm, z.2.symm⟩), ug_same]
  · by_cases h2 : q = i ∧ r = k
    · obtain ⟨rfl, rfl⟩ := h2
      rw [ug_ne h1, ug_same, ug_same]
    · rw [ug_ne h1, ug_ne h2, ug_ne h2, ug_ne h1]
/-- what the class's world doesn't hold -/
theorem lb_gh {g g' : Nat → Nat → Int32} {σ τ : Nat → Nat} (h : ∀ i k, ¬ (i = 0 ∧ k ≠ 4 ∧ k ≠ 9 ∧ k ≠ 10 ∧ k ≠ 20) → g' i k = g i k) : layB g' σ τ = layB g σ τ := by
  have e : ∀ k, g' 1 k = g 1 k := fun k => h 1 k (by omega)
  funext i k
  unfold layB
  split <;> first | (split <;> first | rfl | (rw [e]; done) | (rw [h _ _ (by omega)]; done)) | rfl | (rw [e]; done) | (rw [h _ _ (by omega)]; done)
theorem snt_C {g : Nat → Nat → Int32} {σ τ : Nat → Nat} {fr n : Nat} {b0 b1 t : Int32} : layB (ug (ug (ug g 1 3 (g 1 3 + 1)) 1 4 (g 1 4 + t)) 1 5 (g 1 5 * 1664525 + 1013904223)) σ τ = layB (sntG g fr b0 b1 t n) σ τ := by
  have e : ug (ug (ug g 1 3 (g 1 3 + 1)) 1 4 (g 1 4 + t)) 1 5 (g 1 5 * 1664525 + 1013904223) = ug (ug (ug g 1 5 (g 1 5 * 1664525 + 1013904223)) 1 3 (g 1 3 + 1)) 1 4 (g 1 4 + t) := by
    rw [ug_cm (i := 1) (k := 4) (a := 1) (b := 5) (by omega), ug_cm (i := 1) (k := 3) (a := 1) (b := 5) (by omega)]
  rw [e]
  exact (lb_gh (fun i k hk => ug_ne (fun z => hk (by omega)))).symm
theorem sub640 (m k : Nat) : nI m - 640 + nI k = nI (m + k) - 640 := by
  rw [← nI_add, Int32.sub_eq_add_neg, Int32.sub_eq_add_neg, Int32.add_assoc, Int32.add_comm (-640) (nI k), ← Int32.add_assoc]
theorem qk640 (m k : Nat) (h : m + k < 1041) : qOK (nI m - 640 + nI k) := by
  refine ⟨m + k + 60, by omega, ?_⟩
  rw [sub640]
  apply i32_ext
  rw [Int32.toInt_sub, Int32.toInt_sub, nI_toInt (by omega), nI_toInt (by omega), show (640 : Int32).toInt = 640 from rfl, show (700 : Int32).toInt = 700 from rfl, Int.bmod_def, Int.bmod_def]
  omega
def lvC (s : UInt32) : Nat → Int32 → Int32
  | 0, l => l
  | n + 1, l => lvC s n (if 0 < Op.cmpValue (FP.fcmp (powF (l + nI (2 ^ n))) s) .g then l else l + nI (2 ^ n))
set_option maxRecDepth 100000 in
set_option maxHeartbeats 8000000 in
theorem cs_levelOf {l : Launch} {D : va_G} {cA : FieldType → ClassId} {z0 : Nat} {SK : Nat → Nat} {SV : Nat → Int32} {ad : Nat → Nat} {sh : Sh} {N : Nat} (hE : aD (fun q => z0 ≤ q) ad N) (w : Wd) (s : UInt32) : bF l D cA z0 SK SV ad sh N yX4_levelOf cX4_levelOf 3 (some .int) 2 [.float s] w (some (.int (lvC s 10 (-640)))) w := by
  refine bCT_intro (tb := tb_X4_levelOf) (own := RX4) hE pn_X4 rfl tk_X4_levelOf rfl (Nat.le_of_ble_eq_true rfl) ?_
  intro p e s0 m args below meth c C hr
  refine bv_blk C frk_X4 csk_X4 4 4 rfl (L1 := ([(2, .int (512)), (1, .int (-640)), (0, .float s)] : Lc)) (st1 := ([] : List Value)) (w1 := w) (by rfl) ?_
  have lp0 : ∀ (m9 : Nat), m9 + 1 ≤ 1024 → lvC s 0 (nI m9 - 640) = lvC s 10 (-640) → bV p l e (bR 2) s0 m args below meth c D cA sh (adA ad N) 3 tb_X4_levelOf (MQ below (bQ D cA ad sh N (fun r w1 => r = (some (.int (lvC s 10 (-640)))) ∧ w1 = w)) args s0 0 0 (adA ad N)) ad N 0 0 w 4 ([(2, .int (0)), (1, .int (nI m9 - 640)), (0, .float s)] : Lc) ([] : List Value) := by
    intro m9 hm9 heq
    refine bv_blk C frk_X4 csk_X4 1 5 rfl (L1 := ([(2, .int (0)), (1, .int (nI m9 - 640)), (0, .float s)] : Lc)) (st1 := ([.int (0)] : List Value)) (w1 := w) (by rfl) ?_
    refine bv_if_le (j := 22) C rfl rfl (fun _ => ?_) (fun h => absurd h (by decide))
    refine bv_blk C frk_X4 csk_X4 1 23 rfl (L1 := ([(2, .int (0)), (1, .int (nI m9 - 640)), (0, .float s)] : Lc)) (st1 := ([.int (nI m9 - 640)] : List Value)) (w1 := w) (by rfl) ?_
    exact bv_iret C rfl hr rfl ⟨by (exact congrArg (fun x => some (Value.int x)) heq), by (rfl)⟩
  have lp1 : ∀ (m9 : Nat), m9 + 2 ≤ 1024 → lvC s 1 (nI m9 - 640) = lvC s 10 (-640) → bV p l e (bR 2) s0 m args below meth c D cA sh (adA ad N) 3 tb_X4_levelOf (MQ below (bQ D cA ad sh N (fun r w1 => r = (some (.int (lvC s 10 (-640)))) ∧ w1 = w)) args s0 0 0 (adA ad N)) ad N 0 0 w 4 ([(2, .int (1)), (1, .int (nI m9 - 640)), (0, .float s)] : Lc) ([] : List Value) := by
    intro m9 hm9 heq
    refine bv_blk C frk_X4 csk_X4 1 5 rfl (L1 := ([(2, .int (1)), (1, .int (nI m9 - 640)), (0, .float s)] : Lc)) (st1 := ([.int (1)] : List Value)) (w1 := w) (by rfl) ?_
    refine bv_if_le (j := 22) C rfl rfl (fun h => absurd h (by decide)) (fun _ => ?_)
    refine bv_blk C frk_X4 csk_X4 3 9 rfl (L1 := ([(2, .int (1)), (1, .int (nI m9 - 640)), (0, .float s)] : Lc)) (st1 := ([.int ((nI m9 - 640) + (1))] : List Value)) (w1 := w) (by rfl) ?_
    refine bv_fS1 C rfl (cs_powerOf hE _ ((nI m9 - 640) + (1)) (qk640 m9 1 (by omega))) ml_X4_33 st_X4_powerOf ini_X4 cd_X4_powerOf ok_X4_powerOf rfl ⟨Nat.le_of_ble_eq_true rfl, Nat.le_of_ble_eq_true rfl⟩ ⟨Nat.zero_le _, Nat.zero_le _⟩ (rest := ([] : List Value)) rfl (Nat.le_of_ble_eq_true rfl) ?_
    refine bv_blk C frk_X4 csk_X4 2 12 rfl (L1 := ([(2, .int (1)), (1, .int (nI m9 - 640)), (0, .float s)] : Lc)) (st1 := ([.int (Op.cmpValue (FP.fcmp (powF ((nI m9 - 640) + (1))) s) .g)] : List Value)) (w1 := w) (by rfl) ?_
    refine bv_if_gt (j := 17) C rfl rfl (fun c3 => ?_) (fun c3 => ?_)
    · refine bv_blk C frk_X4 csk_X4 4 21 rfl (L1 := ([(2, .int (((1) : Int32) >>> ((1) &&& 31))), (1, .int (nI m9 - 640)), (0, .float s)] : Lc)) (st1 := ([] : List Value)) (w1 := w) (by rfl) ?_
      refine bv_goto (j := 4) C rfl rfl ?_
      rw [show (((1) : Int32) >>> ((1) &&& 31)) = (0) from by decide]
      refine bv_sub [0, 1, 2] (by rfl) ?_
      refine lp0 m9 (by omega) ?_
      exact (congrArg (lvC s 0) (if_pos c3)).symm.trans heq
    · refine bv_blk C frk_X4 csk_X4 8 21 rfl (L1 := ([(2, .int (((1) : Int32) >>> ((1) &&& 31))), (1, .int ((nI m9 - 640) + (1))), (0, .float s)] : Lc)) (st1 := ([] : List Value)) (w1 := w) (by rfl) ?_
      refine bv_goto (j := 4) C rfl rfl ?_
      rw [show (((1) : Int32) >>> ((1) &&& 31)) = (0) from by decide]
      rw [show ((nI m9 - 640) + (1)) = nI (m9 + 1) - 640 from sub640 m9 1]
      refine bv_sub [0, 1, 2] (by rfl) ?_
      refine lp0 (m9 + 1) (by omega) ?_
      rw [← sub640 m9 1]
      exact (congrArg (lvC s 0) (if_neg c3)).symm.trans heq
  have lp2 : ∀ (m9 : Nat), m9 + 4 ≤ 1024 → lvC s 2 (nI m9 - 640) = lvC s 10 (-640) → bV p l e (bR 2) s0 m args below meth c D cA sh (adA ad N) 3 tb_X4_levelOf (MQ below (bQ D cA ad sh N (fun r w1 => r = (some (.int (lvC s 10 (-640)))) ∧ w1 = w)) args s0 0 0 (adA ad N)) ad N 0 0 w 4 ([(2, .int (2)), (1, .int (nI m9 - 640)), (0, .float s)] : Lc) ([] : List Value) := by
    intro m9 hm9 heq
    refine bv_blk C frk_X4 csk_X4 1 5 rfl (L1 := ([(2, .int (2)), (1, .int (nI m9 - 640)), (0, .float s)] : Lc)) (st1 := ([.int (2)] : List Value)) (w1 := w) (by rfl) ?_
    refine bv_if_le (j := 22) C rfl rfl (fun h => absurd h (by decide)) (fun _ => ?_)
    refine bv_blk C frk_X4 csk_X4 3 9 rfl (L1 := ([(2, .int (2)), (1, .int (nI m9 - 640)), (0, .float s)] : Lc)) (st1 := ([.int ((nI m9 - 640) + (2))] : List Value)) (w1 := w) (by rfl) ?_
    refine bv_fS1 C rfl (cs_powerOf hE _ ((nI m9 - 640) + (2)) (qk640 m9 2 (by omega))) ml_X4_33 st_X4_powerOf ini_X4 cd_X4_powerOf ok_X4_powerOf rfl ⟨Nat.le_of_ble_eq_true rfl, Nat.le_of_ble_eq_true rfl⟩ ⟨Nat.zero_le _, Nat.zero_le _⟩ (rest := ([] : List Value)) rfl (Nat.le_of_ble_eq_true rfl) ?_
    refine bv_blk C frk_X4 csk_X4 2 12 rfl (L1 := ([(2, .int (2)), (1, .int (nI m9 - 640)), (0, .float s)] : Lc)) (st1 := ([.int (Op.cmpValue (FP.fcmp (powF ((nI m9 - 640) + (2))) s) .g)] : List Value)) (w1 := w) (by rfl) ?_
    refine bv_if_gt (j := 17) C rfl rfl (fun c5 => ?_) (fun c5 => ?_)
    · refine bv_blk C frk_X4 csk_X4 4 21 rfl (L1 := ([(2, .int (((2) : Int32) >>> ((1) &&& 31))), (1, .int (nI m9 - 640)), (0, .float s)] : Lc)) (st1 := ([] : List Value)) (w1 := w) (by rfl) ?_
      refine bv_goto (j := 4) C rfl rfl ?_
      rw [show (((2) : Int32) >>> ((1) &&& 31)) = (1) from by decide]
      refine bv_sub [0, 1, 2] (by rfl) ?_
      refine lp1 m9 (by omega) ?_
      exact (congrArg (lvC s 1) (if_pos c5)).symm.trans heq
    · refine bv_blk C frk_X4 csk_X4 8 21 rfl (L1 := ([(2, .int (((2) : Int32) >>> ((1) &&& 31))), (1, .int ((nI m9 - 640) + (2))), (0, .float s)] : Lc)) (st1 := ([] : List Value)) (w1 := w) (by rfl) ?_
      refine bv_goto (j := 4) C rfl rfl ?_
      rw [show (((2) : Int32) >>> ((1) &&& 31)) = (1) from by decide]
      rw [show ((nI m9 - 640) + (2)) = nI (m9 + 2) - 640 from sub640 m9 2]
      refine bv_sub [0, 1, 2] (by rfl) ?_
      refine lp1 (m9 + 2) (by omega) ?_
      rw [← sub640 m9 2]
      exact (congrArg (lvC s 1) (if_neg c5)).symm.trans heq
  have lp3 : ∀ (m9 : Nat), m9 + 8 ≤ 1024 → lvC s 3 (nI m9 - 640) = lvC s 10 (-640) → bV p l e (bR 2) s0 m args below meth c D cA sh (adA ad N) 3 tb_X4_levelOf (MQ below (bQ D cA ad sh N (fun r w1 => r = (some (.int (lvC s 10 (-640)))) ∧ w1 = w)) args s0 0 0 (adA ad N)) ad N 0 0 w 4 ([(2, .int (4)), (1, .int (nI m9 - 640)), (0, .float s)] : Lc) ([] : List Value) := by
    intro m9 hm9 heq
    refine bv_blk C frk_X4 csk_X4 1 5 rfl (L1 := ([(2, .int (4)), (1, .int (nI m9 - 640)), (0, .float s)] : Lc)) (st1 := ([.int (4)] : List Value)) (w1 := w) (by rfl) ?_
    refine bv_if_le (j := 22) C rfl rfl (fun h => absurd h (by decide)) (fun _ => ?_)
    refine bv_blk C frk_X4 csk_X4 3 9 rfl (L1 := ([(2, .int (4)), (1, .int (nI m9 - 640)), (0, .float s)] : Lc)) (st1 := ([.int ((nI m9 - 640) + (4))] : List Value)) (w1 := w) (by rfl) ?_
    refine bv_fS1 C rfl (cs_powerOf hE _ ((nI m9 - 640) + (4)) (qk640 m9 4 (by omega))) ml_X4_33 st_X4_powerOf ini_X4 cd_X4_powerOf ok_X4_powerOf rfl ⟨Nat.le_of_ble_eq_true rfl, Nat.le_of_ble_eq_true rfl⟩ ⟨Nat.zero_le _, Nat.zero_le _⟩ (rest := ([] : List Value)) rfl (Nat.le_of_ble_eq_true rfl) ?_
    refine bv_blk C frk_X4 csk_X4 2 12 rfl (L1 := ([(2, .int (4)), (1, .int (nI m9 - 640)), (0, .float s)] : Lc)) (st1 := ([.int (Op.cmpValue (FP.fcmp (powF ((nI m9 - 640) + (4))) s) .g)] : List Value)) (w1 := w) (by rfl) ?_
    refine bv_if_gt (j := 17) C rfl rfl (fun c7 => ?_) (fun c7 => ?_)
    · refine bv_blk C frk_X4 csk_X4 4 21 rfl (L1 := ([(2, .int (((4) : Int32) >>> ((1) &&& 31))), (1, .int (nI m9 - 640)), (0, .float s)] : Lc)) (st1 := ([] : List Value)) (w1 := w) (by rfl) ?_
      refine bv_goto (j := 4) C rfl rfl ?_
      rw [show (((4) : Int32) >>> ((1) &&& 31)) = (2) from by decide]
      refine bv_sub [0, 1, 2] (by rfl) ?_
      refine lp2 m9 (by omega) ?_
      exact (congrArg (lvC s 2) (if_pos c7)).symm.trans heq
    · refine bv_blk C frk_X4 csk_X4 8 21 rfl (L1 := ([(2, .int (((4) : Int32) >>> ((1) &&& 31))), (1, .int ((nI m9 - 640) + (4))), (0, .float s)] : Lc)) (st1 := ([] : List Value)) (w1 := w) (by rfl) ?_
      refine bv_goto (j := 4) C rfl rfl ?_
      rw [show (((4) : Int32) >>> ((1) &&& 31)) = (2) from by decide]
      rw [show ((nI m9 - 640) + (4)) = nI (m9 + 4) - 640 from sub640 m9 4]
      refine bv_sub [0, 1, 2] (by rfl) ?_
      refine lp2 (m9 + 4) (by omega) ?_
      rw [← sub640 m9 4]
      exact (congrArg (lvC s 2) (if_neg c7)).symm.trans heq
  have lp4 : ∀ (m9 : Nat), m9 + 16 ≤ 1024 → lvC s 4 (nI m9 - 640) = lvC s 10 (-640) → bV p l e (bR 2) s0 m args below meth c D cA sh (adA ad N) 3 tb_X4_levelOf (MQ below (bQ D cA ad sh N (fun r w1 => r = (some (.int (lvC s 10 (-640)))) ∧ w1 = w)) args s0 0 0 (adA ad N)) ad N 0 0 w 4 ([(2, .int (8)), (1, .int (nI m9 - 640)), (0, .float s)] : Lc) ([] : List Value) := by
    intro m9 hm9 heq
    refine bv_blk C frk_X4 csk_X4 1 5 rfl (L1 := ([(2, .int (8)), (1, .int (nI m9 - 640)), (0, .float s)] : Lc)) (st1 := ([.int (8)] : List Value)) (w1 := w) (by rfl) ?_
    refine bv_if_le (j := 22) C rfl rfl (fun h => absurd h (by decide)) (fun _ => ?_)
    refine bv_blk C frk_X4 csk_X4 3 9 rfl (L1 := ([(2, .int (8)), (1, .int (nI m9 - 640)), (0, .float s)] : Lc)) (st1 := ([.int ((nI m9 - 640) + (8))] : List Value)) (w1 := w) (by rfl) ?_
    refine bv_fS1 C rfl (cs_powerOf hE _ ((nI m9 - 640) + (8)) (qk640 m9 8 (by omega))) ml_X4_33 st_X4_powerOf ini_X4 cd_X4_powerOf ok_X4_powerOf rfl ⟨Nat.le_of_ble_eq_true rfl, Nat.le_of_ble_eq_true rfl⟩ ⟨Nat.zero_le _, Nat.zero_le _⟩ (rest := ([] : List Value)) rfl (Nat.le_of_ble_eq_true rfl) ?_
    refine bv_blk C frk_X4 csk_X4 2 12 rfl (L1 := ([(2, .int (8)), (1, .int (nI m9 - 640)), (0, .float s)] : Lc)) (st1 := ([.int (Op.cmpValue (FP.fcmp (powF ((nI m9 - 640) + (8))) s) .g)] : List Value)) (w1 := w) (by rfl) ?_
    refine bv_if_gt (j := 17) C rfl rfl (fun c9 => ?_) (fun c9 => ?_)
    · refine bv_blk C frk_X4 csk_X4 4 21 rfl (L1 := ([(2, .int (((8) : Int32) >>> ((1) &&& 31))), (1, .int (nI m9 - 640)), (0, .float s)] : Lc)) (st1 := ([] : List Value)) (w1 := w) (by rfl) ?_
      refine bv_goto (j := 4) C rfl rfl ?_
      rw [show (((8) : Int32) >>> ((1) &&& 31)) = (4) from by decide]
      refine bv_sub [0, 1, 2] (by rfl) ?_
      refine lp3 m9 (by omega) ?_
      exact (congrArg (lvC s 3) (if_pos c9)).symm.trans heq
    · refine bv_blk C frk_X4 csk_X4 8 21 rfl (L1 := ([(2, .int (((8) : Int32) >>> ((1) &&& 31))), (1, .int ((nI m9 - 640) + (8))), (0, .float s)] : Lc)) (st1 := ([] : List Value)) (w1 := w) (by rfl) ?_
      refine bv_goto (j := 4) C rfl rfl ?_
      rw [show (((8) : Int32) >>> ((1) &&& 31)) = (4) from by decide]
      rw [show ((nI m9 - 640) + (8)) = nI (m9 + 8) - 640 from sub640 m9 8]
      refine bv_sub [0, 1, 2] (by rfl) ?_
      refine lp3 (m9 + 8) (by omega) ?_
      rw [← sub640 m9 8]
      exact (congrArg (lvC s 3) (if_neg c9)).symm.trans heq
  have lp5 : ∀ (m9 : Nat), m9 + 32 ≤ 1024 → lvC s 5 (nI m9 - 640) = lvC s 10 (-640) → bV p l e (bR 2) s0 m args below meth c D cA sh (adA ad N) 3 tb_X4_levelOf (MQ below (bQ D cA ad sh N (fun r w1 => r = (some (.int (lvC s 10 (-640)))) ∧ w1 = w)) args s0 0 0 (adA ad N)) ad N 0 0 w 4 ([(2, .int (16)), (1, .int (nI m9 - 640)), (0, .float s)] : Lc) ([] : List Value) := by
    intro m9 hm9 heq
    refine bv_blk C frk_X4 csk_X4 1 5 rfl (L1 := ([(2, .int (16)), (1, .int (nI m9 - 640)), (0, .float s)] : Lc)) (st1 := ([.int (16)] : List Value)) (w1 := w) (by rfl) ?_
    refine bv_if_le (j := 22) C rfl rfl (fun h => absurd h (by decide)) (fun _ => ?_)
    refine bv_blk C frk_X4 csk_X4 3 9 rfl (L1 := ([(2, .int (16)), (1, .int (nI m9 - 640)), (0, .float s)] : Lc)) (st1 := ([.int ((nI m9 - 640) + (16))] : List Value)) (w1 := w) (by rfl) ?_
    refine bv_fS1 C rfl (cs_powerOf hE _ ((nI m9 - 640) + (16)) (qk640 m9 16 (by omega))) ml_X4_33 st_X4_powerOf ini_X4 cd_X4_powerOf ok_X4_powerOf rfl ⟨Nat.le_of_ble_eq_true rfl, Nat.le_of_ble_eq_true rfl⟩ ⟨Nat.zero_le _, Nat.zero_le _⟩ (rest := ([] : List Value)) rfl (Nat.le_of_ble_eq_true rfl) ?_
    refine bv_blk C frk_X4 csk_X4 2 12 rfl (L1 := ([(2, .int (16)), (1, .int (nI m9 - 640)), (0, .float s)] : Lc)) (st1 := ([.int (Op.cmpValue (FP.fcmp (powF ((nI m9 - 640) + (16))) s) .g)] : List Value)) (w1 := w) (by rfl) ?_
    refine bv_if_gt (j := 17) C rfl rfl (fun c11 => ?_) (fun c11 => ?_)
    · refine bv_blk C frk_X4 csk_X4 4 21 rfl (L1 := ([(2, .int (((16) : Int32) >>> ((1) &&& 31))), (1, .int (nI m9 - 640)), (0, .float s)] : Lc)) (st1 := ([] : List Value)) (w1 := w) (by rfl) ?_
      refine bv_goto (j := 4) C rfl rfl ?_
      rw [show (((16) : Int32) >>> ((1) &&& 31)) = (8) from by decide]
      refine bv_sub [0, 1, 2] (by rfl) ?_
      refine lp4 m9 (by omega) ?_
      exact (congrArg (lvC s 4) (if_pos c11)).symm.trans heq
    · refine bv_blk C frk_X4 csk_X4 8 21 rfl (L1 := ([(2, .int (((16) : Int32) >>> ((1) &&& 31))), (1, .int ((nI m9 - 640) + (16))), (0, .float s)] : Lc)) (st1 := ([] : List Value)) (w1 := w) (by rfl) ?_
      refine bv_goto (j := 4) C rfl rfl ?_
      rw [show (((16) : Int32) >>> ((1) &&& 31)) = (8) from by decide]
      rw [show ((nI m9 - 640) + (16)) = nI (m9 + 16) - 640 from sub640 m9 16]
      refine bv_sub [0, 1, 2] (by rfl) ?_
      refine lp4 (m9 + 16) (by omega) ?_
      rw [← sub640 m9 16]
      exact (congrArg (lvC s 4) (if_neg c11)).symm.trans heq
  have lp6 : ∀ (m9 : Nat), m9 + 64 ≤ 1024 → lvC s 6 (nI m9 - 640) = lvC s 10 (-640) → bV p l e (bR 2) s0 m args below meth c D cA sh (adA ad N) 3 tb_X4_levelOf (MQ below (bQ D cA ad sh N (fun r w1 => r = (some (.int (lvC s 10 (-640)))) ∧ w1 = w)) args s0 0 0 (adA ad N)) ad N 0 0 w 4 ([(2, .int (32)), (1, .int (nI m9 - 640)), (0, .float s)] : Lc) ([] : List Value) := by
    intro m9 hm9 heq
    refine bv_blk C frk_X4 csk_X4 1 5 rfl (L1 := ([(2, .int (32)), (1, .int (nI m9 - 640)), (0, .float s)] : Lc)) (st1 := ([.int (32)] : List Value)) (w1 := w) (by rfl) ?_
    refine bv_if_le (j := 22) C rfl rfl (fun h => absurd h (by decide)) (fun _ => ?_)
    refine bv_blk C frk_X4 csk_X4 3 9 rfl (L1 := ([(2, .int (32)), (1, .int (nI m9 - 640)), (0, .float s)] : Lc)) (st1 := ([.int ((nI m9 - 640) + (32))] : List Value)) (w1 := w) (by rfl) ?_
    refine bv_fS1 C rfl (cs_powerOf hE _ ((nI m9 - 640) + (32)) (qk640 m9 32 (by omega))) ml_X4_33 st_X4_powerOf ini_X4 cd_X4_powerOf ok_X4_powerOf rfl ⟨Nat.le_of_ble_eq_true rfl, Nat.le_of_ble_eq_true rfl⟩ ⟨Nat.zero_le _, Nat.zero_le _⟩ (rest := ([] : List Value)) rfl (Nat.le_of_ble_eq_true rfl) ?_
    refine bv_blk C frk_X4 csk_X4 2 12 rfl (L1 := ([(2, .int (32)), (1, .int (nI m9 - 640)), (0, .float s)] : Lc)) (st1 := ([.int (Op.cmpValue (FP.fcmp (powF ((nI m9 - 640) + (32))) s) .g)] : List Value)) (w1 := w) (by rfl) ?_
    refine bv_if_gt (j := 17) C rfl rfl (fun c13 => ?_) (fun c13 => ?_)
    · refine bv_blk C frk_X4 csk_X4 4 21 rfl (L1 := ([(2, .int (((32) : Int32) >>> ((1) &&& 31))), (1, .int (nI m9 - 640)), (0, .float s)] : Lc)) (st1 := ([] : List Value)) (w1 := w) (by rfl) ?_
      refine bv_goto (j := 4) C rfl rfl ?_
      rw [show (((32) : Int32) >>> ((1) &&& 31)) = (16) from by decide]
      refine bv_sub [0, 1, 2] (by rfl) ?_
      refine lp5 m9 (by omega) ?_
      exact (congrArg (lvC s 5) (if_pos c13)).symm.trans heq
    · refine bv_blk C frk_X4 csk_X4 8 21 rfl (L1 := ([(2, .int (((32) : Int32) >>> ((1) &&& 31))), (1, .int ((nI m9 - 640) + (32))), (0, .float s)] : Lc)) (st1 := ([] : List Value)) (w1 := w) (by rfl) ?_
      refine bv_goto (j := 4) C rfl rfl ?_
      rw [show (((32) : Int32) >>> ((1) &&& 31)) = (16) from by decide]
      rw [show ((nI m9 - 640) + (32)) = nI (m9 + 32) - 640 from sub640 m9 32]
      refine bv_sub [0, 1, 2] (by rfl) ?_
      refine lp5 (m9 + 32) (by omega) ?_
      rw [← sub640 m9 32]
      exact (congrArg (lvC s 5) (if_neg c13)).symm.trans heq
  have lp7 : ∀ (m9 : Nat), m9 + 128 ≤ 1024 → lvC s 7 (nI m9 - 640) = lvC s 10 (-640) → bV p l e (bR 2) s0 m args below meth c D cA sh (adA ad N) 3 tb_X4_levelOf (MQ below (bQ D cA ad sh N (fun r w1 => r = (some (.int (lvC s 10 (-640)))) ∧ w1 = w)) args s0 0 0 (adA ad N)) ad N 0 0 w 4 ([(2, .int (64)), (1, .int (nI m9 - 640)), (0, .float s)] : Lc) ([] : List Value) := by
    intro m9 hm9 heq
    refine bv_blk C frk_X4 csk_X4 1 5 rfl (L1 := ([(2, .int (64)), (1, .int (nI m9 - 640)), (0, .float s)] : Lc)) (st1 := ([.int (64)] : List Value)) (w1 := w) (by rfl) ?_
    refine bv_if_le (j := 22) C rfl rfl (fun h => absurd h (by decide)) (fun _ => ?_)
    refine bv_blk C frk_X4 csk_X4 3 9 rfl (L1 := ([(2, .int (64)), (1, .int (nI m9 - 640)), (0, .float s)] : Lc)) (st1 := ([.int ((nI m9 - 640) + (64))] : List Value)) (w1 := w) (by rfl) ?_
    refine bv_fS1 C rfl (cs_powerOf hE _ ((nI m9 - 640) + (64)) (qk640 m9 64 (by omega))) ml_X4_33 st_X4_powerOf ini_X4 cd_X4_powerOf ok_X4_powerOf rfl ⟨Nat.le_of_ble_eq_true rfl, Nat.le_of_ble_eq_true rfl⟩ ⟨Nat.zero_le _, Nat.zero_le _⟩ (rest := ([] : List Value)) rfl (Nat.le_of_ble_eq_true rfl) ?_
    refine bv_blk C frk_X4 csk_X4 2 12 rfl (L1 := ([(2, .int (64)), (1, .int (nI m9 - 640)), (0, .float s)] : Lc)) (st1 := ([.int (Op.cmpValue (FP.fcmp (powF ((nI m9 - 640) + (64))) s) .g)] : List Value)) (w1 := w) (by rfl) ?_
    refine bv_if_gt (j := 17) C rfl rfl (fun c15 => ?_) (fun c15 => ?_)
    · refine bv_blk C frk_X4 csk_X4 4 21 rfl (L1 := ([(2, .int (((64) : Int32) >>> ((1) &&& 31))), (1, .int (nI m9 - 640)), (0, .float s)] : Lc)) (st1 := ([] : List Value)) (w1 := w) (by rfl) ?_
      refine bv_goto (j := 4) C rfl rfl ?_
      rw [show (((64) : Int32) >>> ((1) &&& 31)) = (32) from by decide]
      refine bv_sub [0, 1, 2] (by rfl) ?_
      refine lp6 m9 (by omega) ?_
      exact (congrArg (lvC s 6) (if_pos c15)).symm.trans heq
    · refine bv_blk C frk_X4 csk_X4 8 21 rfl (L1 := ([(2, .int (((64) : Int32) >>> ((1) &&& 31))), (1, .int ((nI m9 - 640) + (64))), (0, .float s)] : Lc)) (st1 := ([] : List Value)) (w1 := w) (by rfl) ?_
      refine bv_goto (j := 4) C rfl rfl ?_
      rw [show (((64) : Int32) >>> ((1) &&& 31)) = (32) from by decide]
      rw [show ((nI m9 - 640) + (64)) = nI (m9 + 64) - 640 from sub640 m9 64]
      refine bv_sub [0, 1, 2] (by rfl) ?_
      refine lp6 (m9 + 64) (by omega) ?_
      rw [← sub640 m9 64]
      exact (congrArg (lvC s 6) (if_neg c15)).symm.trans heq
  have lp8 : ∀ (m9 : Nat), m9 + 256 ≤ 1024 → lvC s 8 (nI m9 - 640) = lvC s 10 (-640) → bV p l e (bR 2) s0 m args below meth c D cA sh (adA ad N) 3 tb_X4_levelOf (MQ below (bQ D cA ad sh N (fun r w1 => r = (some (.int (lvC s 10 (-640)))) ∧ w1 = w)) args s0 0 0 (adA ad N)) ad N 0 0 w 4 ([(2, .int (128)), (1, .int (nI m9 - 640)), (0, .float s)] : Lc) ([] : List Value) := by
    intro m9 hm9 heq
    refine bv_blk C frk_X4 csk_X4 1 5 rfl (L1 := ([(2, .int (128)), (1, .int (nI m9 - 640)), (0, .float s)] : Lc)) (st1 := ([.int (128)] : List Value)) (w1 := w) (by rfl) ?_
    refine bv_if_le (j := 22) C rfl rfl (fun h => absurd h (by decide)) (fun _ => ?_)
    refine bv_blk C frk_X4 csk_X4 3 9 rfl (L1 := ([(2, .int (128)), (1, .int (nI m9 - 640)), (0, .float s)] : Lc)) (st1 := ([.int ((nI m9 - 640) + (128))] : List Value)) (w1 := w) (by rfl) ?_
    refine bv_fS1 C rfl (cs_powerOf hE _ ((nI m9 - 640) + (128)) (qk640 m9 128 (by omega))) ml_X4_33 st_X4_powerOf ini_X4 cd_X4_powerOf ok_X4_powerOf rfl ⟨Nat.le_of_ble_eq_true rfl, Nat.le_of_ble_eq_true rfl⟩ ⟨Nat.zero_le _, Nat.zero_le _⟩ (rest := ([] : List Value)) rfl (Nat.le_of_ble_eq_true rfl) ?_
    refine bv_blk C frk_X4 csk_X4 2 12 rfl (L1 := ([(2, .int (128)), (1, .int (nI m9 - 640)), (0, .float s)] : Lc)) (st1 := ([.int (Op.cmpValue (FP.fcmp (powF ((nI m9 - 640) + (128))) s) .g)] : List Value)) (w1 := w) (by rfl) ?_
    refine bv_if_gt (j := 17) C rfl rfl (fun c17 => ?_) (fun c17 => ?_)
    · refine bv_blk C frk_X4 csk_X4 4 21 rfl (L1 := ([(2, .int (((128) : Int32) >>> ((1) &&& 31))), (1, .int (nI m9 - 640)), (0, .float s)] : Lc)) (st1 := ([] : List Value)) (w1 := w) (by rfl) ?_
      refine bv_goto (j := 4) C rfl rfl ?_
      rw [show (((128) : Int32) >>> ((1) &&& 31)) = (64) from by decide]
      refine bv_sub [0, 1, 2] (by rfl) ?_
      refine lp7 m9 (by omega) ?_
      exact (congrArg (lvC s 7) (if_pos c17)).symm.trans heq
    · refine bv_blk C frk_X4 csk_X4 8 21 rfl (L1 := ([(2, .int (((128) : Int32) >>> ((1) &&& 31))), (1, .int ((nI m9 - 640) + (128))), (0, .float s)] : Lc)) (st1 := ([] : List Value)) (w1 := w) (by rfl) ?_
      refine bv_goto (j := 4) C rfl rfl ?_
      rw [show (((128) : Int32) >>> ((1) &&& 31)) = (64) from by decide]
      rw [show ((nI m9 - 640) + (128)) = nI (m9 + 128) - 640 from sub640 m9 128]
      refine bv_sub [0, 1, 2] (by rfl) ?_
      refine lp7 (m9 + 128) (by omega) ?_
      rw [← sub640 m9 128]
      exact (congrArg (lvC s 7) (if_neg c17)).symm.trans heq
  have lp9 : ∀ (m9 : Nat), m9 + 512 ≤ 1024 → lvC s 9 (nI m9 - 640) = lvC s 10 (-640) → bV p l e (bR 2) s0 m args below meth c D cA sh (adA ad N) 3 tb_X4_levelOf (MQ below (bQ D cA ad sh N (fun r w1 => r = (some (.int (lvC s 10 (-640)))) ∧ w1 = w)) args s0 0 0 (adA ad N)) ad N 0 0 w 4 ([(2, .int (256)), (1, .int (nI m9 - 640)), (0, .float s)] : Lc) ([] : List Value) := by
    intro m9 hm9 heq
    refine bv_blk C frk_X4 csk_X4 1 5 rfl (L1 := ([(2, .int (256)), (1, .int (nI m9 - 640)), (0, .float s)] : Lc)) (st1 := ([.int (256)] : List Value)) (w1 := w) (by rfl) ?_
    refine bv_if_le (j := 22) C rfl rfl (fun h => absurd h (by decide)) (fun _ => ?_)
    refine bv_blk C frk_X4 csk_X4 3 9 rfl (L1 := ([(2, .int (256)), (1, .int (nI m9 - 640)), (0, .float s)] : Lc)) (st1 := ([.int ((nI m9 - 640) + (256))] : List Value)) (w1 := w) (by rfl) ?_
    refine bv_fS1 C rfl (cs_powerOf hE _ ((nI m9 - 640) + (256)) (qk640 m9 256 (by omega))) ml_X4_33 st_X4_powerOf ini_X4 cd_X4_powerOf ok_X4_powerOf rfl ⟨Nat.le_of_ble_eq_true rfl, Nat.le_of_ble_eq_true rfl⟩ ⟨Nat.zero_le _, Nat.zero_le _⟩ (rest := ([] : List Value)) rfl (Nat.le_of_ble_eq_true rfl) ?_
    refine bv_blk C frk_X4 csk_X4 2 12 rfl (L1 := ([(2, .int (256)), (1, .int (nI m9 - 640)), (0, .float s)] : Lc)) (st1 := ([.int (Op.cmpValue (FP.fcmp (powF ((nI m9 - 640) + (256))) s) .g)] : List Value)) (w1 := w) (by rfl) ?_
    refine bv_if_gt (j := 17) C rfl rfl (fun c19 => ?_) (fun c19 => ?_)
    · refine bv_blk C frk_X4 csk_X4 4 21 rfl (L1 := ([(2, .int (((256) : Int32) >>> ((1) &&& 31))), (1, .int (nI m9 - 640)), (0, .float s)] : Lc)) (st1 := ([] : List Value)) (w1 := w) (by rfl) ?_
      refine bv_goto (j := 4) C rfl rfl ?_
      rw [show (((256) : Int32) >>> ((1) &&& 31)) = (128) from by decide]
      refine bv_sub [0, 1, 2] (by rfl) ?_
      refine lp8 m9 (by omega) ?_
      exact (congrArg (lvC s 8) (if_pos c19)).symm.trans heq
    · refine bv_blk C frk_X4 csk_X4 8 21 rfl (L1 := ([(2, .int (((256) : Int32) >>> ((1) &&& 31))), (1, .int ((nI m9 - 640) + (256))), (0, .float s)] : Lc)) (st1 := ([] : List Value)) (w1 := w) (by rfl) ?_
      refine bv_goto (j := 4) C rfl rfl ?_
      rw [show (((256) : Int32) >>> ((1) &&& 31)) = (128) from by decide]
      rw [show ((nI m9 - 640) + (256)) = nI (m9 + 256) - 640 from sub640 m9 256]
      refine bv_sub [0, 1, 2] (by rfl) ?_
      refine lp8 (m9 + 256) (by omega) ?_
      rw [← sub640 m9 256]
      exact (congrArg (lvC s 8) (if_neg c19)).symm.trans heq
  have lp10 : ∀ (m9 : Nat), m9 + 1024 ≤ 1024 → lvC s 10 (nI m9 - 640) = lvC s 10 (-640) → bV p l e (bR 2) s0 m args below meth c D cA sh (adA ad N) 3 tb_X4_levelOf (MQ below (bQ D cA ad sh N (fun r w1 => r = (some (.int (lvC s 10 (-640)))) ∧ w1 = w)) args s0 0 0 (adA ad N)) ad N 0 0 w 4 ([(2, .int (512)), (1, .int (nI m9 - 640)), (0, .float s)] : Lc) ([] : List Value) := by
    intro m9 hm9 heq
    refine bv_blk C frk_X4 csk_X4 1 5 rfl (L1 := ([(2, .int (512)), (1, .int (nI m9 - 640)), (0, .float s)] : Lc)) (st1 := ([.int (512)] : List Value)) (w1 := w) (by rfl) ?_
    refine bv_if_le (j := 22) C rfl rfl (fun h => absurd h (by decide)) (fun _ => ?_)
    refine bv_blk C frk_X4 csk_X4 3 9 rfl (L1 := ([(2, .int (512)), (1, .int (nI m9 - 640)), (0, .float s)] : Lc)) (st1 := ([.int ((nI m9 - 640) + (512))] : List Value)) (w1 := w) (by rfl) ?_
    refine bv_fS1 C rfl (cs_powerOf hE _ ((nI m9 - 640) + (512)) (qk640 m9 512 (by omega))) ml_X4_33 st_X4_powerOf ini_X4 cd_X4_powerOf ok_X4_powerOf rfl ⟨Nat.le_of_ble_eq_true rfl, Nat.le_of_ble_eq_true rfl⟩ ⟨Nat.zero_le _, Nat.zero_le _⟩ (rest := ([] : List Value)) rfl (Nat.le_of_ble_eq_true rfl) ?_
    refine bv_blk C frk_X4 csk_X4 2 12 rfl (L1 := ([(2, .int (512)), (1, .int (nI m9 - 640)), (0, .float s)] : Lc)) (st1 := ([.int (Op.cmpValue (FP.fcmp (powF ((nI m9 - 640) + (512))) s) .g)] : List Value)) (w1 := w) (by rfl) ?_
    refine bv_if_gt (j := 17) C rfl rfl (fun c21 => ?_) (fun c21 => ?_)
    · refine bv_blk C frk_X4 csk_X4 4 21 rfl (L1 := ([(2, .int (((512) : Int32) >>> ((1) &&& 31))), (1, .int (nI m9 - 640)), (0, .float s)] : Lc)) (st1 := ([] : List Value)) (w1 := w) (by rfl) ?_
      refine bv_goto (j := 4) C rfl rfl ?_
      rw [show (((512) : Int32) >>> ((1) &&& 31)) = (256) from by decide]
      refine bv_sub [0, 1, 2] (by rfl) ?_
      refine lp9 m9 (by omega) ?_
      exact (congrArg (lvC s 9) (if_pos c21)).symm.trans heq
    · refine bv_blk C frk_X4 csk_X4 8 21 rfl (L1 := ([(2, .int (((512) : Int32) >>> ((1) &&& 31))), (1, .int ((nI m9 - 640) + (512))), (0, .float s)] : Lc)) (st1 := ([] : List Value)) (w1 := w) (by rfl) ?_
      refine bv_goto (j := 4) C rfl rfl ?_
      rw [show (((512) : Int32) >>> ((1) &&& 31)) = (256) from by decide]
      rw [show ((nI m9 - 640) + (512)) = nI (m9 + 512) - 640 from sub640 m9 512]
      refine bv_sub [0, 1, 2] (by rfl) ?_
      refine lp9 (m9 + 512) (by omega) ?_
      rw [← sub640 m9 512]
      exact (congrArg (lvC s 9) (if_neg c21)).symm.trans heq
  exact lp10 0 (by omega) rfl
set_option maxRecDepth 100000 in
set_option maxHeartbeats 8000000 in
theorem cs_received0 {l : Launch} {D : va_G} {cA : FieldType → ClassId} {z0 : Nat} {SK : Nat → Nat} {SV : Nat → Int32} {ad : Nat → Nat} (hE : aD (fun q => z0 ≤ q) ad 26) (g : Nat → Nat → Int32) (σ τ : Nat → Nat) (hσ : pmK σ τ) (n : Nat) (b0 b1 : Int32) (hs : statR g n) : bF l D cA z0 SK SV ad shB 26 yX6_received cX6_received 12 (some .float) 2 [.ref 0, .int (0), .int b0, .int b1] (layB g σ τ) (some (.float (recG g 0 b0 b1 n))) (layB g σ τ) := by
  refine bCT_intro (tb := tb_X6_received) (own := RX6) hE pn_X6 rfl tk_X6_received rfl (Nat.le_of_ble_eq_true rfl) ?_
  intro p e s0 m args below meth c C hr
  have hn8 := hs.2.1
  have hk := okQ_of hs 0 (by omega) b0 b1
  refine bv_blk C frk_X6 csk_X6 2 2 rfl (L1 := ([(0, .ref 0), (1, .int (0)), (2, .int b0), (3, .int b1)] : Lc)) (st1 := ([.int (0), .ref 0] : List Value)) (w1 := (layB g σ τ)) (by rfl) ?_
  refine bv_fV1 C rfl (cs_station0 hE g σ τ hσ) ml_X6_107 im_X6_station sel_X6_station ini_X6 cd_X6_station ok_X6_station rfl ⟨Nat.le_of_ble_eq_true rfl, Nat.le_of_ble_eq_true rfl⟩ ⟨Nat.zero_le _, Nat.zero_le _⟩ (by decide) rfl rfl rfl (rest := ([] : List Value)) rfl (Nat.le_of_ble_eq_true rfl) ?_
  refine bv_blk C frk_X6 csk_X6 5 8 rfl (L1 := ([(4, .int (g 1 17)), (0, .ref 0), (1, .int (0)), (2, .int b0), (3, .int b1)] : Lc)) (st1 := ([.int b0, .ref 1] : List Value)) (w1 := (layB g σ τ)) (by rfl) ?_
  refine bv_fV1 C rfl (cs_pointing_1 hE g σ τ hσ b0) ml_X6_139 im_X7_pointing sel_X7_pointing ini_X7 cd_X7_pointing ok_X7_pointing rfl ⟨Nat.le_of_ble_eq_true rfl, Nat.le_of_ble_eq_true rfl⟩ ⟨Nat.zero_le _, Nat.zero_le _⟩ (by decide) rfl rfl rfl (rest := ([] : List Value)) rfl (Nat.le_of_ble_eq_true rfl) ?_
  refine bv_blk C frk_X6 csk_X6 4 13 rfl (L1 := ([(5, .int (ptC (g 1 15) (g 1 16) b0)), (4, .int (g 1 17)), (0, .ref 0), (1, .int (0)), (2, .int b0), (3, .int b1)] : Lc)) (st1 := ([.int b1, .ref 3] : List Value)) (w1 := (layB g σ τ)) (by rfl) ?_
  refine bv_fV1 C rfl (cs_pointing_3 hE g σ τ hσ b1) ml_X6_139 im_X7_pointing sel_X7_pointing ini_X7 cd_X7_pointing ok_X7_pointing rfl ⟨Nat.le_of_ble_eq_true rfl, Nat.le_of_ble_eq_true rfl⟩ ⟨Nat.zero_le _, Nat.zero_le _⟩ (by decide) rfl rfl rfl (rest := ([] : List Value)) rfl (Nat.le_of_ble_eq_true rfl) ?_
  refine bv_blk C frk_X6 csk_X6 1 15 rfl (L1 := ([(6, .int (ptC (g 1 35) (g 1 36) b1)), (5, .int (ptC (g 1 15) (g 1 16) b0)), (4, .int (g 1 17)), (0, .ref 0), (1, .int (0)), (2, .int b0), (3, .int b1)] : Lc)) (st1 := ([] : List Value)) (w1 := (layB g σ τ)) (by rfl) ?_
  refine bv_fconst0 C rfl ?_
  refine bv_blk C frk_X6 csk_X6 3 19 rfl (L1 := ([(8, .int (0)), (7, .float FP.fconst0), (6, .int (ptC (g 1 35) (g 1 36) b1)), (5, .int (ptC (g 1 15) (g 1 16) b0)), (4, .int (g 1 17)), (0, .ref 0), (1, .int (0)), (2, .int b0), (3, .int b1)] : Lc)) (st1 := ([] : List Value)) (w1 := (layB g σ τ)) (by rfl) ?_
  have lp_a : ∀ (n_a k_a : Nat), 0 ≤ k_a → k_a + n_a = n → bV p l e (bR 2) s0 m args below meth c D cA shB (adA ad 26) 12 tb_X6_received (MQ below (bQ D cA ad shB 26 (fun r w1 => r = (some (.float (recG g 0 b0 b1 n))) ∧ w1 = (layB g σ τ))) args s0 0 0 (adA ad 26)) ad 26 0 0 (layB g σ τ) 19 ([(8, .int (nI k_a)), (0, .ref 0), (1, .int (0)), (2, .int b0), (3, .int b1), (4, .int (g 1 17)), (5, .int (ptC (g 1 15) (g 1 16) b0)), (6, .int (ptC (g 1 35) (g 1 36) b1)), (7, .float (recG g 0 b0 b1 k_a))] : Lc) ([] : List Value) := by
    intro n_a
    induction n_a with
    | zero =>
      intro k_a hs_a hk_a
      have hkB_a : k_a = n := by omega
      rw [hkB_a]
      refine bv_blk C frk_X6 csk_X6 3 22 rfl (L1 := ([(8, .int (nI n)), (0, .ref 0), (1, .int (0)), (2, .int b0), (3, .int b1), (4, .int (g 1 17)), (5, .int (ptC (g 1 15) (g 1 16) b0)), (6, .int (ptC (g 1 35) (g 1 36) b1)), (7, .float (recG g 0 b0 b1 n))] : Lc)) (st1 := ([.int (g 1 12), .int (nI n)] : List Value)) (w1 := (layB g σ τ)) (by rfl) ?_
      refine bv_icmp_ge (j := 66) C rfl rfl (fun _ => ?_) (fun h => absurd (by rw [show (g 1 12) = nI n from hs.1]; exact (nI_le (a := n) (b := n) (by omega) (by omega))) h)
      refine bv_blk C frk_X6 csk_X6 1 67 rfl (L1 := ([(8, .int (nI n)), (0, .ref 0), (1, .int (0)), (2, .int b0), (3, .int b1), (4, .int (g 1 17)), (5, .int (ptC (g 1 15) (g 1 16) b0)), (6, .int (ptC (g 1 35) (g 1 36) b1)), (7, .float (recG g 0 b0 b1 n))] : Lc)) (st1 := ([.float (recG g 0 b0 b1 n)] : List Value)) (w1 := (layB g σ τ)) (by rfl) ?_
      exact bv_fret C rfl hr ⟨by (rfl), by (rfl)⟩
    | succ n_a ih =>
      intro k_a hs_a hk_a
      refine bv_blk C frk_X6 csk_X6 3 22 rfl (L1 := ([(8, .int (nI k_a)), (0, .ref 0), (1, .int (0)), (2, .int b0), (3, .int b1), (4, .int (g 1 17)), (5, .int (ptC (g 1 15) (g 1 16) b0)), (6, .int (ptC (g 1 35) (g 1 36) b1)), (7, .float (recG g 0 b0 b1 k_a))] : Lc)) (st1 := ([.int (g 1 12), .int (nI k_a)] : List Value)) (w1 := (layB g σ τ)) (by rfl) ?_
      refine bv_icmp_ge (j := 66) C rfl rfl (fun h => absurd h (by rw [show (g 1 12) = nI n from hs.1]; exact (nI_ge (a := k_a) (b := n) (by omega) (by omega)))) (fun _ => ?_)
      refine bv_blk C frk_X6 csk_X6 2 25 rfl (L1 := ([(8, .int (nI k_a)), (0, .ref 0), (1, .int (0)), (2, .int b0), (3, .int b1), (4, .int (g 1 17)), (5, .int (ptC (g 1 15) (g 1 16) b0)), (6, .int (ptC (g 1 35) (g 1 36) b1)), (7, .float (recG g 0 b0 b1 k_a))] : Lc)) (st1 := ([.int (8), .int (nI k_a)] : List Value)) (w1 := (layB g σ τ)) (by rfl) ?_
      refine bv_icmp_ge (j := 66) C rfl rfl (fun h => absurd h (nI_ge (a := k_a) (b := 8) (by omega) (by omega))) (fun _ => ?_)
      refine bv_blk C frk_X6 csk_X6 3 29 rfl (L1 := ([(8, .int (nI k_a)), (0, .ref 0), (1, .int (0)), (2, .int b0), (3, .int b1), (4, .int (g 1 17)), (5, .int (ptC (g 1 15) (g 1 16) b0)), (6, .int (ptC (g 1 35) (g 1 36) b1)), (7, .float (recG g 0 b0 b1 k_a))] : Lc)) (st1 := ([.int (nI k_a), .ref 5] : List Value)) (w1 := (layB g σ τ)) (by rfl) ?_
      refine bv_aaldPath (y := 6 + σ k_a) C rfl rfl (by decide) (j := k_a) (by exact rfl) (by first | decide | omega) (by decide) (by rfl) ?_
      refine bv_blk C frk_X6 csk_X6 6 36 rfl (L1 := ([(9, .ref (6 + σ k_a)), (8, .int (nI k_a)), (0, .ref 0), (1, .int (0)), (2, .int b0), (3, .int b1), (4, .int (g 1 17)), (5, .int (ptC (g 1 15) (g 1 16) b0)), (6, .int (ptC (g 1 35) (g 1 36) b1)), (7, .float (recG g 0 b0 b1 k_a))] : Lc)) (st1 := ([.ref (6 + σ k_a), .int (ptC (g 1 15) (g 1 16) b0), .int b0, .ref 1] : List Value)) (w1 := (layB g σ τ)) (by rfl) ?_
      refine bv_getP (q := k_a) (k := 0) C rfl fl_X6_114 (by decide) hσ (show k_a < 8 by first | decide | omega) ?_
      refine bv_fS1 C rfl (cs_angle hE _ (ptC (g 1 15) (g 1 16) b0) (g 1 (55 + 6 * k_a + 0))) ml_X6_143 st_X4_angle ini_X4 cd_X4_angle ok_X4_angle rfl ⟨Nat.le_of_ble_eq_true rfl, Nat.le_of_ble_eq_true rfl⟩ ⟨Nat.zero_le _, Nat.zero_le _⟩ (rest := ([.int b0, .ref 1] : List Value)) rfl (Nat.le_of_ble_eq_true rfl) ?_
      refine bv_fV1 C rfl (cs_gainAt_1 hE g σ τ hσ b0 (agC (ptC (g 1 15) (g 1 16) b0) (g 1 (55 + 6 * k_a + 0)))) ml_X6_149 im_X7_gainAt sel_X7_gainAt ini_X7 cd_X7_gainAt ok_X7_gainAt rfl ⟨Nat.le_of_ble_eq_true rfl, Nat.le_of_ble_eq_true rfl⟩ ⟨Nat.zero_le _, Nat.zero_le _⟩ (by decide) rfl rfl rfl (rest := ([] : List Value)) rfl (Nat.le_of_ble_eq_true rfl) ?_
      refine bv_blk C frk_X6 csk_X6 6 45 rfl (L1 := ([(10, .int (gnC (g 1 15) b0 (agC (ptC (g 1 15) (g 1 16) b0) (g 1 (55 + 6 * k_a + 0))))), (9, .ref (6 + σ k_a)), (8, .int (nI k_a)), (0, .ref 0), (1, .int (0)), (2, .int b0), (3, .int b1), (4, .int (g 1 17)), (5, .int (ptC (g 1 15) (g 1 16) b0)), (6, .int (ptC (g 1 35) (g 1 36) b1)), (7, .float (recG g 0 b0 b1 k_a))] : Lc)) (st1 := ([.ref (6 + σ k_a), .int (ptC (g 1 35) (g 1 36) b1), .int b1, .ref 3] : List Value)) (w1 := (layB g σ τ)) (by rfl) ?_
      refine bv_getP (q := k_a) (k := 1) C rfl fl_X6_117 (by decide) hσ (show k_a < 8 by first | decide | omega) ?_
      refine bv_fS1 C rfl (cs_angle hE _ (ptC (g 1 35) (g 1 36) b1) (g 1 (55 + 6 * k_a + 1))) ml_X6_143 st_X4_angle ini_X4 cd_X4_angle ok_X4_angle rfl ⟨Nat.le_of_ble_eq_true rfl, Nat.le_of_ble_eq_true rfl⟩ ⟨Nat.zero_le _, Nat.zero_le _⟩ (rest := ([.int b1, .ref 3] : List Value)) rfl (Nat.le_of_ble_eq_true rfl) ?_
      refine bv_fV1 C rfl (cs_gainAt_3 hE g σ τ hσ b1 (agC (ptC (g 1 35) (g 1 36) b1) (g 1 (55 + 6 * k_a + 1)))) ml_X6_149 im_X7_gainAt sel_X7_gainAt ini_X7 cd_X7_gainAt ok_X7_gainAt rfl ⟨Nat.le_of_ble_eq_true rfl, Nat.le_of_ble_eq_true rfl⟩ ⟨Nat.zero_le _, Nat.zero_le _⟩ (by decide) rfl rfl rfl (rest := ([] : List Value)) rfl (Nat.le_of_ble_eq_true rfl) ?_
      refine bv_blk C frk_X6 csk_X6 8 56 rfl (L1 := ([(11, .int (gnC (g 1 35) b1 (agC (ptC (g 1 35) (g 1 36) b1) (g 1 (55 + 6 * k_a + 1))))), (10, .int (gnC (g 1 15) b0 (agC (ptC (g 1 15) (g 1 16) b0) (g 1 (55 + 6 * k_a + 0))))), (9, .ref (6 + σ k_a)), (8, .int (nI k_a)), (0, .ref 0), (1, .int (0)), (2, .int b0), (3, .int b1), (4, .int (g 1 17)), (5, .int (ptC (g 1 15) (g 1 16) b0)), (6, .int (ptC (g 1 35) (g 1 36) b1)), (7, .float (recG g 0 b0 b1 k_a))] : Lc)) (st1 := ([.ref (6 + σ k_a), .int (((g 1 17) + (gnC (g 1 15) b0 (agC (ptC (g 1 15) (g 1 16) b0) (g 1 (55 + 6 * k_a + 0))))) + (gnC (g 1 35) b1 (agC (ptC (g 1 35) (g 1 36) b1) (g 1 (55 + 6 * k_a + 1))))), .float (recG g 0 b0 b1 k_a)] : List Value)) (w1 := (layB g σ τ)) (by rfl) ?_
      refine bv_getP (q := k_a) (k := 2) C rfl fl_X6_120 (by decide) hσ (show k_a < 8 by first | decide | omega) ?_
      refine bv_blk C frk_X6 csk_X6 2 59 rfl (L1 := ([(11, .int (gnC (g 1 35) b1 (agC (ptC (g 1 35) (g 1 36) b1) (g 1 (55 + 6 * k_a + 1))))), (10, .int (gnC (g 1 15) b0 (agC (ptC (g 1 15) (g 1 16) b0) (g 1 (55 + 6 * k_a + 0))))), (9, .ref (6 + σ k_a)), (8, .int (nI k_a)), (0, .ref 0), (1, .int (0)), (2, .int b0), (3, .int b1), (4, .int (g 1 17)), (5, .int (ptC (g 1 15) (g 1 16) b0)), (6, .int (ptC (g 1 35) (g 1 36) b1)), (7, .float (recG g 0 b0 b1 k_a))] : Lc)) (st1 := ([.ref (6 + σ k_a), .int ((((g 1 17) + (gnC (g 1 15) b0 (agC (ptC (g 1 15) (g 1 16) b0) (g 1 (55 + 6 * k_a + 0))))) + (gnC (g 1 35) b1 (agC (ptC (g 1 35) (g 1 36) b1) (g 1 (55 + 6 * k_a + 1))))) - (g 1 (55 + 6 * k_a + 2))), .float (recG g 0 b0 b1 k_a)] : List Value)) (w1 := (layB g σ τ)) (by rfl) ?_
      refine bv_getP (q := k_a) (k := 3) C rfl fl_X6_123 (by decide) hσ (show k_a < 8 by first | decide | omega) ?_
      refine bv_blk C frk_X6 csk_X6 1 61 rfl (L1 := ([(11, .int (gnC (g 1 35) b1 (agC (ptC (g 1 35) (g 1 36) b1) (g 1 (55 + 6 * k_a + 1))))), (10, .int (gnC (g 1 15) b0 (agC (ptC (g 1 15) (g 1 16) b0) (g 1 (55 + 6 * k_a + 0))))), (9, .ref (6 + σ k_a)), (8, .int (nI k_a)), (0, .ref 0), (1, .int (0)), (2, .int b0), (3, .int b1), (4, .int (g 1 17)), (5, .int (ptC (g 1 15) (g 1 16) b0)), (6, .int (ptC (g 1 35) (g 1 36) b1)), (7, .float (recG g 0 b0 b1 k_a))] : Lc)) (st1 := ([.int (((((g 1 17) + (gnC (g 1 15) b0 (agC (ptC (g 1 15) (g 1 16) b0) (g 1 (55 + 6 * k_a + 0))))) + (gnC (g 1 35) b1 (agC (ptC (g 1 35) (g 1 36) b1) (g 1 (55 + 6 * k_a + 1))))) - (g 1 (55 + 6 * k_a + 2))) - (g 1 (55 + 6 * k_a + 3))), .float (recG g 0 b0 b1 k_a)] : List Value)) (w1 := (layB g σ τ)) (by rfl) ?_
      rw [show (((((g 1 17) + (gnC (g 1 15) b0 (agC (ptC (g 1 15) (g 1 16) b0) (g 1 (55 + 6 * k_a + 0))))) + (gnC (g 1 35) b1 (agC (ptC (g 1 35) (g 1 36) b1) (g 1 (55 + 6 * k_a + 1))))) - (g 1 (55 + 6 * k_a + 2))) - (g 1 (55 + 6 * k_a + 3))) = (levG g 0 b0 b1 k_a) from lev_C (st_p0 hs) (st_p1 hs) 0 b0 b1 k_a]
      refine bv_fS1 C rfl (cs_powerOf hE _ (levG g 0 b0 b1 k_a) (hk.2.2.2.2.1 k_a (by omega))) ml_X6_152 st_X4_powerOf ini_X4 cd_X4_powerOf ok_X4_powerOf rfl ⟨Nat.le_of_ble_eq_true rfl, Nat.le_of_ble_eq_true rfl⟩ ⟨Nat.zero_le _, Nat.zero_le _⟩ (rest := ([.float (recG g 0 b0 b1 k_a)] : List Value)) rfl (Nat.le_of_ble_eq_true rfl) ?_
      refine bv_fadd C rfl (hk.2.2.2.2.2 k_a (by omega)) ?_
      refine bv_blk C frk_X6 csk_X6 2 65 rfl (L1 := ([(8, .int ((nI k_a) + Int32.ofInt 1)), (7, .float (FP.fadd (recG g 0 b0 b1 k_a) (powF (levG g 0 b0 b1 k_a)))), (11, .int (gnC (g 1 35) b1 (agC (ptC (g 1 35) (g 1 36) b1) (g 1 (55 + 6 * k_a + 1))))), (10, .int (gnC (g 1 15) b0 (agC (ptC (g 1 15) (g 1 16) b0) (g 1 (55 + 6 * k_a + 0))))), (9, .ref (6 + σ k_a)), (0, .ref 0), (1, .int (0)), (2, .int b0), (3, .int b1), (4, .int (g 1 17)), (5, .int (ptC (g 1 15) (g 1 16) b0)), (6, .int (ptC (g 1 35) (g 1 36) b1))] : Lc)) (st1 := ([] : List Value)) (w1 := (layB g σ τ)) (by rfl) ?_
      rw [show ((nI k_a) + Int32.ofInt 1) = nI (k_a + 1) from (nIi rfl)]
      refine bv_goto (j := 19) C rfl rfl ?_
      refine bv_weq (show (layB g σ τ) = (layB g σ τ) from by rfl) ?_
      refine bv_sub [0, 5, 6, 7, 8, 9, 10, 11, 1] (by rfl) ?_
      exact ih (k_a + 1) (by omega) (by omega)
  refine bv_weq (show (layB g σ τ) = (layB g σ τ) from by rfl) ?_
  refine bv_sub [0, 5, 6, 7, 8, 4, 3, 2, 1] (by rfl) ?_
  exact lp_a (n - 0) 0 (Nat.le_refl _) (by omega)
set_option maxRecDepth 100000 in
set_option maxHeartbeats 8000000 in
theorem cs_received1 {l : Launch} {D : va_G} {cA : FieldType → ClassId} {z0 : Nat} {SK : Nat → Nat} {SV : Nat → Int32} {ad : Nat → Nat} (hE : aD (fun q => z0 ≤ q) ad 26) (g : Nat → Nat → Int32) (σ τ : Nat → Nat) (hσ : pmK σ τ) (n : Nat) (b0 b1 : Int32) (hs : statR g n) : bF l D cA z0 SK SV ad shB 26 yX6_received cX6_received 12 (some .float) 2 [.ref 0, .int (1), .int b0, .int b1] (layB g σ τ) (some (.float (recG g 1 b0 b1 n))) (layB g σ τ) := by
  refine bCT_intro (tb := tb_X6_received) (own := RX6) hE pn_X6 rfl tk_X6_received rfl (Nat.le_of_ble_eq_true rfl) ?_
  intro p e s0 m args below meth c C hr
  have hn8 := hs.2.1
  have hk := okQ_of hs 1 (by omega) b0 b1
  refine bv_blk C frk_X6 csk_X6 2 2 rfl (L1 := ([(0, .ref 0), (1, .int (1)), (2, .int b0), (3, .int b1)] : Lc)) (st1 := ([.int (1), .ref 0] : List Value)) (w1 := (layB g σ τ)) (by rfl) ?_
  refine bv_fV1 C rfl (cs_station1 hE g σ τ hσ) ml_X6_107 im_X6_station sel_X6_station ini_X6 cd_X6_station ok_X6_station rfl ⟨Nat.le_of_ble_eq_true rfl, Nat.le_of_ble_eq_true rfl⟩ ⟨Nat.zero_le _, Nat.zero_le _⟩ (by decide) rfl rfl rfl (rest := ([] : List Value)) rfl (Nat.le_of_ble_eq_true rfl) ?_
  refine bv_blk C frk_X6 csk_X6 5 8 rfl (L1 := ([(4, .int (g 1 37)), (0, .ref 0), (1, .int (1)), (2, .int b0), (3, .int b1)] : Lc)) (st1 := ([.int b0, .ref 1] : List Value)) (w1 := (layB g σ τ)) (by rfl) ?_
  refine bv_fV1 C rfl (cs_pointing_1 hE g σ τ hσ b0) ml_X6_139 im_X7_pointing sel_X7_pointing ini_X7 cd_X7_pointing ok_X7_pointing rfl ⟨Nat.le_of_ble_eq_true rfl, Nat.le_of_ble_eq_true rfl⟩ ⟨Nat.zero_le _, Nat.zero_le _⟩ (by decide) rfl rfl rfl (rest := ([] : List Value)) rfl (Nat.le_of_ble_eq_true rfl) ?_
  refine bv_blk C frk_X6 csk_X6 4 13 rfl (L1 := ([(5, .int (ptC (g 1 15) (g 1 16) b0)), (4, .int (g 1 37)), (0, .ref 0), (1, .int (1)), (2, .int b0), (3, .int b1)] : Lc)) (st1 := ([.int b1, .ref 3] : List Value)) (w1 := (layB g σ τ)) (by rfl) ?_
  refine bv_fV1 C rfl (cs_pointing_3 hE g σ τ hσ b1) ml_X6_139 im_X7_pointing sel_X7_pointing ini_X7 cd_X7_pointing ok_X7_pointing rfl ⟨Nat.le_of_ble_eq_true rfl, Nat.le_of_ble_eq_true rfl⟩ ⟨Nat.zero_le _, Nat.zero_le _⟩ (by decide) rfl rfl rfl (rest := ([] : List Value)) rfl (Nat.le_of_ble_eq_true rfl) ?_
  refine bv_blk C frk_X6 csk_X6 1 15 rfl (L1 := ([(6, .int (ptC (g 1 35) (g 1 36) b1)), (5, .int (ptC (g 1 15) (g 1 16) b0)), (4, .int (g 1 37)), (0, .ref 0), (1, .int (1)), (2, .int b0), (3, .int b1)] : Lc)) (st1 := ([] : List Value)) (w1 := (layB g σ τ)) (by rfl) ?_
  refine bv_fconst0 C rfl ?_
  refine bv_blk C frk_X6 csk_X6 3 19 rfl (L1 := ([(8, .int (0)), (7, .float FP.fconst0), (6, .int (ptC (g 1 35) (g 1 36) b1)), (5, .int (ptC (g 1 15) (g 1 16) b0)), (4, .int (g 1 37)), (0, .ref 0), (1, .int (1)), (2, .int b0), (3, .int b1)] : Lc)) (st1 := ([] : List Value)) (w1 := (layB g σ τ)) (by rfl) ?_
  have lp_a : ∀ (n_a k_a : Nat), 0 ≤ k_a → k_a + n_a = n → bV p l e (bR 2) s0 m args below meth c D cA shB (adA ad 26) 12 tb_X6_received (MQ below (bQ D cA ad shB 26 (fun r w1 => r = (some (.float (recG g 1 b0 b1 n))) ∧ w1 = (layB g σ τ))) args s0 0 0 (adA ad 26)) ad 26 0 0 (layB g σ τ) 19 ([(8, .int (nI k_a)), (0, .ref 0), (1, .int (1)), (2, .int b0), (3, .int b1), (4, .int (g 1 37)), (5, .int (ptC (g 1 15) (g 1 16) b0)), (6, .int (ptC (g 1 35) (g 1 36) b1)), (7, .float (recG g 1 b0 b1 k_a))] : Lc) ([] : List Value) := by
    intro n_a
    induction n_a with
    | zero =>
      intro k_a hs_a hk_a
      have hkB_a : k_a = n := by omega
      rw [hkB_a]
      refine bv_blk C frk_X6 csk_X6 3 22 rfl (L1 := ([(8, .int (nI n)), (0, .ref 0), (1, .int (1)), (2, .int b0), (3, .int b1), (4, .int (g 1 37)), (5, .int (ptC (g 1 15) (g 1 16) b0)), (6, .int (ptC (g 1 35) (g 1 36) b1)), (7, .float (recG g 1 b0 b1 n))] : Lc)) (st1 := ([.int (g 1 12), .int (nI n)] : List Value)) (w1 := (layB g σ τ)) (by rfl) ?_
      refine bv_icmp_ge (j := 66) C rfl rfl (fun _ => ?_) (fun h => absurd (by rw [show (g 1 12) = nI n from hs.1]; exact (nI_le (a := n) (b := n) (by omega) (by omega))) h)
      refine bv_blk C frk_X6 csk_X6 1 67 rfl (L1 := ([(8, .int (nI n)), (0, .ref 0), (1, .int (1)), (2, .int b0), (3, .int b1), (4, .int (g 1 37)), (5, .int (ptC (g 1 15) (g 1 16) b0)), (6, .int (ptC (g 1 35) (g 1 36) b1)), (7, .float (recG g 1 b0 b1 n))] : Lc)) (st1 := ([.float (recG g 1 b0 b1 n)] : List Value)) (w1 := (layB g σ τ)) (by rfl) ?_
      exact bv_fret C rfl hr ⟨by (rfl), by (rfl)⟩
    | succ n_a ih =>
      intro k_a hs_a hk_a
      refine bv_blk C frk_X6 csk_X6 3 22 rfl (L1 := ([(8, .int (nI k_a)), (0, .ref 0), (1, .int (1)), (2, .int b0), (3, .int b1), (4, .int (g 1 37)), (5, .int (ptC (g 1 15) (g 1 16) b0)), (6, .int (ptC (g 1 35) (g 1 36) b1)), (7, .float (recG g 1 b0 b1 k_a))] : Lc)) (st1 := ([.int (g 1 12), .int (nI k_a)] : List Value)) (w1 := (layB g σ τ)) (by rfl) ?_
      refine bv_icmp_ge (j := 66) C rfl rfl (fun h => absurd h (by rw [show (g 1 12) = nI n from hs.1]; exact (nI_ge (a := k_a) (b := n) (by omega) (by omega)))) (fun _ => ?_)
      refine bv_blk C frk_X6 csk_X6 2 25 rfl (L1 := ([(8, .int (nI k_a)), (0, .ref 0), (1, .int (1)), (2, .int b0), (3, .int b1), (4, .int (g 1 37)), (5, .int (ptC (g 1 15) (g 1 16) b0)), (6, .int (ptC (g 1 35) (g 1 36) b1)), (7, .float (recG g 1 b0 b1 k_a))] : Lc)) (st1 := ([.int (8), .int (nI k_a)] : List Value)) (w1 := (layB g σ τ)) (by rfl) ?_
      refine bv_icmp_ge (j := 66) C rfl rfl (fun h => absurd h (nI_ge (a := k_a) (b := 8) (by omega) (by omega))) (fun _ => ?_)
      refine bv_blk C frk_X6 csk_X6 3 29 rfl (L1 := ([(8, .int (nI k_a)), (0, .ref 0), (1, .int (1)), (2, .int b0), (3, .int b1), (4, .int (g 1 37)), (5, .int (ptC (g 1 15) (g 1 16) b0)), (6, .int (ptC (g 1 35) (g 1 36) b1)), (7, .float (recG g 1 b0 b1 k_a))] : Lc)) (st1 := ([.int (nI k_a), .ref 5] : List Value)) (w1 := (layB g σ τ)) (by rfl) ?_
      refine bv_aaldPath (y := 6 + σ k_a) C rfl rfl (by decide) (j := k_a) (by exact rfl) (by first | decide | omega) (by decide) (by rfl) ?_
      refine bv_blk C frk_X6 csk_X6 6 36 rfl (L1 := ([(9, .ref (6 + σ k_a)), (8, .int (nI k_a)), (0, .ref 0), (1, .int (1)), (2, .int b0), (3, .int b1), (4, .int (g 1 37)), (5, .int (ptC (g 1 15) (g 1 16) b0)), (6, .int (ptC (g 1 35) (g 1 36) b1)), (7, .float (recG g 1 b0 b1 k_a))] : Lc)) (st1 := ([.ref (6 + σ k_a), .int (ptC (g 1 15) (g 1 16) b0), .int b0, .ref 1] : List Value)) (w1 := (layB g σ τ)) (by rfl) ?_
      refine bv_getP (q := k_a) (k := 0) C rfl fl_X6_114 (by decide) hσ (show k_a < 8 by first | decide | omega) ?_
      refine bv_fS1 C rfl (cs_angle hE _ (ptC (g 1 15) (g 1 16) b0) (g 1 (55 + 6 * k_a + 0))) ml_X6_143 st_X4_angle ini_X4 cd_X4_angle ok_X4_angle rfl ⟨Nat.le_of_ble_eq_true rfl, Nat.le_of_ble_eq_true rfl⟩ ⟨Nat.zero_le _, Nat.zero_le _⟩ (rest := ([.int b0, .ref 1] : List Value)) rfl (Nat.le_of_ble_eq_true rfl) ?_
      refine bv_fV1 C rfl (cs_gainAt_1 hE g σ τ hσ b0 (agC (ptC (g 1 15) (g 1 16) b0) (g 1 (55 + 6 * k_a + 0)))) ml_X6_149 im_X7_gainAt sel_X7_gainAt ini_X7 cd_X7_gainAt ok_X7_gainAt rfl ⟨Nat.le_of_ble_eq_true rfl, Nat.le_of_ble_eq_true rfl⟩ ⟨Nat.zero_le _, Nat.zero_le _⟩ (by decide) rfl rfl rfl (rest := ([] : List Value)) rfl (Nat.le_of_ble_eq_true rfl) ?_
      refine bv_blk C frk_X6 csk_X6 6 45 rfl (L1 := ([(10, .int (gnC (g 1 15) b0 (agC (ptC (g 1 15) (g 1 16) b0) (g 1 (55 + 6 * k_a + 0))))), (9, .ref (6 + σ k_a)), (8, .int (nI k_a)), (0, .ref 0), (1, .int (1)), (2, .int b0), (3, .int b1), (4, .int (g 1 37)), (5, .int (ptC (g 1 15) (g 1 16) b0)), (6, .int (ptC (g 1 35) (g 1 36) b1)), (7, .float (recG g 1 b0 b1 k_a))] : Lc)) (st1 := ([.ref (6 + σ k_a), .int (ptC (g 1 35) (g 1 36) b1), .int b1, .ref 3] : List Value)) (w1 := (layB g σ τ)) (by rfl) ?_
      refine bv_getP (q := k_a) (k := 1) C rfl fl_X6_117 (by decide) hσ (show k_a < 8 by first | decide | omega) ?_
      refine bv_fS1 C rfl (cs_angle hE _ (ptC (g 1 35) (g 1 36) b1) (g 1 (55 + 6 * k_a + 1))) ml_X6_143 st_X4_angle ini_X4 cd_X4_angle ok_X4_angle rfl ⟨Nat.le_of_ble_eq_true rfl, Nat.le_of_ble_eq_true rfl⟩ ⟨Nat.zero_le _, Nat.zero_le _⟩ (rest := ([.int b1, .ref 3] : List Value)) rfl (Nat.le_of_ble_eq_true rfl) ?_
      refine bv_fV1 C rfl (cs_gainAt_3 hE g σ τ hσ b1 (agC (ptC (g 1 35) (g 1 36) b1) (g 1 (55 + 6 * k_a + 1)))) ml_X6_149 im_X7_gainAt sel_X7_gainAt ini_X7 cd_X7_gainAt ok_X7_gainAt rfl ⟨Nat.le_of_ble_eq_true rfl, Nat.le_of_ble_eq_true rfl⟩ ⟨Nat.zero_le _, Nat.zero_le _⟩ (by decide) rfl rfl rfl (rest := ([] : List Value)) rfl (Nat.le_of_ble_eq_true rfl) ?_
      refine bv_blk C frk_X6 csk_X6 8 56 rfl (L1 := ([(11, .int (gnC (g 1 35) b1 (agC (ptC (g 1 35) (g 1 36) b1) (g 1 (55 + 6 * k_a + 1))))), (10, .int (gnC (g 1 15) b0 (agC (ptC (g 1 15) (g 1 16) b0) (g 1 (55 + 6 * k_a + 0))))), (9, .ref (6 + σ k_a)), (8, .int (nI k_a)), (0, .ref 0), (1, .int (1)), (2, .int b0), (3, .int b1), (4, .int (g 1 37)), (5, .int (ptC (g 1 15) (g 1 16) b0)), (6, .int (ptC (g 1 35) (g 1 36) b1)), (7, .float (recG g 1 b0 b1 k_a))] : Lc)) (st1 := ([.ref (6 + σ k_a), .int (((g 1 37) + (gnC (g 1 15) b0 (agC (ptC (g 1 15) (g 1 16) b0) (g 1 (55 + 6 * k_a + 0))))) + (gnC (g 1 35) b1 (agC (ptC (g 1 35) (g 1 36) b1) (g 1 (55 + 6 * k_a + 1))))), .float (recG g 1 b0 b1 k_a)] : List Value)) (w1 := (layB g σ τ)) (by rfl) ?_
      refine bv_getP (q := k_a) (k := 2) C rfl fl_X6_120 (by decide) hσ (show k_a < 8 by first | decide | omega) ?_
      refine bv_blk C frk_X6 csk_X6 2 59 rfl (L1 := ([(11, .int (gnC (g 1 35) b1 (agC (ptC (g 1 35) (g 1 36) b1) (g 1 (55 + 6 * k_a + 1))))), (10, .int (gnC (g 1 15) b0 (agC (ptC (g 1 15) (g 1 16) b0) (g 1 (55 + 6 * k_a + 0))))), (9, .ref (6 + σ k_a)), (8, .int (nI k_a)), (0, .ref 0), (1, .int (1)), (2, .int b0), (3, .int b1), (4, .int (g 1 37)), (5, .int (ptC (g 1 15) (g 1 16) b0)), (6, .int (ptC (g 1 35) (g 1 36) b1)), (7, .float (recG g 1 b0 b1 k_a))] : Lc)) (st1 := ([.ref (6 + σ k_a), .int ((((g 1 37) + (gnC (g 1 15) b0 (agC (ptC (g 1 15) (g 1 16) b0) (g 1 (55 + 6 * k_a + 0))))) + (gnC (g 1 35) b1 (agC (ptC (g 1 35) (g 1 36) b1) (g 1 (55 + 6 * k_a + 1))))) - (g 1 (55 + 6 * k_a + 2))), .float (recG g 1 b0 b1 k_a)] : List Value)) (w1 := (layB g σ τ)) (by rfl) ?_
      refine bv_getP (q := k_a) (k := 3) C rfl fl_X6_123 (by decide) hσ (show k_a < 8 by first | decide | omega) ?_
      refine bv_blk C frk_X6 csk_X6 1 61 rfl (L1 := ([(11, .int (gnC (g 1 35) b1 (agC (ptC (g 1 35) (g 1 36) b1) (g 1 (55 + 6 * k_a + 1))))), (10, .int (gnC (g 1 15) b0 (agC (ptC (g 1 15) (g 1 16) b0) (g 1 (55 + 6 * k_a + 0))))), (9, .ref (6 + σ k_a)), (8, .int (nI k_a)), (0, .ref 0), (1, .int (1)), (2, .int b0), (3, .int b1), (4, .int (g 1 37)), (5, .int (ptC (g 1 15) (g 1 16) b0)), (6, .int (ptC (g 1 35) (g 1 36) b1)), (7, .float (recG g 1 b0 b1 k_a))] : Lc)) (st1 := ([.int (((((g 1 37) + (gnC (g 1 15) b0 (agC (ptC (g 1 15) (g 1 16) b0) (g 1 (55 + 6 * k_a + 0))))) + (gnC (g 1 35) b1 (agC (ptC (g 1 35) (g 1 36) b1) (g 1 (55 + 6 * k_a + 1))))) - (g 1 (55 + 6 * k_a + 2))) - (g 1 (55 + 6 * k_a + 3))), .float (recG g 1 b0 b1 k_a)] : List Value)) (w1 := (layB g σ τ)) (by rfl) ?_
      rw [show (((((g 1 37) + (gnC (g 1 15) b0 (agC (ptC (g 1 15) (g 1 16) b0) (g 1 (55 + 6 * k_a + 0))))) + (gnC (g 1 35) b1 (agC (ptC (g 1 35) (g 1 36) b1) (g 1 (55 + 6 * k_a + 1))))) - (g 1 (55 + 6 * k_a + 2))) - (g 1 (55 + 6 * k_a + 3))) = (levG g 1 b0 b1 k_a) from lev_C (st_p0 hs) (st_p1 hs) 1 b0 b1 k_a]
      refine bv_fS1 C rfl (cs_powerOf hE _ (levG g 1 b0 b1 k_a) (hk.2.2.2.2.1 k_a (by omega))) ml_X6_152 st_X4_powerOf ini_X4 cd_X4_powerOf ok_X4_powerOf rfl ⟨Nat.le_of_ble_eq_true rfl, Nat.le_of_ble_eq_true rfl⟩ ⟨Nat.zero_le _, Nat.zero_le _⟩ (rest := ([.float (recG g 1 b0 b1 k_a)] : List Value)) rfl (Nat.le_of_ble_eq_true rfl) ?_
      refine bv_fadd C rfl (hk.2.2.2.2.2 k_a (by omega)) ?_
      refine bv_blk C frk_X6 csk_X6 2 65 rfl (L1 := ([(8, .int ((nI k_a) + Int32.ofInt 1)), (7, .float (FP.fadd (recG g 1 b0 b1 k_a) (powF (levG g 1 b0 b1 k_a)))), (11, .int (gnC (g 1 35) b1 (agC (ptC (g 1 35) (g 1 36) b1) (g 1 (55 + 6 * k_a + 1))))), (10, .int (gnC (g 1 15) b0 (agC (ptC (g 1 15) (g 1 16) b0) (g 1 (55 + 6 * k_a + 0))))), (9, .ref (6 + σ k_a)), (0, .ref 0), (1, .int (1)), (2, .int b0), (3, .int b1), (4, .int (g 1 37)), (5, .int (ptC (g 1 15) (g 1 16) b0)), (6, .int (ptC (g 1 35) (g 1 36) b1))] : Lc)) (st1 := ([] : List Value)) (w1 := (layB g σ τ)) (by rfl) ?_
      rw [show ((nI k_a) + Int32.ofInt 1) = nI (k_a + 1) from (nIi rfl)]
      refine bv_goto (j := 19) C rfl rfl ?_
      refine bv_weq (show (layB g σ τ) = (layB g σ τ) from by rfl) ?_
      refine bv_sub [0, 5, 6, 7, 8, 9, 10, 11, 1] (by rfl) ?_
      exact ih (k_a + 1) (by omega) (by omega)
  refine bv_weq (show (layB g σ τ) = (layB g σ τ) from by rfl) ?_
  refine bv_sub [0, 5, 6, 7, 8, 4, 3, 2, 1] (by rfl) ?_
  exact lp_a (n - 0) 0 (Nat.le_refl _) (by omega)
theorem cs_receivedA {l : Launch} {D : va_G} {cA : FieldType → ClassId} {z0 : Nat} {SK : Nat → Nat} {SV : Nat → Int32} {ad : Nat → Nat} (hE : aD (fun q => z0 ≤ q) ad 26) (g g0 : Nat → Nat → Int32) (σ τ : Nat → Nat) (hσ : pmK σ τ) (fr n : Nat) (b0 b1 : Int32) (hf : fr < 2) (ha : ∀ k, 12 ≤ k → g 1 k = g0 1 k) (hs : statR g n) : bF l D cA z0 SK SV ad shB 26 yX6_received cX6_received 12 (some .float) 2 [.ref 0, .int (nI fr), .int b0, .int b1] (layB g σ τ) (some (.float (recG g0 fr b0 b1 n))) (layB g σ τ) := by
  rcases (show fr = 0 ∨ fr = 1 by omega) with rfl | rfl
  · rw [← recG_same ha 0 b0 b1 n]; exact cs_received0 hE g σ τ hσ n b0 b1 hs
  · rw [← recG_same ha 1 b0 b1 n]; exact cs_received1 hE g σ τ hσ n b0 b1 hs
theorem add7 {i k : Nat} : nI i - 700 + nI k = nI (i + k) - 700 := by
  rw [← nI_add, Int32.sub_eq_add_neg, Int32.sub_eq_add_neg, Int32.add_assoc, Int32.add_comm (-700) (nI k), ← Int32.add_assoc]
theorem lv_k (s : UInt32) (hs : pF s) : ∀ (f i : Nat), i + 2 ^ f ≤ 1100 → ∃ k : Nat, lvC s f (nI i - 700) = nI k - 700 ∧ i ≤ k ∧ k < i + 2 ^ f ∧ (k = i ∨ pB9 k ≤ s.toNat) ∧ (k + 1 = i + 2 ^ f ∨ s.toNat < pB9 (k + 1)) := by
  intro f
  induction f with
  | zero =>
    intro i h
    exact ⟨i, rfl, Nat.le_refl _, by rw [Nat.pow_zero]; omega, Or.inl rfl, Or.inl rfl⟩
  | succ f ih =>
    intro i h
    rw [Nat.pow_succ] at h
    have hP := Nat.two_pow_pos f
    have hc := cm_g (pB9_pF (k := i + 2 ^ f) (by omega)) hs
    have e1 : lvC s (f + 1) (nI i - 700) = lvC s f (if (0 : Int32) < Op.cmpValue (FP.fcmp (powF (nI i - 700 + nI (2 ^ f))) s) .g then nI i - 700 else nI i - 700 + nI (2 ^ f)) := rfl
    rw [e1, add7, Nat.pow_succ]
    by_cases c : (0 : Int32) < Op.cmpValue (FP.fcmp (powF (nI (i + 2 ^ f) - 700)) s) .g
    · rw [if_pos c]
      obtain ⟨k, k1, k2, k3, k4, k5⟩ := ih i (by omega)
      refine ⟨k, k1, k2, by omega, k4, Or.inr ?_⟩
      rcases k5 with k5 | k5
      · rw [k5]; exact hc.mp c
      · exact k5
    · rw [if_neg c]
      obtain ⟨k, k1, k2, k3, k4, k5⟩ := ih (i + 2 ^ f) (by omega)
      refine ⟨k, k1, by omega, by omega, Or.inr ?_, ?_⟩
      · rcases k4 with k4 | k4
        · rw [k4]; exact Nat.le_of_not_lt (fun z => c (hc.mpr z))
        · exact k4
      · rcases k5 with k5 | k5
        · exact Or.inl (by omega)
        · exact Or.inr k5
/-- the class's search for a level and the reference's agree on the sums that there are -/
theorem lev_qua {g : Nat → Nat → Int32} {n fr : Nat} {b0 b1 : Int32} (hs : statR g n) (hf : fr < 2) (h0 : ¬ n = 0) : lvC (recG g fr b0 b1 n) 10 (-640) = quaG g fr b0 b1 n := by
  have hl := st_lvB hs hf b0 b1
  have h8 := hl.1
  obtain ⟨f1, f2, f3⟩ := rec_F hl n (Nat.le_refl _)
  have f3 := f3 (by omega)
  have l1 : pB9 60 ≤ (recG g fr b0 b1 n).toNat := Nat.le_trans (pB9_le (by omega) (by omega)) f3
  have l2 : (recG g fr b0 b1 n).toNat < pB9 1084 := by
    refine Nat.lt_of_not_le (fun z => ?_)
    have z1 := uF_le.mpr (show (powF (nI 1084 - 700)).toNat ≤ (recG g fr b0 b1 n).toNat from z)
    have z2 := pB9_1084
    have z3 : n * 2 ^ 166 ≤ 8 * 2 ^ 166 := Nat.mul_le_mul_right _ h8
    omega
  unfold quaG
  rw [if_neg h0]
  obtain ⟨i, i1, i2, i3, i4, i5⟩ := lv_k _ f1 10 60 (by omega)
  obtain ⟨j, j1, j2, j3, j4, j5⟩ := qs_k _ f1 11 0 1100 (by omega) (by omega) (by omega)
  rw [show (nI 60 - 700 : Int32) = -640 from by decide] at i1
  rw [show (nI 0 - 700 : Int32) = -700 from by decide, show (nI 1100 - 700 : Int32) = 400 from by decide] at j1
  rw [i1, j1]
  have a1 : pB9 i ≤ (recG g fr b0 b1 n).toNat := by
    rcases i4 with i4 | i4
    · rw [i4]; exact l1
    · exact i4
  have a2 : (recG g fr b0 b1 n).toNat < pB9 (i + 1) := by
    rcases i5 with i5 | i5
    · rw [i5]; exact l2
    · exact i5
  by_cases c : i = j
  · rw [c]
  · exfalso
    rcases Nat.lt_or_gt_of_ne c with c | c
    · have b1 : pB9 j ≤ (recG g fr b0 b1 n).toNat := by
        rcases j4 with j4 | j4
        · omega
        · exact j4
      have b2 := pB9_le (i := i + 1) (j := j) c (by omega)
      omega
    · have b1 : (recG g fr b0 b1 n).toNat < pB9 (j + 1) := by
        rcases j5 with j5 | j5
        · omega
        · exact j5
      have b2 := pB9_le (i := j + 1) (j := i) c (by omega)
      omega
