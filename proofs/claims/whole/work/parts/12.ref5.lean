def qsI (s : UInt32) : Nat → Int32 → Int32 → Int32
  | 0, lo, _ => lo
  | f + 1, lo, hi => if hi - lo ≤ 1 then lo else if (0 : Int32) < Op.cmpValue (FP.fcmp (powF ((lo + hi) >>> (1 &&& 31))) s) .g then qsI s f lo ((lo + hi) >>> (1 &&& 31)) else qsI s f ((lo + hi) >>> (1 &&& 31)) hi
theorem qs_sub {lo hi : Int32} (h1 : -700 ≤ lo.toInt) (h2 : lo.toInt < hi.toInt) (h3 : hi.toInt ≤ 400) : (hi - lo).toInt = hi.toInt - lo.toInt := by
  rw [Int32.toInt_sub, Int.bmod_def]
  omega
theorem qs_mid {lo hi : Int32} (h1 : -700 ≤ lo.toInt) (h2 : lo.toInt < hi.toInt) (h3 : hi.toInt ≤ 400) : ((lo + hi) >>> (1 &&& 31)).toInt = (lo.toInt + hi.toInt) / 2 := by
  rw [pk_shr _ _ 1 (by decide), Int32.toInt_add, Int.shiftRight_eq_div_pow, Int.bmod_def]
  omega
theorem qs_gap {lo hi : Int32} (c : ¬ hi - lo ≤ 1) (h1 : -700 ≤ lo.toInt) (h2 : lo.toInt < hi.toInt) (h3 : hi.toInt ≤ 400) : 1 < hi.toInt - lo.toInt := by
  rw [Int32.le_iff_toInt_le, qs_sub h1 h2 h3, show (1 : Int32).toInt = 1 from rfl] at c
  omega
theorem qs_one {lo hi : Int32} (h : hi.toInt - lo.toInt ≤ 1) (h1 : -700 ≤ lo.toInt) (h2 : lo.toInt < hi.toInt) (h3 : hi.toInt ≤ 400) : hi - lo ≤ 1 := by
  rw [Int32.le_iff_toInt_le, qs_sub h1 h2 h3, show (1 : Int32).toInt = 1 from rfl]
  exact h
def quaG (g : Nat → Nat → Int32) (fr : Nat) (b0 b1 : Int32) (n : Nat) : Int32 := if n = 0 then -100000 else qsI (recG g fr b0 b1 n) 11 (-700) 400
set_option maxRecDepth 100000 in
set_option maxHeartbeats 4000000 in
theorem ct_qualityOf {l : Launch} {D : va_G} {cA : FieldType → ClassId} {z0 : Nat} {SK SV : Nat → Nat} {ad : Nat → Nat} (hE : aD (fun q => z0 ≤ q) ad 9) (g : Nat → Nat → Int32) (h : Int64) (fr n : Nat) (b0 b1 : Int32) (hf : fr < 2) (hk : okQ g fr b0 b1 n) : bF l D cA z0 SK SV ad shM 9 yX9_qualityOf cX9_qualityOf 8 (some .int) 5 [.ref 0, .int (nI fr), .int b0, .int b1] (layM g h) (some (.int (quaG g fr b0 b1 n))) (layM g h) := by
  refine bCT_intro (tb := tb_X9_qualityOf) (own := RX9) hE pn_X9 rfl tk_X9_qualityOf rfl (Nat.le_of_ble_eq_true rfl) ?_
  intro p e s0 m args below meth c C hr
  have hn := hk.1
  have hn8 := hk.2.1
  refine bv_blk C frk_X9 csk_X9 3 3 rfl (L1 := ([(0, .ref 0), (1, .int (nI fr)), (2, .int b0), (3, .int b1)] : Lc)) (st1 := ([.int (12), .ref 1] : List Value)) (w1 := (layM g h)) (by rfl) ?_
  refine bv_iald C rfl rfl (by decide) (j := 12) (by exact rfl) (by first | decide | omega) (by decide) (y := (g 1 12)) (by rfl) ?_
  refine bv_if_ne (j := 7) C rfl rfl (fun c1 => ?_) (fun c1 => ?_)
  · have hn0 : ¬ n = 0 := fun z => c1 (by rw [hn, z]; rfl)
    refine bv_blk C frk_X9 csk_X9 4 11 rfl (L1 := ([(0, .ref 0), (1, .int (nI fr)), (2, .int b0), (3, .int b1)] : Lc)) (st1 := ([.int b1, .int b0, .int (nI fr), .ref 0] : List Value)) (w1 := (layM g h)) (by rfl) ?_
    refine bv_fV1 C rfl (ct_received hE _ _ fr n b0 b1 (by omega) hk) ml_X9_97 im_X9_received sel_X9_received ini_X9 cd_X9_received ok_X9_received rfl ⟨Nat.le_of_ble_eq_true rfl, Nat.le_of_ble_eq_true rfl⟩ ⟨Nat.zero_le _, Nat.zero_le _⟩ (by decide) rfl rfl rfl (rest := ([] : List Value)) rfl (Nat.le_of_ble_eq_true rfl) ?_
    refine bv_blk C frk_X9 csk_X9 5 17 rfl (L1 := ([(6, .int (400)), (5, .int (-700)), (4, .float (recG g fr b0 b1 n)), (0, .ref 0), (1, .int (nI fr)), (2, .int b0), (3, .int b1)] : Lc)) (st1 := ([] : List Value)) (w1 := (layM g h)) (by rfl) ?_
    have lp : ∀ (f : Nat) (lo hi : Int32), -700 ≤ lo.toInt → lo.toInt < hi.toInt → hi.toInt ≤ 400 → hi.toInt - lo.toInt ≤ 2 ^ f → qsI (recG g fr b0 b1 n) f lo hi = quaG g fr b0 b1 n → bV p l e (bR 5) s0 m args below meth c D cA shM (adA ad 9) 8 tb_X9_qualityOf (MQ below (bQ D cA ad shM 9 (fun r w1 => r = (some (.int (quaG g fr b0 b1 n))) ∧ w1 = (layM g h))) args s0 0 0 (adA ad 9)) ad 9 0 0 (layM g h) 17 ([(6, .int hi), (5, .int lo), (4, .float (recG g fr b0 b1 n)), (0, .ref 0), (1, .int (nI fr)), (2, .int b0), (3, .int b1)] : Lc) ([] : List Value) := by
      intro f
      induction f with
      | zero =>
        intro lo hi h1 h2 h3 h4 heq
        refine bv_blk C frk_X9 csk_X9 4 21 rfl (L1 := ([(6, .int hi), (5, .int lo), (4, .float (recG g fr b0 b1 n)), (0, .ref 0), (1, .int (nI fr)), (2, .int b0), (3, .int b1)] : Lc)) (st1 := ([.int (1), .int (hi - lo)] : List Value)) (w1 := (layM g h)) (by rfl) ?_
        refine bv_icmp_le (j := 40) C rfl rfl (fun _ => ?_) (fun h => absurd (qs_one (by simpa using h4) h1 h2 h3) h)
        refine bv_blk C frk_X9 csk_X9 1 41 rfl (L1 := ([(6, .int hi), (5, .int lo), (4, .float (recG g fr b0 b1 n)), (0, .ref 0), (1, .int (nI fr)), (2, .int b0), (3, .int b1)] : Lc)) (st1 := ([.int lo] : List Value)) (w1 := (layM g h)) (by rfl) ?_
        exact bv_iret C rfl hr rfl ⟨by (rw [← heq]; rfl), by (rfl)⟩
      | succ f ih =>
        intro lo hi h1 h2 h3 h4 heq
        refine bv_blk C frk_X9 csk_X9 4 21 rfl (L1 := ([(6, .int hi), (5, .int lo), (4, .float (recG g fr b0 b1 n)), (0, .ref 0), (1, .int (nI fr)), (2, .int b0), (3, .int b1)] : Lc)) (st1 := ([.int (1), .int (hi - lo)] : List Value)) (w1 := (layM g h)) (by rfl) ?_
        refine bv_icmp_le (j := 40) C rfl rfl (fun c3 => ?_) (fun c3 => ?_)
        · refine bv_blk C frk_X9 csk_X9 1 41 rfl (L1 := ([(6, .int hi), (5, .int lo), (4, .float (recG g fr b0 b1 n)), (0, .ref 0), (1, .int (nI fr)), (2, .int b0), (3, .int b1)] : Lc)) (st1 := ([.int lo] : List Value)) (w1 := (layM g h)) (by rfl) ?_
          exact bv_iret C rfl hr rfl ⟨by (rw [← heq]; simp only [qsI, if_pos c3]), by (rfl)⟩
        · refine bv_blk C frk_X9 csk_X9 8 30 rfl (L1 := ([(7, .int ((lo + hi) >>> ((1) &&& 31))), (6, .int hi), (5, .int lo), (4, .float (recG g fr b0 b1 n)), (0, .ref 0), (1, .int (nI fr)), (2, .int b0), (3, .int b1)] : Lc)) (st1 := ([.int ((lo + hi) >>> ((1) &&& 31)), .ref 0] : List Value)) (w1 := (layM g h)) (by rfl) ?_
          refine bv_fV1 C rfl (ct_power hE _ _ ((lo + hi) >>> ((1) &&& 31)) (qOK_of (by rw [qs_mid h1 h2 h3]; omega) (by rw [qs_mid h1 h2 h3]; omega))) ml_X9_93 im_X9_power sel_X9_power ini_X9 cd_X9_power ok_X9_power rfl ⟨Nat.le_of_ble_eq_true rfl, Nat.le_of_ble_eq_true rfl⟩ ⟨Nat.zero_le _, Nat.zero_le _⟩ (by decide) rfl rfl rfl (rest := ([] : List Value)) rfl (Nat.le_of_ble_eq_true rfl) ?_
          refine bv_blk C frk_X9 csk_X9 2 33 rfl (L1 := ([(7, .int ((lo + hi) >>> ((1) &&& 31))), (6, .int hi), (5, .int lo), (4, .float (recG g fr b0 b1 n)), (0, .ref 0), (1, .int (nI fr)), (2, .int b0), (3, .int b1)] : Lc)) (st1 := ([.int (Op.cmpValue (FP.fcmp (powF ((lo + hi) >>> ((1) &&& 31))) (recG g fr b0 b1 n)) .g)] : List Value)) (w1 := (layM g h)) (by rfl) ?_
          refine bv_if_gt (j := 37) C rfl rfl (fun c4 => ?_) (fun c4 => ?_)
          · refine bv_blk C frk_X9 csk_X9 2 39 rfl (L1 := ([(6, .int ((lo + hi) >>> ((1) &&& 31))), (7, .int ((lo + hi) >>> ((1) &&& 31))), (5, .int lo), (4, .float (recG g fr b0 b1 n)), (0, .ref 0), (1, .int (nI fr)), (2, .int b0), (3, .int b1)] : Lc)) (st1 := ([] : List Value)) (w1 := (layM g h)) (by rfl) ?_
            refine bv_goto (j := 17) C rfl rfl ?_
            refine bv_sub [0, 2, 3, 4, 5, 6, 7] (by rfl) ?_
            have hc := qs_gap c3 h1 h2 h3
            have hm := qs_mid h1 h2 h3
            rw [Int.pow_succ] at h4
            refine ih _ _ (by first | exact h1 | (rw [hm]; omega)) (by rw [hm]; omega) (by first | exact h3 | (rw [hm]; omega)) (by rw [hm]; omega) ?_
            rw [← heq]; simp only [qsI, if_neg c3, c4, if_true, if_false, ↓reduceIte]
          · refine bv_blk C frk_X9 csk_X9 2 36 rfl (L1 := ([(5, .int ((lo + hi) >>> ((1) &&& 31))), (7, .int ((lo + hi) >>> ((1) &&& 31))), (6, .int hi), (4, .float (recG g fr b0 b1 n)), (0, .ref 0), (1, .int (nI fr)), (2, .int b0), (3, .int b1)] : Lc)) (st1 := ([] : List Value)) (w1 := (layM g h)) (by rfl) ?_
            refine bv_goto (j := 39) C rfl rfl ?_
            refine bv_goto (j := 17) C rfl rfl ?_
            refine bv_sub [2, 0, 3, 4, 5, 6, 7] (by rfl) ?_
            have hc := qs_gap c3 h1 h2 h3
            have hm := qs_mid h1 h2 h3
            rw [Int.pow_succ] at h4
            refine ih _ _ (by first | exact h1 | (rw [hm]; omega)) (by rw [hm]; omega) (by first | exact h3 | (rw [hm]; omega)) (by rw [hm]; omega) ?_
            rw [← heq]; simp only [qsI, if_neg c3, c4, if_true, if_false, ↓reduceIte]
    refine bv_sub [0, 1, 2, 3, 4, 5, 6] (by rfl) ?_
    exact lp 11 (-700) 400 (by decide) (by decide) (by decide) (by decide) (by unfold quaG; rw [if_neg hn0])
  · refine bv_blk C frk_X9 csk_X9 1 6 rfl (L1 := ([(0, .ref 0), (1, .int (nI fr)), (2, .int b0), (3, .int b1)] : Lc)) (st1 := ([.int (-100000)] : List Value)) (w1 := (layM g h)) (by rfl) ?_
    exact bv_iret C rfl hr rfl ⟨by (unfold quaG; rw [if_pos ((nI_eq (a := n) (b := 0) (by omega) (by omega)).mp (hn.symm.trans c1))]), by (rfl)⟩
theorem levG_same {g g0 : Nat → Nat → Int32} (ha : ∀ k, 12 ≤ k → g 1 k = g0 1 k) (fr : Nat) (b0 b1 : Int32) (p : Nat) : levG g fr b0 b1 p = levG g0 fr b0 b1 p := by
  unfold levG
  rw [ha _ (by omega), ha _ (by omega), ha _ (by omega), ha _ (by omega), ha _ (by omega), ha _ (by omega), ha _ (by omega), ha _ (by omega), ha _ (by omega)]
theorem recG_same {g g0 : Nat → Nat → Int32} (ha : ∀ k, 12 ≤ k → g 1 k = g0 1 k) (fr : Nat) (b0 b1 : Int32) : ∀ n, recG g fr b0 b1 n = recG g0 fr b0 b1 n
  | 0 => rfl
  | n + 1 => by unfold recG; rw [recG_same ha fr b0 b1 n, levG_same ha]
theorem quaG_same {g g0 : Nat → Nat → Int32} (ha : ∀ k, 12 ≤ k → g 1 k = g0 1 k) (fr : Nat) (b0 b1 : Int32) (n : Nat) : quaG g fr b0 b1 n = quaG g0 fr b0 b1 n := by
  unfold quaG
  rw [recG_same ha]
theorem okQ_same {g g0 : Nat → Nat → Int32} (ha : ∀ k, 12 ≤ k → g 1 k = g0 1 k) {fr : Nat} {b0 b1 : Int32} {n : Nat} (h : okQ g0 fr b0 b1 n) : okQ g fr b0 b1 n := by
  obtain ⟨h1, h2, h3, h4, h5, h6⟩ := h
  exact ⟨by rw [ha _ (by omega)]; exact h1, h2, by rw [ha _ (by omega)]; exact h3, by rw [ha _ (by omega)]; exact h4, fun p hp => by rw [levG_same ha]; exact h5 p hp, fun p hp => by rw [levG_same ha, recG_same ha]; exact h6 p hp⟩
theorem ct_qualityA {l : Launch} {D : va_G} {cA : FieldType → ClassId} {z0 : Nat} {SK SV : Nat → Nat} {ad : Nat → Nat} (hE : aD (fun q => z0 ≤ q) ad 9) (g g0 : Nat → Nat → Int32) (h : Int64) (fr n : Nat) (b0 b1 : Int32) (hf : fr < 2) (ha : ∀ k, 12 ≤ k → g 1 k = g0 1 k) (hk : okQ g0 fr b0 b1 n) : bF l D cA z0 SK SV ad shM 9 yX9_qualityOf cX9_qualityOf 8 (some .int) 5 [.ref 0, .int (nI fr), .int b0, .int b1] (layM g h) (some (.int (quaG g0 fr b0 b1 n))) (layM g h) := by
  rw [← quaG_same ha]
  exact ct_qualityOf hE g h fr n b0 b1 hf (okQ_same ha hk)
def fadeG (g : Nat → Nat → Int32) : Int32 := remI (Int32.toUInt32 (g 1 5 * 1664525 + 1013904223) >>> (Int32.toUInt32 8 &&& Int32.toUInt32 31)).toInt32 (g 1 7 + 1)
/-- the measured quality of the next frame -/
def msrG (g : Nat → Nat → Int32) (fr : Nat) (b0 b1 : Int32) (n : Nat) : Int32 := if n = 0 then -100000 else quaG g fr b0 b1 n - fadeG g
/-- whether it is heard -/
def hrdG (g : Nat → Nat → Int32) (fr : Nat) (b0 b1 : Int32) (n : Nat) : Bool := if n = 0 then false else decide (¬ msrG g fr b0 b1 n < g 1 6)
/-- behind it -/
def sntG (g : Nat → Nat → Int32) (fr : Nat) (b0 b1 t : Int32) (n : Nat) : Nat → Nat → Int32 := ug (ug (ug (ug g 1 5 (g 1 5 * 1664525 + 1013904223)) 1 3 (g 1 3 + 1)) 1 4 (g 1 4 + t)) 0 5 (msrG g fr b0 b1 n)
set_option maxRecDepth 100000 in
set_option maxHeartbeats 4000000 in
theorem ct_sends {l : Launch} {D : va_G} {cA : FieldType → ClassId} {z0 : Nat} {SK SV : Nat → Nat} {ad : Nat → Nat} (hE : aD (fun q => z0 ≤ q) ad 9) (g : Nat → Nat → Int32) (h : Int64) (fr n : Nat) (b0 b1 t : Int32) (hf : fr < 2) (hk : okQ g fr b0 b1 n) (hA : ¬ g 1 7 + 1 = 0) : bF l D cA z0 SK SV ad shM 9 yX9_sends cX9_sends 6 (some .boolean) 6 [.ref 0, .int (nI fr), .int b0, .int b1, .int t] (layM g h) (some (.int (b2i (hrdG g fr b0 b1 n)))) (layM (sntG g fr b0 b1 t n) h) := by
  refine bCT_intro (tb := tb_X9_sends) (own := RX9) hE pn_X9 rfl tk_X9_sends rfl (Nat.le_of_ble_eq_true rfl) ?_
  intro p e s0 m args below meth c C hr
  have hn := hk.1
  have hn8 := hk.2.1
  refine bv_blk C frk_X9 csk_X9 6 6 rfl (L1 := ([(0, .ref 0), (1, .int (nI fr)), (2, .int b0), (3, .int b1), (4, .int t)] : Lc)) (st1 := ([.int (5), .ref 1, .int (5), .ref 1] : List Value)) (w1 := (layM g h)) (by rfl) ?_
  refine bv_iald C rfl rfl (by decide) (j := 5) (by exact rfl) (by first | decide | omega) (by decide) (y := (g 1 5)) (by rfl) ?_
  refine bv_blk C frk_X9 csk_X9 4 11 rfl (L1 := ([(0, .ref 0), (1, .int (nI fr)), (2, .int b0), (3, .int b1), (4, .int t)] : Lc)) (st1 := ([.int (((g 1 5) * (1664525)) + (1013904223)), .int (5), .ref 1] : List Value)) (w1 := (layM g h)) (by rfl) ?_
  refine bv_iast C rfl rfl (by decide) (j := 5) (by exact rfl) (by first | decide | omega) (by decide) ?_
  rw [lm_up rfl]
  refine bv_blk C frk_X9 csk_X9 3 15 rfl (L1 := ([(0, .ref 0), (1, .int (nI fr)), (2, .int b0), (3, .int b1), (4, .int t)] : Lc)) (st1 := ([.int (5), .ref 1] : List Value)) (w1 := (layM (ug g 1 5 (((g 1 5) * (1664525)) + (1013904223))) h)) (by rfl) ?_
  refine bv_iald C rfl rfl (by decide) (j := 5) (by exact rfl) (by first | decide | omega) (by decide) (y := (((g 1 5) * (1664525)) + (1013904223))) (by rfl) ?_
  refine bv_blk C frk_X9 csk_X9 5 21 rfl (L1 := ([(0, .ref 0), (1, .int (nI fr)), (2, .int b0), (3, .int b1), (4, .int t)] : Lc)) (st1 := ([.int (7), .ref 1, .int ((Int32.toUInt32 (((g 1 5) * (1664525)) + (1013904223)) >>> (Int32.toUInt32 (8) &&& Int32.toUInt32 31)).toInt32)] : List Value)) (w1 := (layM (ug g 1 5 (((g 1 5) * (1664525)) + (1013904223))) h)) (by rfl) ?_
  refine bv_iald C rfl rfl (by decide) (j := 7) (by exact rfl) (by first | decide | omega) (by decide) (y := (g 1 7)) (by rfl) ?_
  refine bv_blk C frk_X9 csk_X9 2 24 rfl (L1 := ([(0, .ref 0), (1, .int (nI fr)), (2, .int b0), (3, .int b1), (4, .int t)] : Lc)) (st1 := ([.int ((g 1 7) + (1)), .int ((Int32.toUInt32 (((g 1 5) * (1664525)) + (1013904223)) >>> (Int32.toUInt32 (8) &&& Int32.toUInt32 31)).toInt32)] : List Value)) (w1 := (layM (ug g 1 5 (((g 1 5) * (1664525)) + (1013904223))) h)) (by rfl) ?_
  refine bv_irem C rfl hA ?_
  refine bv_blk C frk_X9 csk_X9 5 30 rfl (L1 := ([(5, .int (((Int32.toUInt32 (((g 1 5) * (1664525)) + (1013904223)) >>> (Int32.toUInt32 (8) &&& Int32.toUInt32 31)).toInt32) - ((Int32.toUInt32 (((g 1 5) * (1664525)) + (1013904223)) >>> (Int32.toUInt32 (8) &&& Int32.toUInt32 31)).toInt32) / ((g 1 7) + (1)) * ((g 1 7) + (1)))), (0, .ref 0), (1, .int (nI fr)), (2, .int b0), (3, .int b1), (4, .int t)] : Lc)) (st1 := ([.int (3), .ref 1, .int (3), .ref 1] : List Value)) (w1 := (layM (ug g 1 5 (((g 1 5) * (1664525)) + (1013904223))) h)) (by rfl) ?_
  refine bv_iald C rfl rfl (by decide) (j := 3) (by exact rfl) (by first | decide | omega) (by decide) (y := (g 1 3)) (by rfl) ?_
  refine bv_blk C frk_X9 csk_X9 2 33 rfl (L1 := ([(5, .int (((Int32.toUInt32 (((g 1 5) * (1664525)) + (1013904223)) >>> (Int32.toUInt32 (8) &&& Int32.toUInt32 31)).toInt32) - ((Int32.toUInt32 (((g 1 5) * (1664525)) + (1013904223)) >>> (Int32.toUInt32 (8) &&& Int32.toUInt32 31)).toInt32) / ((g 1 7) + (1)) * ((g 1 7) + (1)))), (0, .ref 0), (1, .int (nI fr)), (2, .int b0), (3, .int b1), (4, .int t)] : Lc)) (st1 := ([.int ((g 1 3) + (1)), .int (3), .ref 1] : List Value)) (w1 := (layM (ug g 1 5 (((g 1 5) * (1664525)) + (1013904223))) h)) (by rfl) ?_
  refine bv_iast C rfl rfl (by decide) (j := 3) (by exact rfl) (by first | decide | omega) (by decide) ?_
  rw [lm_up rfl]
  refine bv_blk C frk_X9 csk_X9 4 38 rfl (L1 := ([(5, .int (((Int32.toUInt32 (((g 1 5) * (1664525)) + (1013904223)) >>> (Int32.toUInt32 (8) &&& Int32.toUInt32 31)).toInt32) - ((Int32.toUInt32 (((g 1 5) * (1664525)) + (1013904223)) >>> (Int32.toUInt32 (8) &&& Int32.toUInt32 31)).toInt32) / ((g 1 7) + (1)) * ((g 1 7) + (1)))), (0, .ref 0), (1, .int (nI fr)), (2, .int b0), (3, .int b1), (4, .int t)] : Lc)) (st1 := ([.int (4), .ref 1, .int (4), .ref 1] : List Value)) (w1 := (layM (ug (ug g 1 5 (((g 1 5) * (1664525)) + (1013904223))) 1 3 ((g 1 3) + (1))) h)) (by rfl) ?_
  refine bv_iald C rfl rfl (by decide) (j := 4) (by exact rfl) (by first | decide | omega) (by decide) (y := (g 1 4)) (by rfl) ?_
  refine bv_blk C frk_X9 csk_X9 2 41 rfl (L1 := ([(5, .int (((Int32.toUInt32 (((g 1 5) * (1664525)) + (1013904223)) >>> (Int32.toUInt32 (8) &&& Int32.toUInt32 31)).toInt32) - ((Int32.toUInt32 (((g 1 5) * (1664525)) + (1013904223)) >>> (Int32.toUInt32 (8) &&& Int32.toUInt32 31)).toInt32) / ((g 1 7) + (1)) * ((g 1 7) + (1)))), (0, .ref 0), (1, .int (nI fr)), (2, .int b0), (3, .int b1), (4, .int t)] : Lc)) (st1 := ([.int ((g 1 4) + t), .int (4), .ref 1] : List Value)) (w1 := (layM (ug (ug g 1 5 (((g 1 5) * (1664525)) + (1013904223))) 1 3 ((g 1 3) + (1))) h)) (by rfl) ?_
  refine bv_iast C rfl rfl (by decide) (j := 4) (by exact rfl) (by first | decide | omega) (by decide) ?_
  rw [lm_up rfl]
  refine bv_blk C frk_X9 csk_X9 3 45 rfl (L1 := ([(5, .int (((Int32.toUInt32 (((g 1 5) * (1664525)) + (1013904223)) >>> (Int32.toUInt32 (8) &&& Int32.toUInt32 31)).toInt32) - ((Int32.toUInt32 (((g 1 5) * (1664525)) + (1013904223)) >>> (Int32.toUInt32 (8) &&& Int32.toUInt32 31)).toInt32) / ((g 1 7) + (1)) * ((g 1 7) + (1)))), (0, .ref 0), (1, .int (nI fr)), (2, .int b0), (3, .int b1), (4, .int t)] : Lc)) (st1 := ([] : List Value)) (w1 := up2 (layM (ug (ug (ug g 1 5 (((g 1 5) * (1664525)) + (1013904223))) 1 3 ((g 1 3) + (1))) 1 4 ((g 1 4) + t)) h) 0 5 (.int (-100000))) (by rfl) ?_
  rw [lm_up rfl]
  refine bv_blk C frk_X9 csk_X9 3 48 rfl (L1 := ([(5, .int (((Int32.toUInt32 (((g 1 5) * (1664525)) + (1013904223)) >>> (Int32.toUInt32 (8) &&& Int32.toUInt32 31)).toInt32) - ((Int32.toUInt32 (((g 1 5) * (1664525)) + (1013904223)) >>> (Int32.toUInt32 (8) &&& Int32.toUInt32 31)).toInt32) / ((g 1 7) + (1)) * ((g 1 7) + (1)))), (0, .ref 0), (1, .int (nI fr)), (2, .int b0), (3, .int b1), (4, .int t)] : Lc)) (st1 := ([.int (12), .ref 1] : List Value)) (w1 := (layM (ug (ug (ug (ug g 1 5 (((g 1 5) * (1664525)) + (1013904223))) 1 3 ((g 1 3) + (1))) 1 4 ((g 1 4) + t)) 0 5 (-100000)) h)) (by rfl) ?_
  refine bv_iald C rfl rfl (by decide) (j := 12) (by exact rfl) (by first | decide | omega) (by decide) (y := (g 1 12)) (by rfl) ?_
  refine bv_if_ne (j := 52) C rfl rfl (fun c1 => ?_) (fun c1 => ?_)
  · have hn0 : ¬ n = 0 := fun z => c1 (by rw [hn, z]; rfl)
    refine bv_blk C frk_X9 csk_X9 5 57 rfl (L1 := ([(5, .int (((Int32.toUInt32 (((g 1 5) * (1664525)) + (1013904223)) >>> (Int32.toUInt32 (8) &&& Int32.toUInt32 31)).toInt32) - ((Int32.toUInt32 (((g 1 5) * (1664525)) + (1013904223)) >>> (Int32.toUInt32 (8) &&& Int32.toUInt32 31)).toInt32) / ((g 1 7) + (1)) * ((g 1 7) + (1)))), (0, .ref 0), (1, .int (nI fr)), (2, .int b0), (3, .int b1), (4, .int t)] : Lc)) (st1 := ([.int b1, .int b0, .int (nI fr), .ref 0, .ref 0] : List Value)) (w1 := (layM (ug (ug (ug (ug g 1 5 (((g 1 5) * (1664525)) + (1013904223))) 1 3 ((g 1 3) + (1))) 1 4 ((g 1 4) + t)) 0 5 (-100000)) h)) (by rfl) ?_
    refine bv_fV1 C rfl (ct_qualityA hE _ g _ fr n b0 b1 hf (fun k hk => by simp [ug, show k ≠ 3 by omega, show k ≠ 4 by omega, show k ≠ 5 by omega]) hk) ml_X9_106 im_X9_qualityOf sel_X9_qualityOf ini_X9 cd_X9_qualityOf ok_X9_qualityOf rfl ⟨Nat.le_of_ble_eq_true rfl, Nat.le_of_ble_eq_true rfl⟩ ⟨Nat.zero_le _, Nat.zero_le _⟩ (by decide) rfl rfl rfl (rest := ([.ref 0] : List Value)) rfl (Nat.le_of_ble_eq_true rfl) ?_
    refine bv_blk C frk_X9 csk_X9 3 61 rfl (L1 := ([(5, .int (((Int32.toUInt32 (((g 1 5) * (1664525)) + (1013904223)) >>> (Int32.toUInt32 (8) &&& Int32.toUInt32 31)).toInt32) - ((Int32.toUInt32 (((g 1 5) * (1664525)) + (1013904223)) >>> (Int32.toUInt32 (8) &&& Int32.toUInt32 31)).toInt32) / ((g 1 7) + (1)) * ((g 1 7) + (1)))), (0, .ref 0), (1, .int (nI fr)), (2, .int b0), (3, .int b1), (4, .int t)] : Lc)) (st1 := ([] : List Value)) (w1 := up2 (layM (ug (ug (ug (ug g 1 5 (((g 1 5) * (1664525)) + (1013904223))) 1 3 ((g 1 3) + (1))) 1 4 ((g 1 4) + t)) 0 5 (-100000)) h) 0 5 (.int ((quaG g fr b0 b1 n) - (((Int32.toUInt32 (((g 1 5) * (1664525)) + (1013904223)) >>> (Int32.toUInt32 (8) &&& Int32.toUInt32 31)).toInt32) - ((Int32.toUInt32 (((g 1 5) * (1664525)) + (1013904223)) >>> (Int32.toUInt32 (8) &&& Int32.toUInt32 31)).toInt32) / ((g 1 7) + (1)) * ((g 1 7) + (1)))))) (by rfl) ?_
    rw [lm_up rfl]
    refine bv_blk C frk_X9 csk_X9 5 66 rfl (L1 := ([(5, .int (((Int32.toUInt32 (((g 1 5) * (1664525)) + (1013904223)) >>> (Int32.toUInt32 (8) &&& Int32.toUInt32 31)).toInt32) - ((Int32.toUInt32 (((g 1 5) * (1664525)) + (1013904223)) >>> (Int32.toUInt32 (8) &&& Int32.toUInt32 31)).toInt32) / ((g 1 7) + (1)) * ((g 1 7) + (1)))), (0, .ref 0), (1, .int (nI fr)), (2, .int b0), (3, .int b1), (4, .int t)] : Lc)) (st1 := ([.int (6), .ref 1, .int ((quaG g fr b0 b1 n) - (((Int32.toUInt32 (((g 1 5) * (1664525)) + (1013904223)) >>> (Int32.toUInt32 (8) &&& Int32.toUInt32 31)).toInt32) - ((Int32.toUInt32 (((g 1 5) * (1664525)) + (1013904223)) >>> (Int32.toUInt32 (8) &&& Int32.toUInt32 31)).toInt32) / ((g 1 7) + (1)) * ((g 1 7) + (1))))] : List Value)) (w1 := (layM (ug (ug (ug (ug (ug g 1 5 (((g 1 5) * (1664525)) + (1013904223))) 1 3 ((g 1 3) + (1))) 1 4 ((g 1 4) + t)) 0 5 (-100000)) 0 5 ((quaG g fr b0 b1 n) - (((Int32.toUInt32 (((g 1 5) * (1664525)) + (1013904223)) >>> (Int32.toUInt32 (8) &&& Int32.toUInt32 31)).toInt32) - ((Int32.toUInt32 (((g 1 5) * (1664525)) + (1013904223)) >>> (Int32.toUInt32 (8) &&& Int32.toUInt32 31)).toInt32) / ((g 1 7) + (1)) * ((g 1 7) + (1))))) h)) (by rfl) ?_
    refine bv_iald C rfl rfl (by decide) (j := 6) (by exact rfl) (by first | decide | omega) (by decide) (y := (g 1 6)) (by rfl) ?_
    refine bv_icmp_lt (j := 70) C rfl rfl (fun c2 => ?_) (fun c2 => ?_)
    · refine bv_blk C frk_X9 csk_X9 1 71 rfl (L1 := ([(5, .int (((Int32.toUInt32 (((g 1 5) * (1664525)) + (1013904223)) >>> (Int32.toUInt32 (8) &&& Int32.toUInt32 31)).toInt32) - ((Int32.toUInt32 (((g 1 5) * (1664525)) + (1013904223)) >>> (Int32.toUInt32 (8) &&& Int32.toUInt32 31)).toInt32) / ((g 1 7) + (1)) * ((g 1 7) + (1)))), (0, .ref 0), (1, .int (nI fr)), (2, .int b0), (3, .int b1), (4, .int t)] : Lc)) (st1 := ([.int (0)] : List Value)) (w1 := (layM (ug (ug (ug (ug (ug g 1 5 (((g 1 5) * (1664525)) + (1013904223))) 1 3 ((g 1 3) + (1))) 1 4 ((g 1 4) + t)) 0 5 (-100000)) 0 5 ((quaG g fr b0 b1 n) - (((Int32.toUInt32 (((g 1 5) * (1664525)) + (1013904223)) >>> (Int32.toUInt32 (8) &&& Int32.toUInt32 31)).toInt32) - ((Int32.toUInt32 (((g 1 5) * (1664525)) + (1013904223)) >>> (Int32.toUInt32 (8) &&& Int32.toUInt32 31)).toInt32) / ((g 1 7) + (1)) * ((g 1 7) + (1))))) h)) (by rfl) ?_
      exact bv_iret C rfl hr rfl ⟨by (unfold hrdG msrG; rw [if_neg hn0, if_neg hn0]; simp only [b2i, fadeG, remI, c2, Bool.false_eq_true, decide_true, decide_false, not_true, not_false_iff, if_true, if_false, ↓reduceIte]), by (unfold sntG msrG; rw [if_neg hn0, ug_ug]; rfl)⟩
    · refine bv_blk C frk_X9 csk_X9 1 69 rfl (L1 := ([(5, .int (((Int32.toUInt32 (((g 1 5) * (1664525)) + (1013904223)) >>> (Int32.toUInt32 (8) &&& Int32.toUInt32 31)).toInt32) - ((Int32.toUInt32 (((g 1 5) * (1664525)) + (1013904223)) >>> (Int32.toUInt32 (8) &&& Int32.toUInt32 31)).toInt32) / ((g 1 7) + (1)) * ((g 1 7) + (1)))), (0, .ref 0), (1, .int (nI fr)), (2, .int b0), (3, .int b1), (4, .int t)] : Lc)) (st1 := ([.int (1)] : List Value)) (w1 := (layM (ug (ug (ug (ug (ug g 1 5 (((g 1 5) * (1664525)) + (1013904223))) 1 3 ((g 1 3) + (1))) 1 4 ((g 1 4) + t)) 0 5 (-100000)) 0 5 ((quaG g fr b0 b1 n) - (((Int32.toUInt32 (((g 1 5) * (1664525)) + (1013904223)) >>> (Int32.toUInt32 (8) &&& Int32.toUInt32 31)).toInt32) - ((Int32.toUInt32 (((g 1 5) * (1664525)) + (1013904223)) >>> (Int32.toUInt32 (8) &&& Int32.toUInt32 31)).toInt32) / ((g 1 7) + (1)) * ((g 1 7) + (1))))) h)) (by rfl) ?_
      refine bv_goto (j := 71) C rfl rfl ?_
      exact bv_iret C rfl hr rfl ⟨by (unfold hrdG msrG; rw [if_neg hn0, if_neg hn0]; simp only [b2i, fadeG, remI, c2, Bool.false_eq_true, decide_true, decide_false, not_true, not_false_iff, if_true, if_false, ↓reduceIte]), by (unfold sntG msrG; rw [if_neg hn0, ug_ug]; rfl)⟩
  · refine bv_blk C frk_X9 csk_X9 1 51 rfl (L1 := ([(5, .int (((Int32.toUInt32 (((g 1 5) * (1664525)) + (1013904223)) >>> (Int32.toUInt32 (8) &&& Int32.toUInt32 31)).toInt32) - ((Int32.toUInt32 (((g 1 5) * (1664525)) + (1013904223)) >>> (Int32.toUInt32 (8) &&& Int32.toUInt32 31)).toInt32) / ((g 1 7) + (1)) * ((g 1 7) + (1)))), (0, .ref 0), (1, .int (nI fr)), (2, .int b0), (3, .int b1), (4, .int t)] : Lc)) (st1 := ([.int (0)] : List Value)) (w1 := (layM (ug (ug (ug (ug g 1 5 (((g 1 5) * (1664525)) + (1013904223))) 1 3 ((g 1 3) + (1))) 1 4 ((g 1 4) + t)) 0 5 (-100000)) h)) (by rfl) ?_
    exact bv_iret C rfl hr rfl ⟨by (unfold hrdG; rw [if_pos ((nI_eq (a := n) (b := 0) (by omega) (by omega)).mp (hn.symm.trans c1))]; try rfl), by (unfold sntG msrG; rw [if_pos ((nI_eq (a := n) (b := 0) (by omega) (by omega)).mp (hn.symm.trans c1))]; try rfl)⟩
