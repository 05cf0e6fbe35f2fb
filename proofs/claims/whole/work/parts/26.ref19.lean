def apI (many o x y sep : Int32) : Bool := decide (y = -100000) || decide (¬ angI (ptI many o x) (ptI many o y) < sep)
set_option maxRecDepth 100000 in
set_option maxHeartbeats 4000000 in
theorem ct_isApart {l : Launch} {D : va_G} {cA : FieldType → ClassId} {z0 : Nat} {SK SV : Nat → Nat} {ad : Nat → Nat} (hE : aD (fun q => z0 ≤ q) ad 9) (g : Nat → Nat → Int32) (h : Int64) (s : Nat) (x y t : Int32) (hs2 : s < 2) (hm : ¬ g 1 (15 + 20 * s + 0) = 0) : bF l D cA z0 SK SV ad shM 9 yX9_isApart cX9_isApart 5 (some .boolean) 3 [.ref 0, .int (nI s), .int x, .int y, .int t] (layM g h) (some (.int (b2i (apI (g 1 (15 + 20 * s + 0)) (g 1 (15 + 20 * s + 1)) x y t)))) (layM g h) := by
  refine bCT_intro (tb := tb_X9_isApart) (own := RX9) hE pn_X9 rfl tk_X9_isApart rfl (Nat.le_of_ble_eq_true rfl) ?_
  intro p e s0 m args below meth c C hr
  refine bv_blk C frk_X9 csk_X9 2 2 rfl (L1 := ([(0, .ref 0), (1, .int (nI s)), (2, .int x), (3, .int y), (4, .int t)] : Lc)) (st1 := ([.int (-100000), .int y] : List Value)) (w1 := (layM g h)) (by rfl) ?_
  refine bv_icmp_eq (j := 14) C rfl rfl (fun c1 => ?_) (fun c1 => ?_)
  · refine bv_blk C frk_X9 csk_X9 1 15 rfl (L1 := ([(0, .ref 0), (1, .int (nI s)), (2, .int x), (3, .int y), (4, .int t)] : Lc)) (st1 := ([.int (1)] : List Value)) (w1 := (layM g h)) (by rfl) ?_
    refine bv_goto (j := 17) C rfl rfl ?_
    exact bv_iret C rfl hr rfl ⟨by (unfold apI; simp only [b2i, c1, decide_true, decide_false, Bool.true_or, Bool.false_or, Bool.or_true, Bool.or_false, not_true, not_false_iff, Bool.false_eq_true, if_true, if_false, ↓reduceIte]), by (rfl)⟩
  · refine bv_blk C frk_X9 csk_X9 3 6 rfl (L1 := ([(0, .ref 0), (1, .int (nI s)), (2, .int x), (3, .int y), (4, .int t)] : Lc)) (st1 := ([.int x, .int (nI s), .ref 0] : List Value)) (w1 := (layM g h)) (by rfl) ?_
    refine bv_fV1 C rfl (ct_pointsTo hE _ _ s x (by omega) hm) ml_X9_79 im_X9_pointsTo sel_X9_pointsTo ini_X9 cd_X9_pointsTo ok_X9_pointsTo rfl ⟨Nat.le_of_ble_eq_true rfl, Nat.le_of_ble_eq_true rfl⟩ ⟨Nat.zero_le _, Nat.zero_le _⟩ (by decide) rfl rfl rfl (rest := ([] : List Value)) rfl (Nat.le_of_ble_eq_true rfl) ?_
    refine bv_blk C frk_X9 csk_X9 3 10 rfl (L1 := ([(0, .ref 0), (1, .int (nI s)), (2, .int x), (3, .int y), (4, .int t)] : Lc)) (st1 := ([.int y, .int (nI s), .ref 0, .int (ptI (g 1 (15 + 20 * s + 0)) (g 1 (15 + 20 * s + 1)) x)] : List Value)) (w1 := (layM g h)) (by rfl) ?_
    refine bv_fV1 C rfl (ct_pointsTo hE _ _ s y (by omega) hm) ml_X9_79 im_X9_pointsTo sel_X9_pointsTo ini_X9 cd_X9_pointsTo ok_X9_pointsTo rfl ⟨Nat.le_of_ble_eq_true rfl, Nat.le_of_ble_eq_true rfl⟩ ⟨Nat.zero_le _, Nat.zero_le _⟩ (by decide) rfl rfl rfl (rest := ([.int (ptI (g 1 (15 + 20 * s + 0)) (g 1 (15 + 20 * s + 1)) x)] : List Value)) rfl (Nat.le_of_ble_eq_true rfl) ?_
    refine bv_fS1 C rfl (ct_angle hE _ (ptI (g 1 (15 + 20 * s + 0)) (g 1 (15 + 20 * s + 1)) x) (ptI (g 1 (15 + 20 * s + 0)) (g 1 (15 + 20 * s + 1)) y)) ml_X9_82 st_X9_angle ini_X9 cd_X9_angle ok_X9_angle rfl ⟨Nat.le_of_ble_eq_true rfl, Nat.le_of_ble_eq_true rfl⟩ ⟨Nat.zero_le _, Nat.zero_le _⟩ (rest := ([] : List Value)) rfl (Nat.le_of_ble_eq_true rfl) ?_
    refine bv_blk C frk_X9 csk_X9 1 13 rfl (L1 := ([(0, .ref 0), (1, .int (nI s)), (2, .int x), (3, .int y), (4, .int t)] : Lc)) (st1 := ([.int t, .int (angI (ptI (g 1 (15 + 20 * s + 0)) (g 1 (15 + 20 * s + 1)) x) (ptI (g 1 (15 + 20 * s + 0)) (g 1 (15 + 20 * s + 1)) y))] : List Value)) (w1 := (layM g h)) (by rfl) ?_
    refine bv_icmp_lt (j := 16) C rfl rfl (fun c2 => ?_) (fun c2 => ?_)
    · refine bv_blk C frk_X9 csk_X9 1 17 rfl (L1 := ([(0, .ref 0), (1, .int (nI s)), (2, .int x), (3, .int y), (4, .int t)] : Lc)) (st1 := ([.int (0)] : List Value)) (w1 := (layM g h)) (by rfl) ?_
      exact bv_iret C rfl hr rfl ⟨by (unfold apI; simp only [b2i, c1, c2, decide_true, decide_false, Bool.true_or, Bool.false_or, Bool.or_true, Bool.or_false, not_true, not_false_iff, Bool.false_eq_true, if_true, if_false, ↓reduceIte]), by (rfl)⟩
    · refine bv_blk C frk_X9 csk_X9 1 15 rfl (L1 := ([(0, .ref 0), (1, .int (nI s)), (2, .int x), (3, .int y), (4, .int t)] : Lc)) (st1 := ([.int (1)] : List Value)) (w1 := (layM g h)) (by rfl) ?_
      refine bv_goto (j := 17) C rfl rfl ?_
      exact bv_iret C rfl hr rfl ⟨by (unfold apI; simp only [b2i, c1, c2, decide_true, decide_false, Bool.true_or, Bool.false_or, Bool.or_true, Bool.or_false, not_true, not_false_iff, Bool.false_eq_true, if_true, if_false, ↓reduceIte]), by (rfl)⟩
