def apI (many o x y sep : Int32) : Bool := decide (y = -100000) || decide (¬ angI (ptI many o x) (ptI many o y) < sep)
set_option maxRecDepth 100000 in
set_option maxHeartbeats 4000000 in
theorem ct_isApart {l : Launch} {D : va_G} {cA : FieldType → ClassId} {z0 : Nat} {SK SV : Nat → Nat} {ad : Nat → Nat} (hE : aD (fun q => z0 ≤ q) ad 9) (g : Nat → Nat → Int32) (h : Int64) (s : Nat) (x y t : Int32) (hs2 : s < 2) (hm : ¬ g 1 (15 + 20 * s + 0) = 0) : bF l D cA z0 SK SV ad shM 9 yX9_isApart cX9_isApart 5 (some .boolean) 3 [.ref 0, .int (nI s), .int x, .int y, .int t] (layM g h) (some (.int (b2i (apI (g 1 (15 + 20 * s + 0)) (g 1 (15 + 20 * s + 1)) x y t)))) (layM g h) := by
  refine bCT_intro (tb := tb_X9_isApart) (own := RX9) hE pn_X9 rfl tk_X9_isApart rfl (Nat.le_of_ble_eq_true rfl) ?_
  intro p e s0 m args below meth c C hr
  refine bv_blk C frk_X9 csk_X9 2 2 rfl (L1 := ([(0, .ref 0), (1, .int (nI s)), (2, .int x), (3, .int y), (4, .int t)] : Lc)) (st1 := ([.int (-100000), .int y] : List Value)) (w1 := (layM g h)) (by rfl) ?_
  refine bv_icmp_eq (j := 14) C rfl rfl (fun c1 => ?_) (fun c1 => ?_)
  · refine bv_blk C frk_X9 csk_X9 1 15 rfl (L1 := ([(0, .ref 0), (1, .int (nI s)), (2, .int x), (3, .int y), (4, .int t)] : Lc)) (st1 := ([.int (1)] : List Value)) (w1 := (layM g h)) (by rfl) ?_
    refine bv_goto (j := 17) C rfl rfl ?_
    exact bv_iret C rfl hr rfl ⟨by (unfold apI; simp only [b2i, c1, decide_true, decide_false, Bool.true_or, Bool.false_or, Bool.or_true, Bool.or_false, not_true, not_false_iff, Bool.false_eq_true, if_true, if_false, ↓reduceIte]), by (rfl)⟩
  · refine bv_blk C frk_X9 csk_X9 3 6 rfl (L1 := ([(0, .ref 0), (1, .int (nI s)), (2, .int x), (3, .int y), (4, .int t)] : Lc)) (st1 := ([.int x, .int (nI s), .ref 0] : List Value)) (w1 := (layM g h)) (by rfl) ?_
    refine bv_fV1 C rfl (ct_pointsTo hE _ _ s x (by omega) hm) ml_X9_79 im_X9_pointsTo sel_X9_pointsTo ini_X9 cd_X9_pointsTo ok_X9_pointsTo rfl ⟨Nat.le_of_ble_eq_true rfl, Nat.le_of_ble_eq_true rfl⟩ ⟨Nat.zero_le _, Nat.zero_le _⟩ (by decide) rfl rfl rfl (rest := ([] : List Value)) rfl (Nat.le_of_ble_eq_true rfl) ?_
    refine bv_blk C frk_X9 csk_X9 3 10 rfl (L1 := ([(0, .ref 0), (1, .int (nI s)), (2, .int x), (3, .int y), (4, .int t)] : Lc)) (st1 := ([.int y, .int (nI s), .ref 0, .int (ptI (g 1 (15 + 20 * s + 0)) (g 1 (15 + 20 * s + 1)) x)] : List Value)) (w1 := (layM g h)) (by rfl) ?_
    refine bv_fV1 C rfl (ct_pointsTo hE _ _ s y (by omega) hm) ml_X9_79 im_X9_pointsTo sel_X9_pointsTo ini_X9 cd_X9_pointsTo ok_X9_pointsTo rfl ⟨Nat.le_of_ble_eq_true rfl, Nat.le_of_ble_eq_true rfl⟩ ⟨Nat.zero_le _, Nat.zero_le _⟩ (by decide) rfl rfl rfl (rest := ([.int (ptI (g 1 (15 + 20 * s + 0)) (g 1 (15 + 20 * s + 1)) x)] : List Value)) rfl (Nat.le_of_ble_eq_true rfl) ?_
    refine bv_fS1 C rfl (ct_angle hE _ (ptI (g 1 (15 + 20 * s + 0)) (g 1 (15 + 20 * s + 1)) x) (ptI (g 1 (15 + 20 * s + 0)) (g 1 (15 + 20 * s + 1)) y)) ml_X9_82 st_X9_angle ini_X9 cd_X9_angle ok_X9_angle rfl ⟨Nat.le_of_ble_eq_true rfl, Nat.le_of_ble_eq_true rfl⟩ ⟨Nat.zero_le _, Nat.zero_le _⟩ (rest := ([] : List Value)) rfl (Nat.le_of_ble_eq_true rfl) ?_
    refine bv_blk C frk_X9 csk_X9 1 13 rfl (L1 := ([(0, .ref 0), (1, .int (nI s)), (2, .int x), (3, .int y), (4, .int t)] : Lc)) (st1 := ([.int t, .int (angI (ptI (g 1 (15 + 20 * s + 0)) (g 1 (15 + 20 * s + 1)) x) (ptI (g 1 (15 + 20 * s + 0)) (g 1 (15 + 20 * s + 1)) y))] : List Value)) (w1 := (layM g h)) (by rfl) ?_
    refine bv_icmp_lt (j := 16) C rfl rfl (fun c2 => ?_) (fun c2 => ?_)
    · refine bv_blk C frk_X9 csk_X9 1 17 rfl (L1 := ([(0, .ref 0), (1, .int (nI s)), (2, .int x), (3, .int y), (4, .int t)] : Lc)) (st1 := ([.int (0)] : List Value)) (w1 := (layM g h)) (by rfl) ?_
      exact bv_iret C rfl hr rfl ⟨by (unfold apI; simp only [b2i, c1, c2, decide_true, decide_false, Bool.true_or, Bool.false_or, Bool.or_true, Bool.or_false, not_true, not_false_iff, Bool.false_eq_true, if_true, if_false, ↓reduceIte]), by (rfl)⟩
    · refine bv_blk C frk_X9 csk_X9 1 15 rfl (L1 := ([(0, .ref 0), (1, .int (nI s)), (2, .int x), (3, .int y), (4, .int t)] : Lc)) (st1 := ([.int (1)] : List Value)) (w1 := (layM g h)) (by rfl) ?_
      refine bv_goto (j := 17) C rfl rfl ?_
      exact bv_iret C rfl hr rfl ⟨by (unfold apI; simp only [b2i, c1, c2, decide_true, decide_false, Bool.true_or, Bool.false_or, Bool.or_true, Bool.or_false, not_true, not_false_iff, Bool.false_eq_true, if_true, if_false, ↓reduceIte]), by (rfl)⟩
def blS (t : Nat → Int32) (k : Nat) (o : Option Nat) : Option Nat := if t k = -100000 then o else match o with
  | none => some k
  | some b => if t k ≤ t b then some b else some k
def blF (t : Nat → Int32) : Nat → Nat → Option Nat → Option Nat
  | 0, _, o => o
  | n + 1, k, o => blF t n (k + 1) (blS t k o)
set_option maxRecDepth 100000 in
set_option maxHeartbeats 4000000 in
theorem ct_bestLeft {l : Launch} {D : va_G} {cA : FieldType → ClassId} {z0 : Nat} {SK SV : Nat → Nat} {ad : Nat → Nat} (hE : aD (fun q => z0 ≤ q) ad 9) (g : Nat → Nat → Int32) (h : Int64)  : bF l D cA z0 SK SV ad shM 9 yX9_bestLeft cX9_bestLeft 3 (some .int) 0 [.ref 0] (layM g h) (some (.int (bi (blF (g 4) 256 0 none)))) (layM g h) := by
  refine bCT_intro (tb := tb_X9_bestLeft) (own := RX9) hE pn_X9 rfl tk_X9_bestLeft rfl (Nat.le_of_ble_eq_true rfl) ?_
  intro p e s0 m args below meth c C hr
  refine bv_blk C frk_X9 csk_X9 4 4 rfl (L1 := ([(2, .int (0)), (1, .int (-1)), (0, .ref 0)] : Lc)) (st1 := ([] : List Value)) (w1 := (layM g h)) (by rfl) ?_
  have lp : ∀ (mm k : Nat) (o : Option Nat), k + mm = 256 → (∀ b, o = some b → b < k) → blF (g 4) mm k o = blF (g 4) 256 0 none → bV p l e (bR 0) s0 m args below meth c D cA shM (adA ad 9) 3 tb_X9_bestLeft (MQ below (bQ D cA ad shM 9 (fun r w1 => r = (some (.int (bi (blF (g 4) 256 0 none)))) ∧ w1 = (layM g h))) args s0 0 0 (adA ad 9)) ad 9 0 0 (layM g h) 4 ([(2, .int (nI k)), (1, .int (bi o)), (0, .ref 0)] : Lc) ([] : List Value) := by
    intro mm
    induction mm with
    | zero =>
      intro k o hk ho heq
      refine bv_blk C frk_X9 csk_X9 2 6 rfl (L1 := ([(2, .int (nI k)), (1, .int (bi o)), (0, .ref 0)] : Lc)) (st1 := ([.int (256), .int (nI k)] : List Value)) (w1 := (layM g h)) (by rfl) ?_
      refine bv_icmp_ge (j := 30) C rfl rfl (fun _ => ?_) (fun h => absurd (nI_le (a := 256) (b := k) (by omega) (by omega)) h)
      refine bv_blk C frk_X9 csk_X9 1 31 rfl (L1 := ([(2, .int (nI k)), (1, .int (bi o)), (0, .ref 0)] : Lc)) (st1 := ([.int (bi o)] : List Value)) (w1 := (layM g h)) (by rfl) ?_
      exact bv_iret C rfl hr rfl ⟨by (rw [← heq]; rfl), by (rfl)⟩
    | succ mm ih =>
      intro k o hk ho heq
      cases o with
      | none =>
        refine bv_blk C frk_X9 csk_X9 2 6 rfl (L1 := ([(2, .int (nI k)), (1, .int (-1)), (0, .ref 0)] : Lc)) (st1 := ([.int (256), .int (nI k)] : List Value)) (w1 := (layM g h)) (by rfl) ?_
        refine bv_icmp_ge (j := 30) C rfl rfl (fun h => absurd h (nI_ge (a := k) (b := 256) (by omega) (by omega))) (fun _ => ?_)
        refine bv_blk C frk_X9 csk_X9 3 10 rfl (L1 := ([(2, .int (nI k)), (1, .int (-1)), (0, .ref 0)] : Lc)) (st1 := ([.int (nI k), .ref 4] : List Value)) (w1 := (layM g h)) (by rfl) ?_
        refine bv_iald C rfl rfl (by decide) (j := k) (by exact rfl) (by first | decide | omega) (by decide) (y := (g 4 k)) (by rfl) ?_
        refine bv_blk C frk_X9 csk_X9 1 12 rfl (L1 := ([(2, .int (nI k)), (1, .int (-1)), (0, .ref 0)] : Lc)) (st1 := ([.int (-100000), .int (g 4 k)] : List Value)) (w1 := (layM g h)) (by rfl) ?_
        refine bv_icmp_eq (j := 26) C rfl rfl (fun c3 => ?_) (fun c3 => ?_)
        · refine bv_blk C frk_X9 csk_X9 3 29 rfl (L1 := ([(2, .int ((nI k) + Int32.ofInt 1)), (1, .int (-1)), (0, .ref 0)] : Lc)) (st1 := ([] : List Value)) (w1 := (layM g h)) (by rfl) ?_
          rw [show ((nI k) + Int32.ofInt 1) = nI (k + 1) from (nIi rfl)]
          refine bv_goto (j := 4) C rfl rfl ?_
          refine bv_sub [0, 1, 2] (by rfl) ?_
          refine ih (k + 1) none (by omega) (fun b hb => by first | (cases hb; done) | (cases hb; omega)) ?_
          rw [← heq]; simp only [blF, blS, c3, if_true, if_false, ↓reduceIte]
        · refine bv_blk C frk_X9 csk_X9 1 14 rfl (L1 := ([(2, .int (nI k)), (1, .int (-1)), (0, .ref 0)] : Lc)) (st1 := ([.int (-1)] : List Value)) (w1 := (layM g h)) (by rfl) ?_
          refine bv_if_lt (j := 24) C rfl rfl (fun _ => ?_) (fun h => absurd h (by decide))
          refine bv_blk C frk_X9 csk_X9 1 25 rfl (L1 := ([(2, .int (nI k)), (1, .int (-1)), (0, .ref 0)] : Lc)) (st1 := ([.int (nI k)] : List Value)) (w1 := (layM g h)) (by rfl) ?_
          refine bv_goto (j := 27) C rfl rfl ?_
          refine bv_blk C frk_X9 csk_X9 2 29 rfl (L1 := ([(2, .int ((nI k) + Int32.ofInt 1)), (1, .int (nI k)), (0, .ref 0)] : Lc)) (st1 := ([] : List Value)) (w1 := (layM g h)) (by rfl) ?_
          rw [show ((nI k) + Int32.ofInt 1) = nI (k + 1) from (nIi rfl)]
          refine bv_goto (j := 4) C rfl rfl ?_
          refine bv_sub [0, 1, 2] (by rfl) ?_
          refine ih (k + 1) (some k) (by omega) (fun b hb => by first | (cases hb; done) | (cases hb; omega)) ?_
          rw [← heq]; simp only [blF, blS, c3, if_true, if_false, ↓reduceIte]
      | some b =>
        have hb : b < k := ho b rfl
        refine bv_blk C frk_X9 csk_X9 2 6 rfl (L1 := ([(2, .int (nI k)), (1, .int (nI b)), (0, .ref 0)] : Lc)) (st1 := ([.int (256), .int (nI k)] : List Value)) (w1 := (layM g h)) (by rfl) ?_
        refine bv_icmp_ge (j := 30) C rfl rfl (fun h => absurd h (nI_ge (a := k) (b := 256) (by omega) (by omega))) (fun _ => ?_)
        refine bv_blk C frk_X9 csk_X9 3 10 rfl (L1 := ([(2, .int (nI k)), (1, .int (nI b)), (0, .ref 0)] : Lc)) (st1 := ([.int (nI k), .ref 4] : List Value)) (w1 := (layM g h)) (by rfl) ?_
        refine bv_iald C rfl rfl (by decide) (j := k) (by exact rfl) (by first | decide | omega) (by decide) (y := (g 4 k)) (by rfl) ?_
        refine bv_blk C frk_X9 csk_X9 1 12 rfl (L1 := ([(2, .int (nI k)), (1, .int (nI b)), (0, .ref 0)] : Lc)) (st1 := ([.int (-100000), .int (g 4 k)] : List Value)) (w1 := (layM g h)) (by rfl) ?_
        refine bv_icmp_eq (j := 26) C rfl rfl (fun c6 => ?_) (fun c6 => ?_)
        · refine bv_blk C frk_X9 csk_X9 3 29 rfl (L1 := ([(2, .int ((nI k) + Int32.ofInt 1)), (1, .int (nI b)), (0, .ref 0)] : Lc)) (st1 := ([] : List Value)) (w1 := (layM g h)) (by rfl) ?_
          rw [show ((nI k) + Int32.ofInt 1) = nI (k + 1) from (nIi rfl)]
          refine bv_goto (j := 4) C rfl rfl ?_
          refine bv_sub [0, 1, 2] (by rfl) ?_
          refine ih (k + 1) (some b) (by omega) (fun b hb => by first | (cases hb; done) | (cases hb; omega)) ?_
          rw [← heq]; simp only [blF, blS, c6, if_true, if_false, ↓reduceIte]
        · refine bv_blk C frk_X9 csk_X9 1 14 rfl (L1 := ([(2, .int (nI k)), (1, .int (nI b)), (0, .ref 0)] : Lc)) (st1 := ([.int (nI b)] : List Value)) (w1 := (layM g h)) (by rfl) ?_
          refine bv_if_lt (j := 24) C rfl rfl (fun h => absurd h (nI_nlt (a := b) (b := 0) (by omega) (by omega))) (fun _ => ?_)
          refine bv_blk C frk_X9 csk_X9 3 18 rfl (L1 := ([(2, .int (nI k)), (1, .int (nI b)), (0, .ref 0)] : Lc)) (st1 := ([.int (nI k), .ref 4] : List Value)) (w1 := (layM g h)) (by rfl) ?_
          refine bv_iald C rfl rfl (by decide) (j := k) (by exact rfl) (by first | decide | omega) (by decide) (y := (g 4 k)) (by rfl) ?_
          refine bv_blk C frk_X9 csk_X9 3 22 rfl (L1 := ([(2, .int (nI k)), (1, .int (nI b)), (0, .ref 0)] : Lc)) (st1 := ([.int (nI b), .ref 4, .int (g 4 k)] : List Value)) (w1 := (layM g h)) (by rfl) ?_
          refine bv_iald C rfl rfl (by decide) (j := b) (by exact rfl) (by first | decide | omega) (by decide) (y := (g 4 b)) (by rfl) ?_
          refine bv_icmp_le (j := 26) C rfl rfl (fun c8 => ?_) (fun c8 => ?_)
          · refine bv_blk C frk_X9 csk_X9 3 29 rfl (L1 := ([(2, .int ((nI k) + Int32.ofInt 1)), (1, .int (nI b)), (0, .ref 0)] : Lc)) (st1 := ([] : List Value)) (w1 := (layM g h)) (by rfl) ?_
            rw [show ((nI k) + Int32.ofInt 1) = nI (k + 1) from (nIi rfl)]
            refine bv_goto (j := 4) C rfl rfl ?_
            refine bv_sub [0, 1, 2] (by rfl) ?_
            refine ih (k + 1) (some b) (by omega) (fun b hb => by first | (cases hb; done) | (cases hb; omega)) ?_
            rw [← heq]; simp only [blF, blS, c6, c8, if_true, if_false, ↓reduceIte]
          · refine bv_blk C frk_X9 csk_X9 1 25 rfl (L1 := ([(2, .int (nI k)), (1, .int (nI b)), (0, .ref 0)] : Lc)) (st1 := ([.int (nI k)] : List Value)) (w1 := (layM g h)) (by rfl) ?_
            refine bv_goto (j := 27) C rfl rfl ?_
            refine bv_blk C frk_X9 csk_X9 2 29 rfl (L1 := ([(2, .int ((nI k) + Int32.ofInt 1)), (1, .int (nI k)), (0, .ref 0)] : Lc)) (st1 := ([] : List Value)) (w1 := (layM g h)) (by rfl) ?_
            rw [show ((nI k) + Int32.ofInt 1) = nI (k + 1) from (nIi rfl)]
            refine bv_goto (j := 4) C rfl rfl ?_
            refine bv_sub [0, 1, 2] (by rfl) ?_
            refine ih (k + 1) (some k) (by omega) (fun b hb => by first | (cases hb; done) | (cases hb; omega)) ?_
            rw [← heq]; simp only [blF, blS, c6, c8, if_true, if_false, ↓reduceIte]
  refine bv_sub [0, 1, 2] (by rfl) ?_
  exact lp 256 0 none (by omega) (fun b hb => by cases hb) rfl
