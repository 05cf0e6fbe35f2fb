def frA (g : Nat → Nat → Int32) (i j sep : Int32) (x y : Int32) : Bool := apI (g 1 15) (g 1 16) i x sep && apI (g 1 35) (g 1 36) j y sep
def frF (g : Nat → Nat → Int32) (i j sep : Int32) : Nat → Nat → Bool → Bool
  | 0, _, a => a
  | m + 1, b, a => frF g i j sep m (b + 1) (a && frA g i j sep (g 1 (103 + (3 * b))) (g 1 (103 + (3 * b) + 1)))
set_option maxRecDepth 100000 in
set_option maxHeartbeats 4000000 in
theorem ct_isFree {l : Launch} {D : va_G} {cA : FieldType → ClassId} {z0 : Nat} {SK SV : Nat → Nat} {ad : Nat → Nat} (hE : aD (fun q => z0 ≤ q) ad 9) (g : Nat → Nat → Int32) (h : Int64) (n Bk : Nat) (i j sep : Int32) (hs : statR g n) (hB : g 1 13 = nI Bk) (hB3 : Bk ≤ 3) : bF l D cA z0 SK SV ad shM 9 yX9_isFree cX9_isFree 6 (some .boolean) 4 [.ref 0, .int i, .int j, .int sep] (layM g h) (some (.int (b2i (frF g i j sep Bk 0 (frA g i j sep (g 1 18) (g 1 38)))))) (layM g h) := by
  refine bCT_intro (tb := tb_X9_isFree) (own := RX9) hE pn_X9 rfl tk_X9_isFree rfl (Nat.le_of_ble_eq_true rfl) ?_
  intro p e s0 m args below meth c C hr
  refine bv_blk C frk_X9 csk_X9 6 6 rfl (L1 := ([(0, .ref 0), (1, .int i), (2, .int j), (3, .int sep)] : Lc)) (st1 := ([.int (3), .int (0), .ref 0, .int i, .int (0), .ref 0] : List Value)) (w1 := (layM g h)) (by rfl) ?_
  refine bv_fV1 C rfl (ct_of hE _ _ 0 3 (by omega) (by omega)) ml_X9_69 im_X9_of sel_X9_of ini_X9 cd_X9_of ok_X9_of rfl ⟨Nat.le_of_ble_eq_true rfl, Nat.le_of_ble_eq_true rfl⟩ ⟨Nat.zero_le _, Nat.zero_le _⟩ (by decide) rfl rfl rfl (rest := ([.int i, .int (0), .ref 0] : List Value)) rfl (Nat.le_of_ble_eq_true rfl) ?_
  refine bv_blk C frk_X9 csk_X9 1 8 rfl (L1 := ([(0, .ref 0), (1, .int i), (2, .int j), (3, .int sep)] : Lc)) (st1 := ([.int sep, .int (g 1 18), .int i, .int (0), .ref 0] : List Value)) (w1 := (layM g h)) (by rfl) ?_
  refine bv_fV1 C rfl (ct_isApart hE _ _ 0 i (g 1 18) sep (by omega) (st_m0 hs)) ml_X9_150 im_X9_isApart sel_X9_isApart ini_X9 cd_X9_isApart ok_X9_isApart rfl ⟨Nat.le_of_ble_eq_true rfl, Nat.le_of_ble_eq_true rfl⟩ ⟨Nat.zero_le _, Nat.zero_le _⟩ (by decide) rfl rfl rfl (rest := ([] : List Value)) rfl (Nat.le_of_ble_eq_true rfl) ?_
  refine bv_if_eq (j := 22) C rfl rfl (fun c1 => ?_) (fun c1 => ?_)
  · refine bv_blk C frk_X9 csk_X9 4 26 rfl (L1 := ([(5, .int (0)), (4, .int (0)), (0, .ref 0), (1, .int i), (2, .int j), (3, .int sep)] : Lc)) (st1 := ([] : List Value)) (w1 := (layM g h)) (by rfl) ?_
    have lp : ∀ (q b : Nat) (a : Bool), b + q = Bk → frF g i j sep q b a = frF g i j sep Bk 0 (frA g i j sep (g 1 18) (g 1 38)) → bV p l e (bR 4) s0 m args below meth c D cA shM (adA ad 9) 6 tb_X9_isFree (MQ below (bQ D cA ad shM 9 (fun r w1 => r = (some (.int (b2i (frF g i j sep Bk 0 (frA g i j sep (g 1 18) (g 1 38)))))) ∧ w1 = (layM g h))) args s0 0 0 (adA ad 9)) ad 9 0 0 (layM g h) 26 ([(5, .int (nI b)), (4, .int (b2i a)), (0, .ref 0), (1, .int i), (2, .int j), (3, .int sep)] : Lc) ([] : List Value) := by
      intro q
      induction q with
      | zero =>
        intro b a hb heq
        refine bv_blk C frk_X9 csk_X9 4 30 rfl (L1 := ([(5, .int (nI b)), (4, .int (b2i a)), (0, .ref 0), (1, .int i), (2, .int j), (3, .int sep)] : Lc)) (st1 := ([.int (13), .ref 1, .int (nI b)] : List Value)) (w1 := (layM g h)) (by rfl) ?_
        refine bv_iald C rfl rfl (by decide) (j := 13) (by exact rfl) (by first | decide | omega) (by decide) (y := (g 1 13)) (by rfl) ?_
        refine bv_icmp_ge (j := 70) C rfl rfl (fun _ => ?_) (fun h => absurd (by rw [show (g 1 13) = nI Bk from hB]; exact (nI_le (a := Bk) (b := b) (by omega) (by omega))) h)
        refine bv_blk C frk_X9 csk_X9 1 71 rfl (L1 := ([(5, .int (nI b)), (4, .int (b2i a)), (0, .ref 0), (1, .int i), (2, .int j), (3, .int sep)] : Lc)) (st1 := ([.int (b2i a)] : List Value)) (w1 := (layM g h)) (by rfl) ?_
        exact bv_iret C rfl hr (nar_b2i _) ⟨by (rw [← heq]; rfl), by (rfl)⟩
      | succ q ih =>
        intro b a hb heq
        refine bv_blk C frk_X9 csk_X9 4 30 rfl (L1 := ([(5, .int (nI b)), (4, .int (b2i a)), (0, .ref 0), (1, .int i), (2, .int j), (3, .int sep)] : Lc)) (st1 := ([.int (13), .ref 1, .int (nI b)] : List Value)) (w1 := (layM g h)) (by rfl) ?_
        refine bv_iald C rfl rfl (by decide) (j := 13) (by exact rfl) (by first | decide | omega) (by decide) (y := (g 1 13)) (by rfl) ?_
        refine bv_icmp_ge (j := 70) C rfl rfl (fun h => absurd h (by rw [show (g 1 13) = nI Bk from hB]; exact (nI_ge (a := b) (b := Bk) (by omega) (by omega)))) (fun _ => ?_)
        refine bv_blk C frk_X9 csk_X9 1 33 rfl (L1 := ([(5, .int (nI b)), (4, .int (b2i a)), (0, .ref 0), (1, .int i), (2, .int j), (3, .int sep)] : Lc)) (st1 := ([.int (b2i a)] : List Value)) (w1 := (layM g h)) (by rfl) ?_
        refine bv_if_eq (j := 66) C rfl rfl (fun c4 => ?_) (fun c4 => ?_)
        · refine bv_blk C frk_X9 csk_X9 3 69 rfl (L1 := ([(5, .int ((nI b) + Int32.ofInt 1)), (4, .int (0)), (0, .ref 0), (1, .int i), (2, .int j), (3, .int sep)] : Lc)) (st1 := ([] : List Value)) (w1 := (layM g h)) (by rfl) ?_
          rw [show ((nI b) + Int32.ofInt 1) = nI (b + 1) from (nIi rfl)]
          refine bv_goto (j := 26) C rfl rfl ?_
          refine bv_sub [0, 1, 2, 3, 4, 5] (by rfl) ?_
          refine ih (b + 1) false (by omega) ?_
          rw [← heq]; simp only [frF, frA, b2i_0 c4, Bool.true_and, Bool.false_and, Bool.and_true, Bool.and_false]
        · refine bv_blk C frk_X9 csk_X9 10 44 rfl (L1 := ([(5, .int (nI b)), (4, .int (b2i a)), (0, .ref 0), (1, .int i), (2, .int j), (3, .int sep)] : Lc)) (st1 := ([.int ((103) + ((3) * (nI b))), .ref 1, .int i, .int (0), .ref 0] : List Value)) (w1 := (layM g h)) (by rfl) ?_
          refine bv_iald C rfl rfl (by decide) (j := (103 + (3 * b))) (by exact (nIa rfl (nIm rfl rfl))) (by first | decide | omega) (by decide) (y := (g 1 (103 + (3 * b)))) (by rfl) ?_
          refine bv_blk C frk_X9 csk_X9 1 46 rfl (L1 := ([(5, .int (nI b)), (4, .int (b2i a)), (0, .ref 0), (1, .int i), (2, .int j), (3, .int sep)] : Lc)) (st1 := ([.int sep, .int (g 1 (103 + (3 * b))), .int i, .int (0), .ref 0] : List Value)) (w1 := (layM g h)) (by rfl) ?_
          refine bv_fV1 C rfl (ct_isApart hE _ _ 0 i (g 1 (103 + (3 * b))) sep (by omega) (st_m0 hs)) ml_X9_150 im_X9_isApart sel_X9_isApart ini_X9 cd_X9_isApart ok_X9_isApart rfl ⟨Nat.le_of_ble_eq_true rfl, Nat.le_of_ble_eq_true rfl⟩ ⟨Nat.zero_le _, Nat.zero_le _⟩ (by decide) rfl rfl rfl (rest := ([] : List Value)) rfl (Nat.le_of_ble_eq_true rfl) ?_
          refine bv_if_eq (j := 66) C rfl rfl (fun c5 => ?_) (fun c5 => ?_)
          · refine bv_blk C frk_X9 csk_X9 3 69 rfl (L1 := ([(5, .int ((nI b) + Int32.ofInt 1)), (4, .int (0)), (0, .ref 0), (1, .int i), (2, .int j), (3, .int sep)] : Lc)) (st1 := ([] : List Value)) (w1 := (layM g h)) (by rfl) ?_
            rw [show ((nI b) + Int32.ofInt 1) = nI (b + 1) from (nIi rfl)]
            refine bv_goto (j := 26) C rfl rfl ?_
            refine bv_sub [0, 1, 2, 3, 4, 5] (by rfl) ?_
            refine ih (b + 1) false (by omega) ?_
            rw [← heq]; simp only [frF, frA, b2i_1 c4, b2i_0 c5, Bool.true_and, Bool.false_and, Bool.and_true, Bool.and_false]
          · refine bv_blk C frk_X9 csk_X9 12 60 rfl (L1 := ([(5, .int (nI b)), (4, .int (b2i a)), (0, .ref 0), (1, .int i), (2, .int j), (3, .int sep)] : Lc)) (st1 := ([.int (((103) + ((3) * (nI b))) + (1)), .ref 1, .int j, .int (1), .ref 0] : List Value)) (w1 := (layM g h)) (by rfl) ?_
            refine bv_iald C rfl rfl (by decide) (j := ((103 + (3 * b)) + 1)) (by exact (nIa (nIa rfl (nIm rfl rfl)) rfl)) (by first | decide | omega) (by decide) (y := (g 1 ((103 + (3 * b)) + 1))) (by rfl) ?_
            refine bv_blk C frk_X9 csk_X9 1 62 rfl (L1 := ([(5, .int (nI b)), (4, .int (b2i a)), (0, .ref 0), (1, .int i), (2, .int j), (3, .int sep)] : Lc)) (st1 := ([.int sep, .int (g 1 ((103 + (3 * b)) + 1)), .int j, .int (1), .ref 0] : List Value)) (w1 := (layM g h)) (by rfl) ?_
            refine bv_fV1 C rfl (ct_isApart hE _ _ 1 j (g 1 ((103 + (3 * b)) + 1)) sep (by omega) (st_m1 hs)) ml_X9_150 im_X9_isApart sel_X9_isApart ini_X9 cd_X9_isApart ok_X9_isApart rfl ⟨Nat.le_of_ble_eq_true rfl, Nat.le_of_ble_eq_true rfl⟩ ⟨Nat.zero_le _, Nat.zero_le _⟩ (by decide) rfl rfl rfl (rest := ([] : List Value)) rfl (Nat.le_of_ble_eq_true rfl) ?_
            refine bv_if_eq (j := 66) C rfl rfl (fun c6 => ?_) (fun c6 => ?_)
            · refine bv_blk C frk_X9 csk_X9 3 69 rfl (L1 := ([(5, .int ((nI b) + Int32.ofInt 1)), (4, .int (0)), (0, .ref 0), (1, .int i), (2, .int j), (3, .int sep)] : Lc)) (st1 := ([] : List Value)) (w1 := (layM g h)) (by rfl) ?_
              rw [show ((nI b) + Int32.ofInt 1) = nI (b + 1) from (nIi rfl)]
              refine bv_goto (j := 26) C rfl rfl ?_
              refine bv_sub [0, 1, 2, 3, 4, 5] (by rfl) ?_
              refine ih (b + 1) false (by omega) ?_
              rw [← heq]; simp only [frF, frA, b2i_1 c4, b2i_1 c5, b2i_0 c6, Bool.true_and, Bool.false_and, Bool.and_true, Bool.and_false]
            · refine bv_blk C frk_X9 csk_X9 1 65 rfl (L1 := ([(5, .int (nI b)), (4, .int (b2i a)), (0, .ref 0), (1, .int i), (2, .int j), (3, .int sep)] : Lc)) (st1 := ([.int (1)] : List Value)) (w1 := (layM g h)) (by rfl) ?_
              refine bv_goto (j := 67) C rfl rfl ?_
              refine bv_blk C frk_X9 csk_X9 2 69 rfl (L1 := ([(5, .int ((nI b) + Int32.ofInt 1)), (4, .int (1)), (0, .ref 0), (1, .int i), (2, .int j), (3, .int sep)] : Lc)) (st1 := ([] : List Value)) (w1 := (layM g h)) (by rfl) ?_
              rw [show ((nI b) + Int32.ofInt 1) = nI (b + 1) from (nIi rfl)]
              refine bv_goto (j := 26) C rfl rfl ?_
              refine bv_sub [0, 1, 2, 3, 4, 5] (by rfl) ?_
              refine ih (b + 1) true (by omega) ?_
              rw [← heq]; simp only [frF, frA, b2i_1 c4, b2i_1 c5, b2i_1 c6, Bool.true_and, Bool.false_and, Bool.and_true, Bool.and_false]
    refine bv_sub [0, 1, 2, 3, 4, 5] (by rfl) ?_
    refine lp Bk 0 false (by omega) ?_
    simp only [frA, b2i_0 c1, Bool.true_and, Bool.false_and, Bool.and_true, Bool.and_false]
  · refine bv_blk C frk_X9 csk_X9 6 16 rfl (L1 := ([(0, .ref 0), (1, .int i), (2, .int j), (3, .int sep)] : Lc)) (st1 := ([.int (3), .int (1), .ref 0, .int j, .int (1), .ref 0] : List Value)) (w1 := (layM g h)) (by rfl) ?_
    refine bv_fV1 C rfl (ct_of hE _ _ 1 3 (by omega) (by omega)) ml_X9_69 im_X9_of sel_X9_of ini_X9 cd_X9_of ok_X9_of rfl ⟨Nat.le_of_ble_eq_true rfl, Nat.le_of_ble_eq_true rfl⟩ ⟨Nat.zero_le _, Nat.zero_le _⟩ (by decide) rfl rfl rfl (rest := ([.int j, .int (1), .ref 0] : List Value)) rfl (Nat.le_of_ble_eq_true rfl) ?_
    refine bv_blk C frk_X9 csk_X9 1 18 rfl (L1 := ([(0, .ref 0), (1, .int i), (2, .int j), (3, .int sep)] : Lc)) (st1 := ([.int sep, .int (g 1 38), .int j, .int (1), .ref 0] : List Value)) (w1 := (layM g h)) (by rfl) ?_
    refine bv_fV1 C rfl (ct_isApart hE _ _ 1 j (g 1 38) sep (by omega) (st_m1 hs)) ml_X9_150 im_X9_isApart sel_X9_isApart ini_X9 cd_X9_isApart ok_X9_isApart rfl ⟨Nat.le_of_ble_eq_true rfl, Nat.le_of_ble_eq_true rfl⟩ ⟨Nat.zero_le _, Nat.zero_le _⟩ (by decide) rfl rfl rfl (rest := ([] : List Value)) rfl (Nat.le_of_ble_eq_true rfl) ?_
    refine bv_if_eq (j := 22) C rfl rfl (fun c7 => ?_) (fun c7 => ?_)
    · refine bv_blk C frk_X9 csk_X9 4 26 rfl (L1 := ([(5, .int (0)), (4, .int (0)), (0, .ref 0), (1, .int i), (2, .int j), (3, .int sep)] : Lc)) (st1 := ([] : List Value)) (w1 := (layM g h)) (by rfl) ?_
      have lp : ∀ (q b : Nat) (a : Bool), b + q = Bk → frF g i j sep q b a = frF g i j sep Bk 0 (frA g i j sep (g 1 18) (g 1 38)) → bV p l e (bR 4) s0 m args below meth c D cA shM (adA ad 9) 6 tb_X9_isFree (MQ below (bQ D cA ad shM 9 (fun r w1 => r = (some (.int (b2i (frF g i j sep Bk 0 (frA g i j sep (g 1 18) (g 1 38)))))) ∧ w1 = (layM g h))) args s0 0 0 (adA ad 9)) ad 9 0 0 (layM g h) 26 ([(5, .int (nI b)), (4, .int (b2i a)), (0, .ref 0), (1, .int i), (2, .int j), (3, .int sep)] : Lc) ([] : List Value) := by
        intro q
        induction q with
        | zero =>
          intro b a hb heq
          refine bv_blk C frk_X9 csk_X9 4 30 rfl (L1 := ([(5, .int (nI b)), (4, .int (b2i a)), (0, .ref 0), (1, .int i), (2, .int j), (3, .int sep)] : Lc)) (st1 := ([.int (13), .ref 1, .int (nI b)] : List Value)) (w1 := (layM g h)) (by rfl) ?_
          refine bv_iald C rfl rfl (by decide) (j := 13) (by exact rfl) (by first | decide | omega) (by decide) (y := (g 1 13)) (by rfl) ?_
          refine bv_icmp_ge (j := 70) C rfl rfl (fun _ => ?_) (fun h => absurd (by rw [show (g 1 13) = nI Bk from hB]; exact (nI_le (a := Bk) (b := b) (by omega) (by omega))) h)
          refine bv_blk C frk_X9 csk_X9 1 71 rfl (L1 := ([(5, .int (nI b)), (4, .int (b2i a)), (0, .ref 0), (1, .int i), (2, .int j), (3, .int sep)] : Lc)) (st1 := ([.int (b2i a)] : List Value)) (w1 := (layM g h)) (by rfl) ?_
          exact bv_iret C rfl hr (nar_b2i _) ⟨by (rw [← heq]; rfl), by (rfl)⟩
        | succ q ih =>
          intro b a hb heq
          refine bv_blk C frk_X9 csk_X9 4 30 rfl (L1 := ([(5, .int (nI b)), (4, .int (b2i a)), (0, .ref 0), (1, .int i), (2, .int j), (3, .int sep)] : Lc)) (st1 := ([.int (13), .ref 1, .int (nI b)] : List Value)) (w1 := (layM g h)) (by rfl) ?_
          refine bv_iald C rfl rfl (by decide) (j := 13) (by exact rfl) (by first | decide | omega) (by decide) (y := (g 1 13)) (by rfl) ?_
          refine bv_icmp_ge (j := 70) C rfl rfl (fun h => absurd h (by rw [show (g 1 13) = nI Bk from hB]; exact (nI_ge (a := b) (b := Bk) (by omega) (by omega)))) (fun _ => ?_)
          refine bv_blk C frk_X9 csk_X9 1 33 rfl (L1 := ([(5, .int (nI b)), (4, .int (b2i a)), (0, .ref 0), (1, .int i), (2, .int j), (3, .int sep)] : Lc)) (st1 := ([.int (b2i a)] : List Value)) (w1 := (layM g h)) (by rfl) ?_
          refine bv_if_eq (j := 66) C rfl rfl (fun c10 => ?_) (fun c10 => ?_)
          · refine bv_blk C frk_X9 csk_X9 3 69 rfl (L1 := ([(5, .int ((nI b) + Int32.ofInt 1)), (4, .int (0)), (0, .ref 0), (1, .int i), (2, .int j), (3, .int sep)] : Lc)) (st1 := ([] : List Value)) (w1 := (layM g h)) (by rfl) ?_
            rw [show ((nI b) + Int32.ofInt 1) = nI (b + 1) from (nIi rfl)]
            refine bv_goto (j := 26) C rfl rfl ?_
            refine bv_sub [0, 1, 2, 3, 4, 5] (by rfl) ?_
            refine ih (b + 1) false (by omega) ?_
            rw [← heq]; simp only [frF, frA, b2i_0 c10, Bool.true_and, Bool.false_and, Bool.and_true, Bool.and_false]
          · refine bv_blk C frk_X9 csk_X9 10 44 rfl (L1 := ([(5, .int (nI b)), (4, .int (b2i a)), (0, .ref 0), (1, .int i), (2, .int j), (3, .int sep)] : Lc)) (st1 := ([.int ((103) + ((3) * (nI b))), .ref 1, .int i, .int (0), .ref 0] : List Value)) (w1 := (layM g h)) (by rfl) ?_
            refine bv_iald C rfl rfl (by decide) (j := (103 + (3 * b))) (by exact (nIa rfl (nIm rfl rfl))) (by first | decide | omega) (by decide) (y := (g 1 (103 + (3 * b)))) (by rfl) ?_
            refine bv_blk C frk_X9 csk_X9 1 46 rfl (L1 := ([(5, .int (nI b)), (4, .int (b2i a)), (0, .ref 0), (1, .int i), (2, .int j), (3, .int sep)] : Lc)) (st1 := ([.int sep, .int (g 1 (103 + (3 * b))), .int i, .int (0), .ref 0] : List Value)) (w1 := (layM g h)) (by rfl) ?_
            refine bv_fV1 C rfl (ct_isApart hE _ _ 0 i (g 1 (103 + (3 * b))) sep (by omega) (st_m0 hs)) ml_X9_150 im_X9_isApart sel_X9_isApart ini_X9 cd_X9_isApart ok_X9_isApart rfl ⟨Nat.le_of_ble_eq_true rfl, Nat.le_of_ble_eq_true rfl⟩ ⟨Nat.zero_le _, Nat.zero_le _⟩ (by decide) rfl rfl rfl (rest := ([] : List Value)) rfl (Nat.le_of_ble_eq_true rfl) ?_
            refine bv_if_eq (j := 66) C rfl rfl (fun c11 => ?_) (fun c11 => ?_)
            · refine bv_blk C frk_X9 csk_X9 3 69 rfl (L1 := ([(5, .int ((nI b) + Int32.ofInt 1)), (4, .int (0)), (0, .ref 0), (1, .int i), (2, .int j), (3, .int sep)] : Lc)) (st1 := ([] : List Value)) (w1 := (layM g h)) (by rfl) ?_
              rw [show ((nI b) + Int32.ofInt 1) = nI (b + 1) from (nIi rfl)]
              refine bv_goto (j := 26) C rfl rfl ?_
              refine bv_sub [0, 1, 2, 3, 4, 5] (by rfl) ?_
              refine ih (b + 1) false (by omega) ?_
              rw [← heq]; simp only [frF, frA, b2i_1 c10, b2i_0 c11, Bool.true_and, Bool.false_and, Bool.and_true, Bool.and_false]
            · refine bv_blk C frk_X9 csk_X9 12 60 rfl (L1 := ([(5, .int (nI b)), (4, .int (b2i a)), (0, .ref 0), (1, .int i), (2, .int j), (3, .int sep)] : Lc)) (st1 := ([.int (((103) + ((3) * (nI b))) + (1)), .ref 1, .int j, .int (1), .ref 0] : List Value)) (w1 := (layM g h)) (by rfl) ?_
              refine bv_iald C rfl rfl (by decide) (j := ((103 + (3 * b)) + 1)) (by exact (nIa (nIa rfl (nIm rfl rfl)) rfl)) (by first | decide | omega) (by decide) (y := (g 1 ((103 + (3 * b)) + 1))) (by rfl) ?_
              refine bv_blk C frk_X9 csk_X9 1 62 rfl (L1 := ([(5, .int (nI b)), (4, .int (b2i a)), (0, .ref 0), (1, .int i), (2, .int j), (3, .int sep)] : Lc)) (st1 := ([.int sep, .int (g 1 ((103 + (3 * b)) + 1)), .int j, .int (1), .ref 0] : List Value)) (w1 := (layM g h)) (by rfl) ?_
              refine bv_fV1 C rfl (ct_isApart hE _ _ 1 j (g 1 ((103 + (3 * b)) + 1)) sep (by omega) (st_m1 hs)) ml_X9_150 im_X9_isApart sel_X9_isApart ini_X9 cd_X9_isApart ok_X9_isApart rfl ⟨Nat.le_of_ble_eq_true rfl, Nat.le_of_ble_eq_true rfl⟩ ⟨Nat.zero_le _, Nat.zero_le _⟩ (by decide) rfl rfl rfl (rest := ([] : List Value)) rfl (Nat.le_of_ble_eq_true rfl) ?_
              refine bv_if_eq (j := 66) C rfl rfl (fun c12 => ?_) (fun c12 => ?_)
              · refine bv_blk C frk_X9 csk_X9 3 69 rfl (L1 := ([(5, .int ((nI b) + Int32.ofInt 1)), (4, .int (0)), (0, .ref 0), (1, .int i), (2, .int j), (3, .int sep)] : Lc)) (st1 := ([] : List Value)) (w1 := (layM g h)) (by rfl) ?_
                rw [show ((nI b) + Int32.ofInt 1) = nI (b + 1) from (nIi rfl)]
                refine bv_goto (j := 26) C rfl rfl ?_
                refine bv_sub [0, 1, 2, 3, 4, 5] (by rfl) ?_
                refine ih (b + 1) false (by omega) ?_
                rw [← heq]; simp only [frF, frA, b2i_1 c10, b2i_1 c11, b2i_0 c12, Bool.true_and, Bool.false_and, Bool.and_true, Bool.and_false]
              · refine bv_blk C frk_X9 csk_X9 1 65 rfl (L1 := ([(5, .int (nI b)), (4, .int (b2i a)), (0, .ref 0), (1, .int i), (2, .int j), (3, .int sep)] : Lc)) (st1 := ([.int (1)] : List Value)) (w1 := (layM g h)) (by rfl) ?_
                refine bv_goto (j := 67) C rfl rfl ?_
                refine bv_blk C frk_X9 csk_X9 2 69 rfl (L1 := ([(5, .int ((nI b) + Int32.ofInt 1)), (4, .int (1)), (0, .ref 0), (1, .int i), (2, .int j), (3, .int sep)] : Lc)) (st1 := ([] : List Value)) (w1 := (layM g h)) (by rfl) ?_
                rw [show ((nI b) + Int32.ofInt 1) = nI (b + 1) from (nIi rfl)]
                refine bv_goto (j := 26) C rfl rfl ?_
                refine bv_sub [0, 1, 2, 3, 4, 5] (by rfl) ?_
                refine ih (b + 1) true (by omega) ?_
                rw [← heq]; simp only [frF, frA, b2i_1 c10, b2i_1 c11, b2i_1 c12, Bool.true_and, Bool.false_and, Bool.and_true, Bool.and_false]
      refine bv_sub [0, 1, 2, 3, 4, 5] (by rfl) ?_
      refine lp Bk 0 false (by omega) ?_
      simp only [frA, b2i_1 c1, b2i_0 c7, Bool.true_and, Bool.false_and, Bool.and_true, Bool.and_false]
    · refine bv_blk C frk_X9 csk_X9 1 21 rfl (L1 := ([(0, .ref 0), (1, .int i), (2, .int j), (3, .int sep)] : Lc)) (st1 := ([.int (1)] : List Value)) (w1 := (layM g h)) (by rfl) ?_
      refine bv_goto (j := 23) C rfl rfl ?_
      refine bv_blk C frk_X9 csk_X9 3 26 rfl (L1 := ([(5, .int (0)), (4, .int (1)), (0, .ref 0), (1, .int i), (2, .int j), (3, .int sep)] : Lc)) (st1 := ([] : List Value)) (w1 := (layM g h)) (by rfl) ?_
      have lp : ∀ (q b : Nat) (a : Bool), b + q = Bk → frF g i j sep q b a = frF g i j sep Bk 0 (frA g i j sep (g 1 18) (g 1 38)) → bV p l e (bR 4) s0 m args below meth c D cA shM (adA ad 9) 6 tb_X9_isFree (MQ below (bQ D cA ad shM 9 (fun r w1 => r = (some (.int (b2i (frF g i j sep Bk 0 (frA g i j sep (g 1 18) (g 1 38)))))) ∧ w1 = (layM g h))) args s0 0 0 (adA ad 9)) ad 9 0 0 (layM g h) 26 ([(5, .int (nI b)), (4, .int (b2i a)), (0, .ref 0), (1, .int i), (2, .int j), (3, .int sep)] : Lc) ([] : List Value) := by
        intro q
        induction q with
        | zero =>
          intro b a hb heq
          refine bv_blk C frk_X9 csk_X9 4 30 rfl (L1 := ([(5, .int (nI b)), (4, .int (b2i a)), (0, .ref 0), (1, .int i), (2, .int j), (3, .int sep)] : Lc)) (st1 := ([.int (13), .ref 1, .int (nI b)] : List Value)) (w1 := (layM g h)) (by rfl) ?_
          refine bv_iald C rfl rfl (by decide) (j := 13) (by exact rfl) (by first | decide | omega) (by decide) (y := (g 1 13)) (by rfl) ?_
          refine bv_icmp_ge (j := 70) C rfl rfl (fun _ => ?_) (fun h => absurd (by rw [show (g 1 13) = nI Bk from hB]; exact (nI_le (a := Bk) (b := b) (by omega) (by omega))) h)
          refine bv_blk C frk_X9 csk_X9 1 71 rfl (L1 := ([(5, .int (nI b)), (4, .int (b2i a)), (0, .ref 0), (1, .int i), (2, .int j), (3, .int sep)] : Lc)) (st1 := ([.int (b2i a)] : List Value)) (w1 := (layM g h)) (by rfl) ?_
          exact bv_iret C rfl hr (nar_b2i _) ⟨by (rw [← heq]; rfl), by (rfl)⟩
        | succ q ih =>
          intro b a hb heq
          refine bv_blk C frk_X9 csk_X9 4 30 rfl (L1 := ([(5, .int (nI b)), (4, .int (b2i a)), (0, .ref 0), (1, .int i), (2, .int j), (3, .int sep)] : Lc)) (st1 := ([.int (13), .ref 1, .int (nI b)] : List Value)) (w1 := (layM g h)) (by rfl) ?_
          refine bv_iald C rfl rfl (by decide) (j := 13) (by exact rfl) (by first | decide | omega) (by decide) (y := (g 1 13)) (by rfl) ?_
          refine bv_icmp_ge (j := 70) C rfl rfl (fun h => absurd h (by rw [show (g 1 13) = nI Bk from hB]; exact (nI_ge (a := b) (b := Bk) (by omega) (by omega)))) (fun _ => ?_)
          refine bv_blk C frk_X9 csk_X9 1 33 rfl (L1 := ([(5, .int (nI b)), (4, .int (b2i a)), (0, .ref 0), (1, .int i), (2, .int j), (3, .int sep)] : Lc)) (st1 := ([.int (b2i a)] : List Value)) (w1 := (layM g h)) (by rfl) ?_
          refine bv_if_eq (j := 66) C rfl rfl (fun c15 => ?_) (fun c15 => ?_)
          · refine bv_blk C frk_X9 csk_X9 3 69 rfl (L1 := ([(5, .int ((nI b) + Int32.ofInt 1)), (4, .int (0)), (0, .ref 0), (1, .int i), (2, .int j), (3, .int sep)] : Lc)) (st1 := ([] : List Value)) (w1 := (layM g h)) (by rfl) ?_
            rw [show ((nI b) + Int32.ofInt 1) = nI (b + 1) from (nIi rfl)]
            refine bv_goto (j := 26) C rfl rfl ?_
            refine bv_sub [0, 1, 2, 3, 4, 5] (by rfl) ?_
            refine ih (b + 1) false (by omega) ?_
            rw [← heq]; simp only [frF, frA, b2i_0 c15, Bool.true_and, Bool.false_and, Bool.and_true, Bool.and_false]
          · refine bv_blk C frk_X9 csk_X9 10 44 rfl (L1 := ([(5, .int (nI b)), (4, .int (b2i a)), (0, .ref 0), (1, .int i), (2, .int j), (3, .int sep)] : Lc)) (st1 := ([.int ((103) + ((3) * (nI b))), .ref 1, .int i, .int (0), .ref 0] : List Value)) (w1 := (layM g h)) (by rfl) ?_
            refine bv_iald C rfl rfl (by decide) (j := (103 + (3 * b))) (by exact (nIa rfl (nIm rfl rfl))) (by first | decide | omega) (by decide) (y := (g 1 (103 + (3 * b)))) (by rfl) ?_
            refine bv_blk C frk_X9 csk_X9 1 46 rfl (L1 := ([(5, .int (nI b)), (4, .int (b2i a)), (0, .ref 0), (1, .int i), (2, .int j), (3, .int sep)] : Lc)) (st1 := ([.int sep, .int (g 1 (103 + (3 * b))), .int i, .int (0), .ref 0] : List Value)) (w1 := (layM g h)) (by rfl) ?_
            refine bv_fV1 C rfl (ct_isApart hE _ _ 0 i (g 1 (103 + (3 * b))) sep (by omega) (st_m0 hs)) ml_X9_150 im_X9_isApart sel_X9_isApart ini_X9 cd_X9_isApart ok_X9_isApart rfl ⟨Nat.le_of_ble_eq_true rfl, Nat.le_of_ble_eq_true rfl⟩ ⟨Nat.zero_le _, Nat.zero_le _⟩ (by decide) rfl rfl rfl (rest := ([] : List Value)) rfl (Nat.le_of_ble_eq_true rfl) ?_
            refine bv_if_eq (j := 66) C rfl rfl (fun c16 => ?_) (fun c16 => ?_)
            · refine bv_blk C frk_X9 csk_X9 3 69 rfl (L1 := ([(5, .int ((nI b) + Int32.ofInt 1)), (4, .int (0)), (0, .ref 0), (1, .int i), (2, .int j), (3, .int sep)] : Lc)) (st1 := ([] : List Value)) (w1 := (layM g h)) (by rfl) ?_
              rw [show ((nI b) + Int32.ofInt 1) = nI (b + 1) from (nIi rfl)]
              refine bv_goto (j := 26) C rfl rfl ?_
              refine bv_sub [0, 1, 2, 3, 4, 5] (by rfl) ?_
              refine ih (b + 1) false (by omega) ?_
              rw [← heq]; simp only [frF, frA, b2i_1 c15, b2i_0 c16, Bool.true_and, Bool.false_and, Bool.and_true, Bool.and_false]
            · refine bv_blk C frk_X9 csk_X9 12 60 rfl (L1 := ([(5, .int (nI b)), (4, .int (b2i a)), (0, .ref 0), (1, .int i), (2, .int j), (3, .int sep)] : Lc)) (st1 := ([.int (((103) + ((3) * (nI b))) + (1)), .ref 1, .int j, .int (1), .ref 0] : List Value)) (w1 := (layM g h)) (by rfl) ?_
              refine bv_iald C rfl rfl (by decide) (j := ((103 + (3 * b)) + 1)) (by exact (nIa (nIa rfl (nIm rfl rfl)) rfl)) (by first | decide | omega) (by decide) (y := (g 1 ((103 + (3 * b)) + 1))) (by rfl) ?_
              refine bv_blk C frk_X9 csk_X9 1 62 rfl (L1 := ([(5, .int (nI b)), (4, .int (b2i a)), (0, .ref 0), (1, .int i), (2, .int j), (3, .int sep)] : Lc)) (st1 := ([.int sep, .int (g 1 ((103 + (3 * b)) + 1)), .int j, .int (1), .ref 0] : List Value)) (w1 := (layM g h)) (by rfl) ?_
              refine bv_fV1 C rfl (ct_isApart hE _ _ 1 j (g 1 ((103 + (3 * b)) + 1)) sep (by omega) (st_m1 hs)) ml_X9_150 im_X9_isApart sel_X9_isApart ini_X9 cd_X9_isApart ok_X9_isApart rfl ⟨Nat.le_of_ble_eq_true rfl, Nat.le_of_ble_eq_true rfl⟩ ⟨Nat.zero_le _, Nat.zero_le _⟩ (by decide) rfl rfl rfl (rest := ([] : List Value)) rfl (Nat.le_of_ble_eq_true rfl) ?_
              refine bv_if_eq (j := 66) C rfl rfl (fun c17 => ?_) (fun c17 => ?_)
              · refine bv_blk C frk_X9 csk_X9 3 69 rfl (L1 := ([(5, .int ((nI b) + Int32.ofInt 1)), (4, .int (0)), (0, .ref 0), (1, .int i), (2, .int j), (3, .int sep)] : Lc)) (st1 := ([] : List Value)) (w1 := (layM g h)) (by rfl) ?_
                rw [show ((nI b) + Int32.ofInt 1) = nI (b + 1) from (nIi rfl)]
                refine bv_goto (j := 26) C rfl rfl ?_
                refine bv_sub [0, 1, 2, 3, 4, 5] (by rfl) ?_
                refine ih (b + 1) false (by omega) ?_
                rw [← heq]; simp only [frF, frA, b2i_1 c15, b2i_1 c16, b2i_0 c17, Bool.true_and, Bool.false_and, Bool.and_true, Bool.and_false]
              · refine bv_blk C frk_X9 csk_X9 1 65 rfl (L1 := ([(5, .int (nI b)), (4, .int (b2i a)), (0, .ref 0), (1, .int i), (2, .int j), (3, .int sep)] : Lc)) (st1 := ([.int (1)] : List Value)) (w1 := (layM g h)) (by rfl) ?_
                refine bv_goto (j := 67) C rfl rfl ?_
                refine bv_blk C frk_X9 csk_X9 2 69 rfl (L1 := ([(5, .int ((nI b) + Int32.ofInt 1)), (4, .int (1)), (0, .ref 0), (1, .int i), (2, .int j), (3, .int sep)] : Lc)) (st1 := ([] : List Value)) (w1 := (layM g h)) (by rfl) ?_
                rw [show ((nI b) + Int32.ofInt 1) = nI (b + 1) from (nIi rfl)]
                refine bv_goto (j := 26) C rfl rfl ?_
                refine bv_sub [0, 1, 2, 3, 4, 5] (by rfl) ?_
                refine ih (b + 1) true (by omega) ?_
                rw [← heq]; simp only [frF, frA, b2i_1 c15, b2i_1 c16, b2i_1 c17, Bool.true_and, Bool.false_and, Bool.and_true, Bool.and_false]
      refine bv_sub [0, 1, 2, 3, 4, 5] (by rfl) ?_
      refine lp Bk 0 true (by omega) ?_
      simp only [frA, b2i_1 c1, b2i_1 c7, Bool.true_and, Bool.false_and, Bool.and_true, Bool.and_false]
