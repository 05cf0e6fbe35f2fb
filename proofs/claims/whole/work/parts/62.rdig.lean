def hsR (n bk E S0 S1 : Nat) (g : Nat → Nat → Int32) : Int64 := (mxL (mxL (mxL (mxL (mxL (mxL (foldX (fun k => g 1 (112 + k)) (3 * E) (foldX (fun k => g 1 (103 + k)) (3 * bk) (foldX (fun k => g 1 (55 + k)) (6 * n) (foldX (fun k => g 1 (35 + k)) (4 + S0) (foldX (fun k => g 1 (15 + k)) (4 + S1) (mxL (mxL (mxL (mxL (mxL (mxL (17) (g 1 0)) (g 1 1)) (g 1 2)) (g 1 3)) (g 1 4)) (g 1 5))))))) (g 1 6)) (g 1 7)) (g 1 8)) (g 1 9)) (g 1 10)) (g 1 11))
set_option maxRecDepth 100000 in
set_option maxHeartbeats 8000000 in
theorem ct_digest {l : Launch} {D : va_G} {cA : FieldType → ClassId} {z0 : Nat} {SK SV : Nat → Nat} {ad : Nat → Nat} (hE : aD (fun q => z0 ≤ q) ad 9) (g : Nat → Nat → Int32) (h : Int64) (n bk E S0 S1 : Nat) (hn : g 1 12 = nI n) (hn8 : n ≤ 8) (hB : g 1 13 = nI bk) (hB3 : bk ≤ 3) (hEv : g 1 14 = nI E) (hE2 : E ≤ 20) (hS0 : g 1 15 = nI S0) (hS02 : S0 ≤ 16) (hS1 : g 1 35 = nI S1) (hS12 : S1 ≤ 16) : bF l D cA z0 SK SV ad shM 9 yX9_digest cX9_digest 2 (some .long) 2 [.ref 0] (layM g h) (some (.long (hsR n bk E S0 S1 g))) (layM g (hsR n bk E S0 S1 g)) := by
  refine bCT_intro (tb := tb_X9_digest) (own := RX9) hE pn_X9 rfl tk_X9_digest rfl (Nat.le_of_ble_eq_true rfl) ?_
  intro p e s0 m args below meth c C hr
  refine bv_blk C frk_X9 csk_X9 3 3 rfl (L1 := ([(0, .ref 0)] : Lc)) (st1 := ([] : List Value)) (w1 := up2 (layM g h) 0 18 (.long (17))) (by rfl) ?_
  rw [lm_upL]
  refine bv_blk C frk_X9 csk_X9 4 7 rfl (L1 := ([(1, .int (0)), (0, .ref 0)] : Lc)) (st1 := ([.int (5), .int (0)] : List Value)) (w1 := (layM g (17))) (by rfl) ?_
  refine bv_icmp_gt (j := 16) C rfl rfl (fun h => absurd h (by decide)) (fun _ => ?_)
  refine bv_blk C frk_X9 csk_X9 4 12 rfl (L1 := ([(1, .int (0)), (0, .ref 0)] : Lc)) (st1 := ([.int (0), .ref 1, .ref 0] : List Value)) (w1 := (layM g (17))) (by rfl) ?_
  refine bv_iald C rfl rfl (by decide) (j := 0) (by exact rfl) (by first | decide | omega) (by decide) (y := (g 1 0)) (by rfl) ?_
  refine bv_fV0 C rfl (ct_note2 hE g (17) (g 1 0)) ml_X9_323 im_X9_note sel_X9_note ini_X9 cd_X9_note ok_X9_note rfl ⟨Nat.le_of_ble_eq_true rfl, Nat.le_of_ble_eq_true rfl⟩ ⟨Nat.zero_le _, Nat.zero_le _⟩ (by decide) rfl rfl rfl (rest := ([] : List Value)) rfl (Nat.le_of_ble_eq_true rfl) ?_
  refine bv_blk C frk_X9 csk_X9 1 15 rfl (L1 := ([(1, .int ((0) + Int32.ofInt 1)), (0, .ref 0)] : Lc)) (st1 := ([] : List Value)) (w1 := (layM g (mxL (17) (g 1 0)))) (by rfl) ?_
  rw [show ((0) + Int32.ofInt 1) = (1) from by decide]
  refine bv_goto (j := 5) C rfl rfl ?_
  refine bv_blk C frk_X9 csk_X9 2 7 rfl (L1 := ([(1, .int (1)), (0, .ref 0)] : Lc)) (st1 := ([.int (5), .int (1)] : List Value)) (w1 := (layM g (mxL (17) (g 1 0)))) (by rfl) ?_
  refine bv_icmp_gt (j := 16) C rfl rfl (fun h => absurd h (by decide)) (fun _ => ?_)
  refine bv_blk C frk_X9 csk_X9 4 12 rfl (L1 := ([(1, .int (1)), (0, .ref 0)] : Lc)) (st1 := ([.int (1), .ref 1, .ref 0] : List Value)) (w1 := (layM g (mxL (17) (g 1 0)))) (by rfl) ?_
  refine bv_iald C rfl rfl (by decide) (j := 1) (by exact rfl) (by first | decide | omega) (by decide) (y := (g 1 1)) (by rfl) ?_
  refine bv_fV0 C rfl (ct_note2 hE g (mxL (17) (g 1 0)) (g 1 1)) ml_X9_323 im_X9_note sel_X9_note ini_X9 cd_X9_note ok_X9_note rfl ⟨Nat.le_of_ble_eq_true rfl, Nat.le_of_ble_eq_true rfl⟩ ⟨Nat.zero_le _, Nat.zero_le _⟩ (by decide) rfl rfl rfl (rest := ([] : List Value)) rfl (Nat.le_of_ble_eq_true rfl) ?_
  refine bv_blk C frk_X9 csk_X9 1 15 rfl (L1 := ([(1, .int ((1) + Int32.ofInt 1)), (0, .ref 0)] : Lc)) (st1 := ([] : List Value)) (w1 := (layM g (mxL (mxL (17) (g 1 0)) (g 1 1)))) (by rfl) ?_
  rw [show ((1) + Int32.ofInt 1) = (2) from by decide]
  refine bv_goto (j := 5) C rfl rfl ?_
  refine bv_blk C frk_X9 csk_X9 2 7 rfl (L1 := ([(1, .int (2)), (0, .ref 0)] : Lc)) (st1 := ([.int (5), .int (2)] : List Value)) (w1 := (layM g (mxL (mxL (17) (g 1 0)) (g 1 1)))) (by rfl) ?_
  refine bv_icmp_gt (j := 16) C rfl rfl (fun h => absurd h (by decide)) (fun _ => ?_)
  refine bv_blk C frk_X9 csk_X9 4 12 rfl (L1 := ([(1, .int (2)), (0, .ref 0)] : Lc)) (st1 := ([.int (2), .ref 1, .ref 0] : List Value)) (w1 := (layM g (mxL (mxL (17) (g 1 0)) (g 1 1)))) (by rfl) ?_
  refine bv_iald C rfl rfl (by decide) (j := 2) (by exact rfl) (by first | decide | omega) (by decide) (y := (g 1 2)) (by rfl) ?_
  refine bv_fV0 C rfl (ct_note2 hE g (mxL (mxL (17) (g 1 0)) (g 1 1)) (g 1 2)) ml_X9_323 im_X9_note sel_X9_note ini_X9 cd_X9_note ok_X9_note rfl ⟨Nat.le_of_ble_eq_true rfl, Nat.le_of_ble_eq_true rfl⟩ ⟨Nat.zero_le _, Nat.zero_le _⟩ (by decide) rfl rfl rfl (rest := ([] : List Value)) rfl (Nat.le_of_ble_eq_true rfl) ?_
  refine bv_blk C frk_X9 csk_X9 1 15 rfl (L1 := ([(1, .int ((2) + Int32.ofInt 1)), (0, .ref 0)] : Lc)) (st1 := ([] : List Value)) (w1 := (layM g (mxL (mxL (mxL (17) (g 1 0)) (g 1 1)) (g 1 2)))) (by rfl) ?_
  rw [show ((2) + Int32.ofInt 1) = (3) from by decide]
  refine bv_goto (j := 5) C rfl rfl ?_
  refine bv_blk C frk_X9 csk_X9 2 7 rfl (L1 := ([(1, .int (3)), (0, .ref 0)] : Lc)) (st1 := ([.int (5), .int (3)] : List Value)) (w1 := (layM g (mxL (mxL (mxL (17) (g 1 0)) (g 1 1)) (g 1 2)))) (by rfl) ?_
  refine bv_icmp_gt (j := 16) C rfl rfl (fun h => absurd h (by decide)) (fun _ => ?_)
  refine bv_blk C frk_X9 csk_X9 4 12 rfl (L1 := ([(1, .int (3)), (0, .ref 0)] : Lc)) (st1 := ([.int (3), .ref 1, .ref 0] : List Value)) (w1 := (layM g (mxL (mxL (mxL (17) (g 1 0)) (g 1 1)) (g 1 2)))) (by rfl) ?_
  refine bv_iald C rfl rfl (by decide) (j := 3) (by exact rfl) (by first | decide | omega) (by decide) (y := (g 1 3)) (by rfl) ?_
  refine bv_fV0 C rfl (ct_note2 hE g (mxL (mxL (mxL (17) (g 1 0)) (g 1 1)) (g 1 2)) (g 1 3)) ml_X9_323 im_X9_note sel_X9_note ini_X9 cd_X9_note ok_X9_note rfl ⟨Nat.le_of_ble_eq_true rfl, Nat.le_of_ble_eq_true rfl⟩ ⟨Nat.zero_le _, Nat.zero_le _⟩ (by decide) rfl rfl rfl (rest := ([] : List Value)) rfl (Nat.le_of_ble_eq_true rfl) ?_
  refine bv_blk C frk_X9 csk_X9 1 15 rfl (L1 := ([(1, .int ((3) + Int32.ofInt 1)), (0, .ref 0)] : Lc)) (st1 := ([] : List Value)) (w1 := (layM g (mxL (mxL (mxL (mxL (17) (g 1 0)) (g 1 1)) (g 1 2)) (g 1 3)))) (by rfl) ?_
  rw [show ((3) + Int32.ofInt 1) = (4) from by decide]
  refine bv_goto (j := 5) C rfl rfl ?_
  refine bv_blk C frk_X9 csk_X9 2 7 rfl (L1 := ([(1, .int (4)), (0, .ref 0)] : Lc)) (st1 := ([.int (5), .int (4)] : List Value)) (w1 := (layM g (mxL (mxL (mxL (mxL (17) (g 1 0)) (g 1 1)) (g 1 2)) (g 1 3)))) (by rfl) ?_
  refine bv_icmp_gt (j := 16) C rfl rfl (fun h => absurd h (by decide)) (fun _ => ?_)
  refine bv_blk C frk_X9 csk_X9 4 12 rfl (L1 := ([(1, .int (4)), (0, .ref 0)] : Lc)) (st1 := ([.int (4), .ref 1, .ref 0] : List Value)) (w1 := (layM g (mxL (mxL (mxL (mxL (17) (g 1 0)) (g 1 1)) (g 1 2)) (g 1 3)))) (by rfl) ?_
  refine bv_iald C rfl rfl (by decide) (j := 4) (by exact rfl) (by first | decide | omega) (by decide) (y := (g 1 4)) (by rfl) ?_
  refine bv_fV0 C rfl (ct_note2 hE g (mxL (mxL (mxL (mxL (17) (g 1 0)) (g 1 1)) (g 1 2)) (g 1 3)) (g 1 4)) ml_X9_323 im_X9_note sel_X9_note ini_X9 cd_X9_note ok_X9_note rfl ⟨Nat.le_of_ble_eq_true rfl, Nat.le_of_ble_eq_true rfl⟩ ⟨Nat.zero_le _, Nat.zero_le _⟩ (by decide) rfl rfl rfl (rest := ([] : List Value)) rfl (Nat.le_of_ble_eq_true rfl) ?_
  refine bv_blk C frk_X9 csk_X9 1 15 rfl (L1 := ([(1, .int ((4) + Int32.ofInt 1)), (0, .ref 0)] : Lc)) (st1 := ([] : List Value)) (w1 := (layM g (mxL (mxL (mxL (mxL (mxL (17) (g 1 0)) (g 1 1)) (g 1 2)) (g 1 3)) (g 1 4)))) (by rfl) ?_
  rw [show ((4) + Int32.ofInt 1) = (5) from by decide]
  refine bv_goto (j := 5) C rfl rfl ?_
  refine bv_blk C frk_X9 csk_X9 2 7 rfl (L1 := ([(1, .int (5)), (0, .ref 0)] : Lc)) (st1 := ([.int (5), .int (5)] : List Value)) (w1 := (layM g (mxL (mxL (mxL (mxL (mxL (17) (g 1 0)) (g 1 1)) (g 1 2)) (g 1 3)) (g 1 4)))) (by rfl) ?_
  refine bv_icmp_gt (j := 16) C rfl rfl (fun h => absurd h (by decide)) (fun _ => ?_)
  refine bv_blk C frk_X9 csk_X9 4 12 rfl (L1 := ([(1, .int (5)), (0, .ref 0)] : Lc)) (st1 := ([.int (5), .ref 1, .ref 0] : List Value)) (w1 := (layM g (mxL (mxL (mxL (mxL (mxL (17) (g 1 0)) (g 1 1)) (g 1 2)) (g 1 3)) (g 1 4)))) (by rfl) ?_
  refine bv_iald C rfl rfl (by decide) (j := 5) (by exact rfl) (by first | decide | omega) (by decide) (y := (g 1 5)) (by rfl) ?_
  refine bv_fV0 C rfl (ct_note2 hE g (mxL (mxL (mxL (mxL (mxL (17) (g 1 0)) (g 1 1)) (g 1 2)) (g 1 3)) (g 1 4)) (g 1 5)) ml_X9_323 im_X9_note sel_X9_note ini_X9 cd_X9_note ok_X9_note rfl ⟨Nat.le_of_ble_eq_true rfl, Nat.le_of_ble_eq_true rfl⟩ ⟨Nat.zero_le _, Nat.zero_le _⟩ (by decide) rfl rfl rfl (rest := ([] : List Value)) rfl (Nat.le_of_ble_eq_true rfl) ?_
  refine bv_blk C frk_X9 csk_X9 1 15 rfl (L1 := ([(1, .int ((5) + Int32.ofInt 1)), (0, .ref 0)] : Lc)) (st1 := ([] : List Value)) (w1 := (layM g (mxL (mxL (mxL (mxL (mxL (mxL (17) (g 1 0)) (g 1 1)) (g 1 2)) (g 1 3)) (g 1 4)) (g 1 5)))) (by rfl) ?_
  rw [show ((5) + Int32.ofInt 1) = (6) from by decide]
  refine bv_goto (j := 5) C rfl rfl ?_
  refine bv_blk C frk_X9 csk_X9 2 7 rfl (L1 := ([(1, .int (6)), (0, .ref 0)] : Lc)) (st1 := ([.int (5), .int (6)] : List Value)) (w1 := (layM g (mxL (mxL (mxL (mxL (mxL (mxL (17) (g 1 0)) (g 1 1)) (g 1 2)) (g 1 3)) (g 1 4)) (g 1 5)))) (by rfl) ?_
  refine bv_icmp_gt (j := 16) C rfl rfl (fun _ => ?_) (fun h => absurd h (by decide))
  sorry
