set_option maxRecDepth 100000 in
set_option maxHeartbeats 8000000 in
theorem ct_bestPair {l : Launch} {D : va_G} {cA : FieldType → ClassId} {z0 : Nat} {SK SV : Nat → Nat} {ad : Nat → Nat} (hE : aD (fun q => z0 ≤ q) ad 9) (g : Nat → Nat → Int32) (h : Int64) (n S0 S1 : Nat) (hs : statR g n) (hS0 : g 1 15 = nI S0) (hS1 : g 1 35 = nI S1) (hA : S0 ≤ 16) (hB : S1 ≤ 16) : bF l D cA z0 SK SV ad shM 9 yX9_bestPair cX9_bestPair 6 (some .int) 6 [.ref 0] (layM g h) (some (.int (if n = 0 then -100000 else (bpO g n S1 S0 0 (0, quaG g 0 0 0 n)).1))) (layM g h) := by
  refine bCT_intro (tb := tb_X9_bestPair) (own := RX9) hE pn_X9 rfl tk_X9_bestPair rfl (Nat.le_of_ble_eq_true rfl) ?_
  intro p e s0 m args below meth c C hr
  have hn8 := hs.2.1
  refine bv_blk C frk_X9 csk_X9 3 3 rfl (L1 := ([(0, .ref 0)] : Lc)) (st1 := ([.int (12), .ref 1] : List Value)) (w1 := (layM g h)) (by rfl) ?_
  refine bv_iald C rfl rfl (by decide) (j := 12) (by exact rfl) (by first | decide | omega) (by decide) (y := (g 1 12)) (by rfl) ?_
  refine bv_if_ne (j := 7) C rfl rfl (fun c1 => ?_) (fun c1 => ?_)
  · refine bv_blk C frk_X9 csk_X9 6 13 rfl (L1 := ([(1, .int (0)), (0, .ref 0)] : Lc)) (st1 := ([.int (0), .int (0), .int (0), .ref 0] : List Value)) (w1 := (layM g h)) (by rfl) ?_
    refine bv_fV1 C rfl (ct_qualityOf hE g _ 0 n (0) (0) (by omega) (okQ_of hs 0 (by omega) _ _)) ml_X9_106 im_X9_qualityOf sel_X9_qualityOf ini_X9 cd_X9_qualityOf ok_X9_qualityOf rfl ⟨Nat.le_of_ble_eq_true rfl, Nat.le_of_ble_eq_true rfl⟩ ⟨Nat.zero_le _, Nat.zero_le _⟩ (by decide) rfl rfl rfl (rest := ([] : List Value)) rfl (Nat.le_of_ble_eq_true rfl) ?_
    refine bv_blk C frk_X9 csk_X9 3 17 rfl (L1 := ([(3, .int (0)), (2, .int (quaG g 0 (0) (0) n)), (1, .int (0)), (0, .ref 0)] : Lc)) (st1 := ([] : List Value)) (w1 := (layM g h)) (by rfl) ?_
    have lpO : ∀ (r9 i9 : Nat) (b9 : Int32) (m9 : Int32), i9 + r9 = S0 → bpO g n S1 r9 i9 (b9, m9) = bpO g n S1 S0 0 (0, quaG g 0 0 0 n) → bV p l e (bR 6) s0 m args below meth c D cA shM (adA ad 9) 6 tb_X9_bestPair (MQ below (bQ D cA ad shM 9 (fun r w1 => r = (some (.int (if n = 0 then -100000 else (bpO g n S1 S0 0 (0, quaG g 0 0 0 n)).1))) ∧ w1 = (layM g h))) args s0 0 0 (adA ad 9)) ad 9 0 0 (layM g h) 17 ([(3, .int (nI i9)), (1, .int b9), (2, .int m9), (0, .ref 0)] : Lc) ([] : List Value) := by
      intro r9
      induction r9 with
      | zero =>
        intro i9 b9 m9 hi9  heq
        rw [bpO_0] at heq
        refine bv_blk C frk_X9 csk_X9 4 21 rfl (L1 := ([(3, .int (nI i9)), (1, .int b9), (2, .int m9), (0, .ref 0)] : Lc)) (st1 := ([.int (0), .int (0), .ref 0, .int (nI i9)] : List Value)) (w1 := (layM g h)) (by rfl) ?_
        refine bv_fV1 C rfl (ct_of hE _ _ 0 0 (by omega) (by omega)) ml_X9_69 im_X9_of sel_X9_of ini_X9 cd_X9_of ok_X9_of rfl ⟨Nat.le_of_ble_eq_true rfl, Nat.le_of_ble_eq_true rfl⟩ ⟨Nat.zero_le _, Nat.zero_le _⟩ (by decide) rfl rfl rfl (rest := ([.int (nI i9)] : List Value)) rfl (Nat.le_of_ble_eq_true rfl) ?_
        refine bv_icmp_ge (j := 59) C rfl rfl (fun _ => ?_) (fun h => absurd (by rw [show (g 1 15) = nI S0 from hS0]; exact (nI_le (a := S0) (b := i9) (by omega) (by omega))) h)
        refine bv_blk C frk_X9 csk_X9 1 60 rfl (L1 := ([(3, .int (nI i9)), (1, .int b9), (2, .int m9), (0, .ref 0)] : Lc)) (st1 := ([.int b9] : List Value)) (w1 := (layM g h)) (by rfl) ?_
        exact bv_iret C rfl hr rfl ⟨by (rw [if_neg (fun z => c1 ((n0_of hs.1 (by omega)).mpr z)), ← heq]), by (rfl)⟩
      | succ r9 ihO =>
        intro i9 b9 m9 hi9  heq
        rw [bpO_nx] at heq
        refine bv_blk C frk_X9 csk_X9 4 21 rfl (L1 := ([(3, .int (nI i9)), (1, .int b9), (2, .int m9), (0, .ref 0)] : Lc)) (st1 := ([.int (0), .int (0), .ref 0, .int (nI i9)] : List Value)) (w1 := (layM g h)) (by rfl) ?_
        refine bv_fV1 C rfl (ct_of hE _ _ 0 0 (by omega) (by omega)) ml_X9_69 im_X9_of sel_X9_of ini_X9 cd_X9_of ok_X9_of rfl ⟨Nat.le_of_ble_eq_true rfl, Nat.le_of_ble_eq_true rfl⟩ ⟨Nat.zero_le _, Nat.zero_le _⟩ (by decide) rfl rfl rfl (rest := ([.int (nI i9)] : List Value)) rfl (Nat.le_of_ble_eq_true rfl) ?_
        refine bv_icmp_ge (j := 59) C rfl rfl (fun h => absurd h (by rw [show (g 1 15) = nI S0 from hS0]; exact (nI_ge (a := i9) (b := S0) (by omega) (by omega)))) (fun _ => ?_)
        refine bv_blk C frk_X9 csk_X9 2 25 rfl (L1 := ([(4, .int (0)), (3, .int (nI i9)), (1, .int b9), (2, .int m9), (0, .ref 0)] : Lc)) (st1 := ([] : List Value)) (w1 := (layM g h)) (by rfl) ?_
        have lpI : ∀ (q9 j9 : Nat) (b9 : Int32) (m9 : Int32), j9 + q9 = S1 → bpO g n S1 r9 (i9 + 1) (bpI g n i9 q9 j9 (b9, m9)) = bpO g n S1 S0 0 (0, quaG g 0 0 0 n) → bV p l e (bR 6) s0 m args below meth c D cA shM (adA ad 9) 6 tb_X9_bestPair (MQ below (bQ D cA ad shM 9 (fun r w1 => r = (some (.int (if n = 0 then -100000 else (bpO g n S1 S0 0 (0, quaG g 0 0 0 n)).1))) ∧ w1 = (layM g h))) args s0 0 0 (adA ad 9)) ad 9 0 0 (layM g h) 25 ([(4, .int (nI j9)), (3, .int (nI i9)), (1, .int b9), (2, .int m9), (0, .ref 0)] : Lc) ([] : List Value) := by
          intro q9
          induction q9 with
          | zero =>
            intro j9 b9 m9 hj9  heq
            rw [bpI_0] at heq
            refine bv_blk C frk_X9 csk_X9 4 29 rfl (L1 := ([(4, .int (nI j9)), (3, .int (nI i9)), (1, .int b9), (2, .int m9), (0, .ref 0)] : Lc)) (st1 := ([.int (0), .int (1), .ref 0, .int (nI j9)] : List Value)) (w1 := (layM g h)) (by rfl) ?_
            refine bv_fV1 C rfl (ct_of hE _ _ 1 0 (by omega) (by omega)) ml_X9_69 im_X9_of sel_X9_of ini_X9 cd_X9_of ok_X9_of rfl ⟨Nat.le_of_ble_eq_true rfl, Nat.le_of_ble_eq_true rfl⟩ ⟨Nat.zero_le _, Nat.zero_le _⟩ (by decide) rfl rfl rfl (rest := ([.int (nI j9)] : List Value)) rfl (Nat.le_of_ble_eq_true rfl) ?_
            refine bv_icmp_ge (j := 57) C rfl rfl (fun _ => ?_) (fun h => absurd (by rw [show (g 1 35) = nI S1 from hS1]; exact (nI_le (a := S1) (b := j9) (by omega) (by omega))) h)
            refine bv_blk C frk_X9 csk_X9 1 58 rfl (L1 := ([(3, .int ((nI i9) + Int32.ofInt 1)), (4, .int (nI j9)), (1, .int b9), (2, .int m9), (0, .ref 0)] : Lc)) (st1 := ([] : List Value)) (w1 := (layM g h)) (by rfl) ?_
            rw [show ((nI i9) + Int32.ofInt 1) = nI (i9 + 1) from (nIi rfl)]
            refine bv_goto (j := 17) C rfl rfl ?_
            refine bv_sub [0, 2, 3, 4] (by rfl) ?_
            exact ihO (i9 + 1) b9 m9 (by omega)  heq
          | succ q9 ihI =>
            intro j9 b9 m9 hj9  heq
            refine bv_blk C frk_X9 csk_X9 4 29 rfl (L1 := ([(4, .int (nI j9)), (3, .int (nI i9)), (1, .int b9), (2, .int m9), (0, .ref 0)] : Lc)) (st1 := ([.int (0), .int (1), .ref 0, .int (nI j9)] : List Value)) (w1 := (layM g h)) (by rfl) ?_
            refine bv_fV1 C rfl (ct_of hE _ _ 1 0 (by omega) (by omega)) ml_X9_69 im_X9_of sel_X9_of ini_X9 cd_X9_of ok_X9_of rfl ⟨Nat.le_of_ble_eq_true rfl, Nat.le_of_ble_eq_true rfl⟩ ⟨Nat.zero_le _, Nat.zero_le _⟩ (by decide) rfl rfl rfl (rest := ([.int (nI j9)] : List Value)) rfl (Nat.le_of_ble_eq_true rfl) ?_
            refine bv_icmp_ge (j := 57) C rfl rfl (fun h => absurd h (by rw [show (g 1 35) = nI S1 from hS1]; exact (nI_ge (a := j9) (b := S1) (by omega) (by omega)))) (fun _ => ?_)
            refine bv_blk C frk_X9 csk_X9 4 35 rfl (L1 := ([(4, .int (nI j9)), (3, .int (nI i9)), (1, .int b9), (2, .int m9), (0, .ref 0)] : Lc)) (st1 := ([.int (nI j9), .int (nI i9), .int (0), .ref 0] : List Value)) (w1 := (layM g h)) (by rfl) ?_
            refine bv_fV1 C rfl (ct_qualityOf hE g _ 0 n (nI i9) (nI j9) (by omega) (okQ_of hs 0 (by omega) _ _)) ml_X9_106 im_X9_qualityOf sel_X9_qualityOf ini_X9 cd_X9_qualityOf ok_X9_qualityOf rfl ⟨Nat.le_of_ble_eq_true rfl, Nat.le_of_ble_eq_true rfl⟩ ⟨Nat.zero_le _, Nat.zero_le _⟩ (by decide) rfl rfl rfl (rest := ([] : List Value)) rfl (Nat.le_of_ble_eq_true rfl) ?_
            refine bv_blk C frk_X9 csk_X9 3 39 rfl (L1 := ([(5, .int (quaG g 0 (nI i9) (nI j9) n)), (4, .int (nI j9)), (3, .int (nI i9)), (1, .int b9), (2, .int m9), (0, .ref 0)] : Lc)) (st1 := ([.int m9, .int (quaG g 0 (nI i9) (nI j9) n)] : List Value)) (w1 := (layM g h)) (by rfl) ?_
            refine bv_icmp_le (j := 46) C rfl rfl (fun c6 => ?_) (fun c6 => ?_)
            · refine bv_blk C frk_X9 csk_X9 4 50 rfl (L1 := ([(1, .int b9), (5, .int (quaG g 0 (nI i9) (nI j9) n)), (4, .int (nI j9)), (3, .int (nI i9)), (2, .int m9), (0, .ref 0)] : Lc)) (st1 := ([.int m9, .int (quaG g 0 (nI i9) (nI j9) n)] : List Value)) (w1 := (layM g h)) (by rfl) ?_
              refine bv_icmp_le (j := 53) C rfl rfl (fun _ => ?_) (fun h => absurd (c6) h)
              refine bv_blk C frk_X9 csk_X9 3 56 rfl (L1 := ([(4, .int ((nI j9) + Int32.ofInt 1)), (2, .int m9), (1, .int b9), (5, .int (quaG g 0 (nI i9) (nI j9) n)), (3, .int (nI i9)), (0, .ref 0)] : Lc)) (st1 := ([] : List Value)) (w1 := (layM g h)) (by rfl) ?_
              rw [show ((nI j9) + Int32.ofInt 1) = nI (j9 + 1) from (nIi rfl)]
              refine bv_goto (j := 25) C rfl rfl ?_
              refine bv_sub [0, 4, 2, 1, 5] (by rfl) ?_
              refine ihI (j9 + 1) b9 m9 (by omega)  ?_
              rw [← heq, bpI_le c6]
            · refine bv_blk C frk_X9 csk_X9 5 45 rfl (L1 := ([(5, .int (quaG g 0 (nI i9) (nI j9) n)), (4, .int (nI j9)), (3, .int (nI i9)), (1, .int b9), (2, .int m9), (0, .ref 0)] : Lc)) (st1 := ([.int (((16) * (nI i9)) + (nI j9))] : List Value)) (w1 := (layM g h)) (by rfl) ?_
              refine bv_goto (j := 47) C rfl rfl ?_
              refine bv_blk C frk_X9 csk_X9 3 50 rfl (L1 := ([(1, .int (((16) * (nI i9)) + (nI j9))), (5, .int (quaG g 0 (nI i9) (nI j9) n)), (4, .int (nI j9)), (3, .int (nI i9)), (2, .int m9), (0, .ref 0)] : Lc)) (st1 := ([.int m9, .int (quaG g 0 (nI i9) (nI j9) n)] : List Value)) (w1 := (layM g h)) (by rfl) ?_
              refine bv_icmp_le (j := 53) C rfl rfl (fun h => absurd h (c6)) (fun _ => ?_)
              refine bv_blk C frk_X9 csk_X9 1 52 rfl (L1 := ([(1, .int (((16) * (nI i9)) + (nI j9))), (5, .int (quaG g 0 (nI i9) (nI j9) n)), (4, .int (nI j9)), (3, .int (nI i9)), (2, .int m9), (0, .ref 0)] : Lc)) (st1 := ([.int (quaG g 0 (nI i9) (nI j9) n)] : List Value)) (w1 := (layM g h)) (by rfl) ?_
              refine bv_goto (j := 54) C rfl rfl ?_
              refine bv_blk C frk_X9 csk_X9 2 56 rfl (L1 := ([(4, .int ((nI j9) + Int32.ofInt 1)), (2, .int (quaG g 0 (nI i9) (nI j9) n)), (1, .int (((16) * (nI i9)) + (nI j9))), (5, .int (quaG g 0 (nI i9) (nI j9) n)), (3, .int (nI i9)), (0, .ref 0)] : Lc)) (st1 := ([] : List Value)) (w1 := (layM g h)) (by rfl) ?_
              rw [show ((nI j9) + Int32.ofInt 1) = nI (j9 + 1) from (nIi rfl)]
              refine bv_goto (j := 25) C rfl rfl ?_
              refine bv_sub [0, 4, 2, 1, 5] (by rfl) ?_
              refine ihI (j9 + 1) (((16) * (nI i9)) + (nI j9)) (quaG g 0 (nI i9) (nI j9) n) (by omega)  ?_
              rw [← heq, bpI_gt c6]
        refine bv_sub [0, 1, 2, 3, 4] (by rfl) ?_
        exact lpI S1 0 b9 m9 (by omega)  heq
    refine bv_sub [0, 2, 1, 3] (by rfl) ?_
    exact lpO S0 0 (0) (quaG g 0 (0) (0) n) (by omega)  rfl
  · refine bv_blk C frk_X9 csk_X9 1 6 rfl (L1 := ([(0, .ref 0)] : Lc)) (st1 := ([.int (-100000)] : List Value)) (w1 := (layM g h)) (by rfl) ?_
    exact bv_iret C rfl hr rfl ⟨by (rw [if_pos ((n0_of hs.1 (by omega)).mp c1)]), by (rfl)⟩
set_option maxRecDepth 100000 in
set_option maxHeartbeats 8000000 in
theorem ct_shareOf {l : Launch} {D : va_G} {cA : FieldType → ClassId} {z0 : Nat} {SK SV : Nat → Nat} {ad : Nat → Nat} (hE : aD (fun q => z0 ≤ q) ad 9) (g : Nat → Nat → Int32) (h : Int64) (n S0 S1 : Nat) (a b : Int32) (hs : statR g n) (hS0 : g 1 15 = nI S0) (hS1 : g 1 35 = nI S1) (hA : S0 ≤ 16) (hB : S1 ≤ 16) (hN : ∀ (i j : Nat) (t : UInt32), i < S0 → j < S1 → (∃ q j2, shO g n S1 (S0 - i - 1) (i + 1) (shI g n i q j2 t) = shT g n S0 S1) → vf_n32 (FP.fadd t (recG g 0 (nI i) (nI j) n))) (hD : vf_n32 (FP.fdiv (recG g 0 a b n) (shT g n S0 S1))) : bF l D cA z0 SK SV ad shM 9 yX9_shareOf cX9_shareOf 6 (some .float) 5 [.ref 0, .int a, .int b] (layM g h) (some (.float (FP.fdiv (recG g 0 a b n) (shT g n S0 S1)))) (layM g h) := by
  refine bCT_intro (tb := tb_X9_shareOf) (own := RX9) hE pn_X9 rfl tk_X9_shareOf rfl (Nat.le_of_ble_eq_true rfl) ?_
  intro p e s0 m args below meth c C hr
  refine bv_fconst0 C rfl ?_
  refine bv_blk C frk_X9 csk_X9 3 4 rfl (L1 := ([(4, .int (0)), (3, .float FP.fconst0), (0, .ref 0), (1, .int a), (2, .int b)] : Lc)) (st1 := ([] : List Value)) (w1 := (layM g h)) (by rfl) ?_
  have lpO : ∀ (r9 i9 : Nat) (t9 : UInt32), i9 + r9 = S0 → shO g n S1 r9 i9 t9 = shT g n S0 S1 → bV p l e (bR 5) s0 m args below meth c D cA shM (adA ad 9) 6 tb_X9_shareOf (MQ below (bQ D cA ad shM 9 (fun r w1 => r = (some (.float (FP.fdiv (recG g 0 a b n) (shT g n S0 S1)))) ∧ w1 = (layM g h))) args s0 0 0 (adA ad 9)) ad 9 0 0 (layM g h) 4 ([(4, .int (nI i9)), (3, .float t9), (0, .ref 0), (1, .int a), (2, .int b)] : Lc) ([] : List Value) := by
    intro r9
    induction r9 with
    | zero =>
      intro i9 t9 hi9  heq
      rw [shO_0] at heq
      refine bv_blk C frk_X9 csk_X9 4 8 rfl (L1 := ([(4, .int (nI i9)), (3, .float t9), (0, .ref 0), (1, .int a), (2, .int b)] : Lc)) (st1 := ([.int (0), .int (0), .ref 0, .int (nI i9)] : List Value)) (w1 := (layM g h)) (by rfl) ?_
      refine bv_fV1 C rfl (ct_of hE _ _ 0 0 (by omega) (by omega)) ml_X9_69 im_X9_of sel_X9_of ini_X9 cd_X9_of ok_X9_of rfl ⟨Nat.le_of_ble_eq_true rfl, Nat.le_of_ble_eq_true rfl⟩ ⟨Nat.zero_le _, Nat.zero_le _⟩ (by decide) rfl rfl rfl (rest := ([.int (nI i9)] : List Value)) rfl (Nat.le_of_ble_eq_true rfl) ?_
      refine bv_icmp_ge (j := 30) C rfl rfl (fun _ => ?_) (fun h => absurd (by rw [show (g 1 15) = nI S0 from hS0]; exact (nI_le (a := S0) (b := i9) (by omega) (by omega))) h)
      refine bv_blk C frk_X9 csk_X9 4 34 rfl (L1 := ([(4, .int (nI i9)), (3, .float t9), (0, .ref 0), (1, .int a), (2, .int b)] : Lc)) (st1 := ([.int b, .int a, .int (0), .ref 0] : List Value)) (w1 := (layM g h)) (by rfl) ?_
      refine bv_fV1 C rfl (ct_received hE g _ 0 n a b (by omega) (okQ_of hs 0 (by omega) _ _)) ml_X9_97 im_X9_received sel_X9_received ini_X9 cd_X9_received ok_X9_received rfl ⟨Nat.le_of_ble_eq_true rfl, Nat.le_of_ble_eq_true rfl⟩ ⟨Nat.zero_le _, Nat.zero_le _⟩ (by decide) rfl rfl rfl (rest := ([] : List Value)) rfl (Nat.le_of_ble_eq_true rfl) ?_
      refine bv_blk C frk_X9 csk_X9 1 36 rfl (L1 := ([(4, .int (nI i9)), (3, .float t9), (0, .ref 0), (1, .int a), (2, .int b)] : Lc)) (st1 := ([.float t9, .float (recG g 0 a b n)] : List Value)) (w1 := (layM g h)) (by rfl) ?_
      refine bv_fdiv C rfl (by rw [heq]; exact hD) ?_
      exact bv_fret C rfl hr ⟨by (rw [← heq]), by (rfl)⟩
    | succ r9 ihO =>
      intro i9 t9 hi9  heq
      rw [shO_nx] at heq
      refine bv_blk C frk_X9 csk_X9 4 8 rfl (L1 := ([(4, .int (nI i9)), (3, .float t9), (0, .ref 0), (1, .int a), (2, .int b)] : Lc)) (st1 := ([.int (0), .int (0), .ref 0, .int (nI i9)] : List Value)) (w1 := (layM g h)) (by rfl) ?_
      refine bv_fV1 C rfl (ct_of hE _ _ 0 0 (by omega) (by omega)) ml_X9_69 im_X9_of sel_X9_of ini_X9 cd_X9_of ok_X9_of rfl ⟨Nat.le_of_ble_eq_true rfl, Nat.le_of_ble_eq_true rfl⟩ ⟨Nat.zero_le _, Nat.zero_le _⟩ (by decide) rfl rfl rfl (rest := ([.int (nI i9)] : List Value)) rfl (Nat.le_of_ble_eq_true rfl) ?_
      refine bv_icmp_ge (j := 30) C rfl rfl (fun h => absurd h (by rw [show (g 1 15) = nI S0 from hS0]; exact (nI_ge (a := i9) (b := S0) (by omega) (by omega)))) (fun _ => ?_)
      refine bv_blk C frk_X9 csk_X9 2 12 rfl (L1 := ([(5, .int (0)), (4, .int (nI i9)), (3, .float t9), (0, .ref 0), (1, .int a), (2, .int b)] : Lc)) (st1 := ([] : List Value)) (w1 := (layM g h)) (by rfl) ?_
      have lpI : ∀ (q9 j9 : Nat) (t9 : UInt32), j9 + q9 = S1 → shO g n S1 r9 (i9 + 1) (shI g n i9 q9 j9 t9) = shT g n S0 S1 → bV p l e (bR 5) s0 m args below meth c D cA shM (adA ad 9) 6 tb_X9_shareOf (MQ below (bQ D cA ad shM 9 (fun r w1 => r = (some (.float (FP.fdiv (recG g 0 a b n) (shT g n S0 S1)))) ∧ w1 = (layM g h))) args s0 0 0 (adA ad 9)) ad 9 0 0 (layM g h) 12 ([(5, .int (nI j9)), (4, .int (nI i9)), (3, .float t9), (0, .ref 0), (1, .int a), (2, .int b)] : Lc) ([] : List Value) := by
        intro q9
        induction q9 with
        | zero =>
          intro j9 t9 hj9  heq
          rw [shI_0] at heq
          refine bv_blk C frk_X9 csk_X9 4 16 rfl (L1 := ([(5, .int (nI j9)), (4, .int (nI i9)), (3, .float t9), (0, .ref 0), (1, .int a), (2, .int b)] : Lc)) (st1 := ([.int (0), .int (1), .ref 0, .int (nI j9)] : List Value)) (w1 := (layM g h)) (by rfl) ?_
          refine bv_fV1 C rfl (ct_of hE _ _ 1 0 (by omega) (by omega)) ml_X9_69 im_X9_of sel_X9_of ini_X9 cd_X9_of ok_X9_of rfl ⟨Nat.le_of_ble_eq_true rfl, Nat.le_of_ble_eq_true rfl⟩ ⟨Nat.zero_le _, Nat.zero_le _⟩ (by decide) rfl rfl rfl (rest := ([.int (nI j9)] : List Value)) rfl (Nat.le_of_ble_eq_true rfl) ?_
          refine bv_icmp_ge (j := 28) C rfl rfl (fun _ => ?_) (fun h => absurd (by rw [show (g 1 35) = nI S1 from hS1]; exact (nI_le (a := S1) (b := j9) (by omega) (by omega))) h)
          refine bv_blk C frk_X9 csk_X9 1 29 rfl (L1 := ([(4, .int ((nI i9) + Int32.ofInt 1)), (5, .int (nI j9)), (3, .float t9), (0, .ref 0), (1, .int a), (2, .int b)] : Lc)) (st1 := ([] : List Value)) (w1 := (layM g h)) (by rfl) ?_
          rw [show ((nI i9) + Int32.ofInt 1) = nI (i9 + 1) from (nIi rfl)]
          refine bv_goto (j := 4) C rfl rfl ?_
          refine bv_sub [0, 2, 3, 4, 5] (by rfl) ?_
          exact ihO (i9 + 1) t9 (by omega)  heq
        | succ q9 ihI =>
          intro j9 t9 hj9  heq
          refine bv_blk C frk_X9 csk_X9 4 16 rfl (L1 := ([(5, .int (nI j9)), (4, .int (nI i9)), (3, .float t9), (0, .ref 0), (1, .int a), (2, .int b)] : Lc)) (st1 := ([.int (0), .int (1), .ref 0, .int (nI j9)] : List Value)) (w1 := (layM g h)) (by rfl) ?_
          refine bv_fV1 C rfl (ct_of hE _ _ 1 0 (by omega) (by omega)) ml_X9_69 im_X9_of sel_X9_of ini_X9 cd_X9_of ok_X9_of rfl ⟨Nat.le_of_ble_eq_true rfl, Nat.le_of_ble_eq_true rfl⟩ ⟨Nat.zero_le _, Nat.zero_le _⟩ (by decide) rfl rfl rfl (rest := ([.int (nI j9)] : List Value)) rfl (Nat.le_of_ble_eq_true rfl) ?_
          refine bv_icmp_ge (j := 28) C rfl rfl (fun h => absurd h (by rw [show (g 1 35) = nI S1 from hS1]; exact (nI_ge (a := j9) (b := S1) (by omega) (by omega)))) (fun _ => ?_)
          refine bv_blk C frk_X9 csk_X9 5 23 rfl (L1 := ([(5, .int (nI j9)), (4, .int (nI i9)), (3, .float t9), (0, .ref 0), (1, .int a), (2, .int b)] : Lc)) (st1 := ([.int (nI j9), .int (nI i9), .int (0), .ref 0, .float t9] : List Value)) (w1 := (layM g h)) (by rfl) ?_
          refine bv_fV1 C rfl (ct_received hE g _ 0 n (nI i9) (nI j9) (by omega) (okQ_of hs 0 (by omega) _ _)) ml_X9_97 im_X9_received sel_X9_received ini_X9 cd_X9_received ok_X9_received rfl ⟨Nat.le_of_ble_eq_true rfl, Nat.le_of_ble_eq_true rfl⟩ ⟨Nat.zero_le _, Nat.zero_le _⟩ (by decide) rfl rfl rfl (rest := ([.float t9] : List Value)) rfl (Nat.le_of_ble_eq_true rfl) ?_
          refine bv_fadd C rfl (hN i9 j9 t9 (by omega) (by omega) ⟨q9 + 1, j9, by rw [show S0 - i9 - 1 = r9 by omega]; exact heq⟩) ?_
          refine bv_blk C frk_X9 csk_X9 2 27 rfl (L1 := ([(5, .int ((nI j9) + Int32.ofInt 1)), (3, .float (FP.fadd t9 (recG g 0 (nI i9) (nI j9) n))), (4, .int (nI i9)), (0, .ref 0), (1, .int a), (2, .int b)] : Lc)) (st1 := ([] : List Value)) (w1 := (layM g h)) (by rfl) ?_
          rw [show ((nI j9) + Int32.ofInt 1) = nI (j9 + 1) from (nIi rfl)]
          refine bv_goto (j := 12) C rfl rfl ?_
          refine bv_sub [0, 2, 1, 3, 4, 5] (by rfl) ?_
          refine ihI (j9 + 1) (FP.fadd t9 (recG g 0 (nI i9) (nI j9) n)) (by omega)  ?_
          rw [← heq, shI_s]
      refine bv_sub [0, 1, 2, 3, 4, 5] (by rfl) ?_
      exact lpI S1 0 t9 (by omega)  heq
  refine bv_sub [0, 1, 2, 3, 4] (by rfl) ?_
  exact lpO S0 0 FP.fconst0 (by omega)  rfl
