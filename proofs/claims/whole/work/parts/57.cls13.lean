abbrev P2 : Type := Int32 × Int32
def bpI (g : Nat → Nat → Int32) (n i : Nat) : Nat → Nat → P2 → P2
  | 0, _, t => t
  | q + 1, j, t => bpI g n i q (j + 1) (if quaG g 0 (nI i) (nI j) n ≤ t.2 then t else (16 * nI i + nI j, quaG g 0 (nI i) (nI j) n))
def bpO (g : Nat → Nat → Int32) (n S1 : Nat) : Nat → Nat → P2 → P2
  | 0, _, t => t
  | r + 1, i, t => bpO g n S1 r (i + 1) (bpI g n i S1 0 t)
theorem bpI_0 {g : Nat → Nat → Int32} {n i j : Nat} {t : P2} : bpI g n i 0 j t = t := rfl
theorem bpO_0 {g : Nat → Nat → Int32} {n S1 i : Nat} {t : P2} : bpO g n S1 0 i t = t := rfl
theorem bpO_nx {g : Nat → Nat → Int32} {n S1 r i : Nat} {t : P2} : bpO g n S1 (r + 1) i t = bpO g n S1 r (i + 1) (bpI g n i S1 0 t) := rfl
theorem bpI_le {g : Nat → Nat → Int32} {n i q j : Nat} {b m : Int32} (c : quaG g 0 (nI i) (nI j) n ≤ m) : bpI g n i (q + 1) j (b, m) = bpI g n i q (j + 1) (b, m) := congrArg (bpI g n i q (j + 1)) (if_pos c)
theorem bpI_gt {g : Nat → Nat → Int32} {n i q j : Nat} {b m : Int32} (c : ¬ quaG g 0 (nI i) (nI j) n ≤ m) : bpI g n i (q + 1) j (b, m) = bpI g n i q (j + 1) (16 * nI i + nI j, quaG g 0 (nI i) (nI j) n) := congrArg (bpI g n i q (j + 1)) (if_neg c)
def shI (g : Nat → Nat → Int32) (n i : Nat) : Nat → Nat → UInt32 → UInt32
  | 0, _, t => t
  | q + 1, j, t => shI g n i q (j + 1) (FP.fadd t (recG g 0 (nI i) (nI j) n))
def shO (g : Nat → Nat → Int32) (n S1 : Nat) : Nat → Nat → UInt32 → UInt32
  | 0, _, t => t
  | r + 1, i, t => shO g n S1 r (i + 1) (shI g n i S1 0 t)
theorem shI_0 {g : Nat → Nat → Int32} {n i j : Nat} {t : UInt32} : shI g n i 0 j t = t := rfl
theorem shO_0 {g : Nat → Nat → Int32} {n S1 i : Nat} {t : UInt32} : shO g n S1 0 i t = t := rfl
theorem shO_nx {g : Nat → Nat → Int32} {n S1 r i : Nat} {t : UInt32} : shO g n S1 (r + 1) i t = shO g n S1 r (i + 1) (shI g n i S1 0 t) := rfl
theorem shI_s {g : Nat → Nat → Int32} {n i q j : Nat} {t : UInt32} : shI g n i (q + 1) j t = shI g n i q (j + 1) (FP.fadd t (recG g 0 (nI i) (nI j) n)) := rfl
def shT (g : Nat → Nat → Int32) (n S0 S1 : Nat) : UInt32 := shO g n S1 S0 0 FP.fconst0
set_option maxRecDepth 100000 in
set_option maxHeartbeats 8000000 in
theorem cs_bestWide {l : Launch} {D : va_G} {cA : FieldType → ClassId} {z0 : Nat} {SK SV : Nat → Nat} {ad : Nat → Nat} (hE : aD (fun q => z0 ≤ q) ad 26) (g : Nat → Nat → Int32) (σ τ : Nat → Nat) (hσ : pmK σ τ) (n S0 S1 : Nat) (hs : statR g n) (hS0 : g 1 15 = nI S0) (hS1 : g 1 35 = nI S1) (hA : S0 ≤ 16) (hB : S1 ≤ 16) : bF l D cA z0 SK SV ad shB 26 yX6_bestWidePair cX6_bestWidePair 6 (some .int) 4 [.ref 0] (layB g σ τ) (some (.int ((bpO g n S1 S0 0 ((-100000), (-100000))).1))) (layB g σ τ) := by
  refine bCT_intro (tb := tb_X6_bestWidePair) (own := RX6) hE pn_X6 rfl tk_X6_bestWidePair rfl (Nat.le_of_ble_eq_true rfl) ?_
  intro p e s0 m args below meth c C hr
  refine bv_blk C frk_X6 csk_X6 6 6 rfl (L1 := ([(3, .int (0)), (2, .int (-100000)), (1, .int (-100000)), (0, .ref 0)] : Lc)) (st1 := ([] : List Value)) (w1 := (layB g σ τ)) (by rfl) ?_
  have lpO : ∀ (r9 i9 : Nat) (b9 : Int32) (m9 : Int32), i9 + r9 = S0 → bpO g n S1 r9 i9 (b9, m9) = bpO g n S1 S0 0 ((-100000), (-100000)) → bV p l e (bR 4) s0 m args below meth c D cA shB (adA ad 26) 6 tb_X6_bestWidePair (MQ below (bQ D cA ad shB 26 (fun r w1 => r = (some (.int ((bpO g n S1 S0 0 ((-100000), (-100000))).1))) ∧ w1 = (layB g σ τ))) args s0 0 0 (adA ad 26)) ad 26 0 0 (layB g σ τ) 6 ([(3, .int (nI i9)), (1, .int b9), (2, .int m9), (0, .ref 0)] : Lc) ([] : List Value) := by
    intro r9
    induction r9 with
    | zero =>
      intro i9 b9 m9 hi9  heq
      rw [bpO_0] at heq
      refine bv_blk C frk_X6 csk_X6 4 10 rfl (L1 := ([(3, .int (nI i9)), (1, .int b9), (2, .int m9), (0, .ref 0)] : Lc)) (st1 := ([.int (g 1 15), .int (nI i9)] : List Value)) (w1 := (layB g σ τ)) (by rfl) ?_
      refine bv_icmp_ge (j := 39) C rfl rfl (fun _ => ?_) (fun h => absurd (by rw [show (g 1 15) = nI S0 from hS0]; exact (nI_le (a := S0) (b := i9) (by omega) (by omega))) h)
      refine bv_blk C frk_X6 csk_X6 1 40 rfl (L1 := ([(3, .int (nI i9)), (1, .int b9), (2, .int m9), (0, .ref 0)] : Lc)) (st1 := ([.int b9] : List Value)) (w1 := (layB g σ τ)) (by rfl) ?_
      exact bv_iret C rfl hr rfl ⟨by (rw [← heq]), by (rfl)⟩
    | succ r9 ihO =>
      intro i9 b9 m9 hi9  heq
      rw [bpO_nx] at heq
      refine bv_blk C frk_X6 csk_X6 4 10 rfl (L1 := ([(3, .int (nI i9)), (1, .int b9), (2, .int m9), (0, .ref 0)] : Lc)) (st1 := ([.int (g 1 15), .int (nI i9)] : List Value)) (w1 := (layB g σ τ)) (by rfl) ?_
      refine bv_icmp_ge (j := 39) C rfl rfl (fun h => absurd h (by rw [show (g 1 15) = nI S0 from hS0]; exact (nI_ge (a := i9) (b := S0) (by omega) (by omega)))) (fun _ => ?_)
      refine bv_blk C frk_X6 csk_X6 2 13 rfl (L1 := ([(4, .int (0)), (3, .int (nI i9)), (1, .int b9), (2, .int m9), (0, .ref 0)] : Lc)) (st1 := ([] : List Value)) (w1 := (layB g σ τ)) (by rfl) ?_
      have lpI : ∀ (q9 j9 : Nat) (b9 : Int32) (m9 : Int32), j9 + q9 = S1 → bpO g n S1 r9 (i9 + 1) (bpI g n i9 q9 j9 (b9, m9)) = bpO g n S1 S0 0 ((-100000), (-100000)) → bV p l e (bR 4) s0 m args below meth c D cA shB (adA ad 26) 6 tb_X6_bestWidePair (MQ below (bQ D cA ad shB 26 (fun r w1 => r = (some (.int ((bpO g n S1 S0 0 ((-100000), (-100000))).1))) ∧ w1 = (layB g σ τ))) args s0 0 0 (adA ad 26)) ad 26 0 0 (layB g σ τ) 13 ([(4, .int (nI j9)), (3, .int (nI i9)), (1, .int b9), (2, .int m9), (0, .ref 0)] : Lc) ([] : List Value) := by
        intro q9
        induction q9 with
        | zero =>
          intro j9 b9 m9 hj9  heq
          rw [bpI_0] at heq
          refine bv_blk C frk_X6 csk_X6 4 17 rfl (L1 := ([(4, .int (nI j9)), (3, .int (nI i9)), (1, .int b9), (2, .int m9), (0, .ref 0)] : Lc)) (st1 := ([.int (g 1 35), .int (nI j9)] : List Value)) (w1 := (layB g σ τ)) (by rfl) ?_
          refine bv_icmp_ge (j := 37) C rfl rfl (fun _ => ?_) (fun h => absurd (by rw [show (g 1 35) = nI S1 from hS1]; exact (nI_le (a := S1) (b := j9) (by omega) (by omega))) h)
          refine bv_blk C frk_X6 csk_X6 1 38 rfl (L1 := ([(3, .int ((nI i9) + Int32.ofInt 1)), (4, .int (nI j9)), (1, .int b9), (2, .int m9), (0, .ref 0)] : Lc)) (st1 := ([] : List Value)) (w1 := (layB g σ τ)) (by rfl) ?_
          rw [show ((nI i9) + Int32.ofInt 1) = nI (i9 + 1) from (nIi rfl)]
          refine bv_goto (j := 6) C rfl rfl ?_
          refine bv_sub [0, 2, 3, 4] (by rfl) ?_
          exact ihO (i9 + 1) b9 m9 (by omega)  heq
        | succ q9 ihI =>
          intro j9 b9 m9 hj9  heq
          refine bv_blk C frk_X6 csk_X6 4 17 rfl (L1 := ([(4, .int (nI j9)), (3, .int (nI i9)), (1, .int b9), (2, .int m9), (0, .ref 0)] : Lc)) (st1 := ([.int (g 1 35), .int (nI j9)] : List Value)) (w1 := (layB g σ τ)) (by rfl) ?_
          refine bv_icmp_ge (j := 37) C rfl rfl (fun h => absurd h (by rw [show (g 1 35) = nI S1 from hS1]; exact (nI_ge (a := j9) (b := S1) (by omega) (by omega)))) (fun _ => ?_)
          refine bv_blk C frk_X6 csk_X6 4 22 rfl (L1 := ([(4, .int (nI j9)), (3, .int (nI i9)), (1, .int b9), (2, .int m9), (0, .ref 0)] : Lc)) (st1 := ([.int (nI j9), .int (nI i9), .int (0), .ref 0] : List Value)) (w1 := (layB g σ τ)) (by rfl) ?_
          refine bv_fV1 C rfl (cs_qualityOf0 hE g σ τ hσ n (nI i9) (nI j9) hs) ml_X6_168 im_X6_qualityOf sel_X6_qualityOf ini_X6 cd_X6_qualityOf ok_X6_qualityOf rfl ⟨Nat.le_of_ble_eq_true rfl, Nat.le_of_ble_eq_true rfl⟩ ⟨Nat.zero_le _, Nat.zero_le _⟩ (by decide) rfl rfl rfl (rest := ([] : List Value)) rfl (Nat.le_of_ble_eq_true rfl) ?_
          refine bv_blk C frk_X6 csk_X6 3 26 rfl (L1 := ([(5, .int (quaG g 0 (nI i9) (nI j9) n)), (4, .int (nI j9)), (3, .int (nI i9)), (1, .int b9), (2, .int m9), (0, .ref 0)] : Lc)) (st1 := ([.int m9, .int (quaG g 0 (nI i9) (nI j9) n)] : List Value)) (w1 := (layB g σ τ)) (by rfl) ?_
          refine bv_icmp_le (j := 35) C rfl rfl (fun c5 => ?_) (fun c5 => ?_)
          · refine bv_blk C frk_X6 csk_X6 1 36 rfl (L1 := ([(4, .int ((nI j9) + Int32.ofInt 1)), (5, .int (quaG g 0 (nI i9) (nI j9) n)), (3, .int (nI i9)), (1, .int b9), (2, .int m9), (0, .ref 0)] : Lc)) (st1 := ([] : List Value)) (w1 := (layB g σ τ)) (by rfl) ?_
            rw [show ((nI j9) + Int32.ofInt 1) = nI (j9 + 1) from (nIi rfl)]
            refine bv_goto (j := 13) C rfl rfl ?_
            refine bv_sub [0, 2, 3, 4, 5] (by rfl) ?_
            refine ihI (j9 + 1) b9 m9 (by omega)  ?_
            rw [← heq, bpI_le c5]
          · refine bv_blk C frk_X6 csk_X6 9 36 rfl (L1 := ([(4, .int ((nI j9) + Int32.ofInt 1)), (1, .int (((16) * (nI i9)) + (nI j9))), (2, .int (quaG g 0 (nI i9) (nI j9) n)), (5, .int (quaG g 0 (nI i9) (nI j9) n)), (3, .int (nI i9)), (0, .ref 0)] : Lc)) (st1 := ([] : List Value)) (w1 := (layB g σ τ)) (by rfl) ?_
            rw [show ((nI j9) + Int32.ofInt 1) = nI (j9 + 1) from (nIi rfl)]
            refine bv_goto (j := 13) C rfl rfl ?_
            refine bv_sub [0, 4, 1, 2, 5] (by rfl) ?_
            refine ihI (j9 + 1) (((16) * (nI i9)) + (nI j9)) (quaG g 0 (nI i9) (nI j9) n) (by omega)  ?_
            rw [← heq, bpI_gt c5]
      refine bv_sub [0, 1, 2, 3, 4] (by rfl) ?_
      exact lpI S1 0 b9 m9 (by omega)  heq
  refine bv_sub [0, 2, 1, 3] (by rfl) ?_
  exact lpO S0 0 (-100000) (-100000) (by omega)  rfl
set_option maxRecDepth 100000 in
set_option maxHeartbeats 8000000 in
theorem cs_shareOf {l : Launch} {D : va_G} {cA : FieldType → ClassId} {z0 : Nat} {SK SV : Nat → Nat} {ad : Nat → Nat} (hE : aD (fun q => z0 ≤ q) ad 26) (g : Nat → Nat → Int32) (σ τ : Nat → Nat) (hσ : pmK σ τ) (n S0 S1 : Nat) (a b : Int32) (hs : statR g n) (hS0 : g 1 15 = nI S0) (hS1 : g 1 35 = nI S1) (hA : S0 ≤ 16) (hB : S1 ≤ 16) (hN : ∀ (i j : Nat) (t : UInt32), i < S0 → j < S1 → (∃ q j2, shO g n S1 (S0 - i - 1) (i + 1) (shI g n i q j2 t) = shT g n S0 S1) → vf_n32 (FP.fadd t (recG g 0 (nI i) (nI j) n))) (hD : vf_n32 (FP.fdiv (recG g 0 a b n) (shT g n S0 S1))) : bF l D cA z0 SK SV ad shB 26 yX6_shareOf cX6_shareOf 6 (some .float) 3 [.ref 0, .int a, .int b] (layB g σ τ) (some (.float (if Op.cmpValue (FP.fcmp (shT g n S0 S1) FP.fconst0) .l ≤ 0 then FP.fconst0 else FP.fdiv (recG g 0 a b n) (shT g n S0 S1)))) (layB g σ τ) := by
  refine bCT_intro (tb := tb_X6_shareOf) (own := RX6) hE pn_X6 rfl tk_X6_shareOf rfl (Nat.le_of_ble_eq_true rfl) ?_
  intro p e s0 m args below meth c C hr
  refine bv_fconst0 C rfl ?_
  refine bv_blk C frk_X6 csk_X6 3 4 rfl (L1 := ([(4, .int (0)), (3, .float FP.fconst0), (0, .ref 0), (1, .int a), (2, .int b)] : Lc)) (st1 := ([] : List Value)) (w1 := (layB g σ τ)) (by rfl) ?_
  have lpO : ∀ (r9 i9 : Nat) (t9 : UInt32), i9 + r9 = S0 → shO g n S1 r9 i9 t9 = shT g n S0 S1 → bV p l e (bR 3) s0 m args below meth c D cA shB (adA ad 26) 6 tb_X6_shareOf (MQ below (bQ D cA ad shB 26 (fun r w1 => r = (some (.float (if Op.cmpValue (FP.fcmp (shT g n S0 S1) FP.fconst0) .l ≤ 0 then FP.fconst0 else FP.fdiv (recG g 0 a b n) (shT g n S0 S1)))) ∧ w1 = (layB g σ τ))) args s0 0 0 (adA ad 26)) ad 26 0 0 (layB g σ τ) 4 ([(4, .int (nI i9)), (3, .float t9), (0, .ref 0), (1, .int a), (2, .int b)] : Lc) ([] : List Value) := by
    intro r9
    induction r9 with
    | zero =>
      intro i9 t9 hi9  heq
      rw [shO_0] at heq
      refine bv_blk C frk_X6 csk_X6 4 8 rfl (L1 := ([(4, .int (nI i9)), (3, .float t9), (0, .ref 0), (1, .int a), (2, .int b)] : Lc)) (st1 := ([.int (g 1 15), .int (nI i9)] : List Value)) (w1 := (layB g σ τ)) (by rfl) ?_
      refine bv_icmp_ge (j := 28) C rfl rfl (fun _ => ?_) (fun h => absurd (by rw [show (g 1 15) = nI S0 from hS0]; exact (nI_le (a := S0) (b := i9) (by omega) (by omega))) h)
      refine bv_blk C frk_X6 csk_X6 1 29 rfl (L1 := ([(4, .int (nI i9)), (3, .float t9), (0, .ref 0), (1, .int a), (2, .int b)] : Lc)) (st1 := ([.float t9] : List Value)) (w1 := (layB g σ τ)) (by rfl) ?_
      refine bv_fconst0 C rfl ?_
      refine bv_blk C frk_X6 csk_X6 1 31 rfl (L1 := ([(4, .int (nI i9)), (3, .float t9), (0, .ref 0), (1, .int a), (2, .int b)] : Lc)) (st1 := ([.int (Op.cmpValue (FP.fcmp t9 FP.fconst0) .l)] : List Value)) (w1 := (layB g σ τ)) (by rfl) ?_
      refine bv_if_le (j := 40) C rfl rfl (fun c2 => ?_) (fun c2 => ?_)
      · refine bv_fconst0 C rfl ?_
        exact bv_fret C rfl hr ⟨by (rw [← heq]; exact congrArg (fun x => some (Value.float x)) (((if_pos c2).trans rfl)).symm), by (rfl)⟩
      · refine bv_blk C frk_X6 csk_X6 4 36 rfl (L1 := ([(4, .int (nI i9)), (3, .float t9), (0, .ref 0), (1, .int a), (2, .int b)] : Lc)) (st1 := ([.int b, .int a, .int (0), .ref 0] : List Value)) (w1 := (layB g σ τ)) (by rfl) ?_
        refine bv_fV1 C rfl (cs_receivedA hE g g σ τ hσ 0 n a b (by omega) (fun _ _ => rfl) hs) ml_X6_157 im_X6_received sel_X6_received ini_X6 cd_X6_received ok_X6_received rfl ⟨Nat.le_of_ble_eq_true rfl, Nat.le_of_ble_eq_true rfl⟩ ⟨Nat.zero_le _, Nat.zero_le _⟩ (by decide) rfl rfl rfl (rest := ([] : List Value)) rfl (Nat.le_of_ble_eq_true rfl) ?_
        refine bv_blk C frk_X6 csk_X6 1 38 rfl (L1 := ([(4, .int (nI i9)), (3, .float t9), (0, .ref 0), (1, .int a), (2, .int b)] : Lc)) (st1 := ([.float t9, .float (recG g 0 a b n)] : List Value)) (w1 := (layB g σ τ)) (by rfl) ?_
        refine bv_fdiv C rfl (by rw [heq]; exact hD) ?_
        refine bv_goto (j := 41) C rfl rfl ?_
        exact bv_fret C rfl hr ⟨by (rw [← heq]; exact congrArg (fun x => some (Value.float x)) (((if_neg c2).trans rfl)).symm), by (rfl)⟩
    | succ r9 ihO =>
      intro i9 t9 hi9  heq
      rw [shO_nx] at heq
      refine bv_blk C frk_X6 csk_X6 4 8 rfl (L1 := ([(4, .int (nI i9)), (3, .float t9), (0, .ref 0), (1, .int a), (2, .int b)] : Lc)) (st1 := ([.int (g 1 15), .int (nI i9)] : List Value)) (w1 := (layB g σ τ)) (by rfl) ?_
      refine bv_icmp_ge (j := 28) C rfl rfl (fun h => absurd h (by rw [show (g 1 15) = nI S0 from hS0]; exact (nI_ge (a := i9) (b := S0) (by omega) (by omega)))) (fun _ => ?_)
      refine bv_blk C frk_X6 csk_X6 2 11 rfl (L1 := ([(5, .int (0)), (4, .int (nI i9)), (3, .float t9), (0, .ref 0), (1, .int a), (2, .int b)] : Lc)) (st1 := ([] : List Value)) (w1 := (layB g σ τ)) (by rfl) ?_
      have lpI : ∀ (q9 j9 : Nat) (t9 : UInt32), j9 + q9 = S1 → shO g n S1 r9 (i9 + 1) (shI g n i9 q9 j9 t9) = shT g n S0 S1 → bV p l e (bR 3) s0 m args below meth c D cA shB (adA ad 26) 6 tb_X6_shareOf (MQ below (bQ D cA ad shB 26 (fun r w1 => r = (some (.float (if Op.cmpValue (FP.fcmp (shT g n S0 S1) FP.fconst0) .l ≤ 0 then FP.fconst0 else FP.fdiv (recG g 0 a b n) (shT g n S0 S1)))) ∧ w1 = (layB g σ τ))) args s0 0 0 (adA ad 26)) ad 26 0 0 (layB g σ τ) 11 ([(5, .int (nI j9)), (4, .int (nI i9)), (3, .float t9), (0, .ref 0), (1, .int a), (2, .int b)] : Lc) ([] : List Value) := by
        intro q9
        induction q9 with
        | zero =>
          intro j9 t9 hj9  heq
          rw [shI_0] at heq
          refine bv_blk C frk_X6 csk_X6 4 15 rfl (L1 := ([(5, .int (nI j9)), (4, .int (nI i9)), (3, .float t9), (0, .ref 0), (1, .int a), (2, .int b)] : Lc)) (st1 := ([.int (g 1 35), .int (nI j9)] : List Value)) (w1 := (layB g σ τ)) (by rfl) ?_
          refine bv_icmp_ge (j := 26) C rfl rfl (fun _ => ?_) (fun h => absurd (by rw [show (g 1 35) = nI S1 from hS1]; exact (nI_le (a := S1) (b := j9) (by omega) (by omega))) h)
          refine bv_blk C frk_X6 csk_X6 1 27 rfl (L1 := ([(4, .int ((nI i9) + Int32.ofInt 1)), (5, .int (nI j9)), (3, .float t9), (0, .ref 0), (1, .int a), (2, .int b)] : Lc)) (st1 := ([] : List Value)) (w1 := (layB g σ τ)) (by rfl) ?_
          rw [show ((nI i9) + Int32.ofInt 1) = nI (i9 + 1) from (nIi rfl)]
          refine bv_goto (j := 4) C rfl rfl ?_
          refine bv_sub [0, 2, 3, 4, 5] (by rfl) ?_
          exact ihO (i9 + 1) t9 (by omega)  heq
        | succ q9 ihI =>
          intro j9 t9 hj9  heq
          refine bv_blk C frk_X6 csk_X6 4 15 rfl (L1 := ([(5, .int (nI j9)), (4, .int (nI i9)), (3, .float t9), (0, .ref 0), (1, .int a), (2, .int b)] : Lc)) (st1 := ([.int (g 1 35), .int (nI j9)] : List Value)) (w1 := (layB g σ τ)) (by rfl) ?_
          refine bv_icmp_ge (j := 26) C rfl rfl (fun h => absurd h (by rw [show (g 1 35) = nI S1 from hS1]; exact (nI_ge (a := j9) (b := S1) (by omega) (by omega)))) (fun _ => ?_)
          refine bv_blk C frk_X6 csk_X6 5 21 rfl (L1 := ([(5, .int (nI j9)), (4, .int (nI i9)), (3, .float t9), (0, .ref 0), (1, .int a), (2, .int b)] : Lc)) (st1 := ([.int (nI j9), .int (nI i9), .int (0), .ref 0, .float t9] : List Value)) (w1 := (layB g σ τ)) (by rfl) ?_
          refine bv_fV1 C rfl (cs_receivedA hE g g σ τ hσ 0 n (nI i9) (nI j9) (by omega) (fun _ _ => rfl) hs) ml_X6_157 im_X6_received sel_X6_received ini_X6 cd_X6_received ok_X6_received rfl ⟨Nat.le_of_ble_eq_true rfl, Nat.le_of_ble_eq_true rfl⟩ ⟨Nat.zero_le _, Nat.zero_le _⟩ (by decide) rfl rfl rfl (rest := ([.float t9] : List Value)) rfl (Nat.le_of_ble_eq_true rfl) ?_
          refine bv_fadd C rfl (hN i9 j9 t9 (by omega) (by omega) ⟨q9 + 1, j9, by rw [show S0 - i9 - 1 = r9 by omega]; exact heq⟩) ?_
          refine bv_blk C frk_X6 csk_X6 2 25 rfl (L1 := ([(5, .int ((nI j9) + Int32.ofInt 1)), (3, .float (FP.fadd t9 (recG g 0 (nI i9) (nI j9) n))), (4, .int (nI i9)), (0, .ref 0), (1, .int a), (2, .int b)] : Lc)) (st1 := ([] : List Value)) (w1 := (layB g σ τ)) (by rfl) ?_
          rw [show ((nI j9) + Int32.ofInt 1) = nI (j9 + 1) from (nIi rfl)]
          refine bv_goto (j := 11) C rfl rfl ?_
          refine bv_sub [0, 2, 1, 3, 4, 5] (by rfl) ?_
          refine ihI (j9 + 1) (FP.fadd t9 (recG g 0 (nI i9) (nI j9) n)) (by omega)  ?_
          rw [← heq, shI_s]
      refine bv_sub [0, 1, 2, 3, 4, 5] (by rfl) ?_
      exact lpI S1 0 t9 (by omega)  heq
  refine bv_sub [0, 1, 2, 3, 4] (by rfl) ?_
  exact lpO S0 0 FP.fconst0 (by omega)  rfl
