theorem rdB_1 {t : Nat → Int32} {lo hi sg : Int32} {Ln f b : Nat} (h1 : f = Ln) : rdB t lo hi sg Ln f b = false := if_pos h1
theorem rdB_2 {t : Nat → Int32} {lo hi sg : Int32} {Ln f b : Nat} (h1 : f < Ln) (h2 : dgB (t f) = false) : rdB t lo hi sg Ln f b = false := (if_neg (by omega)).trans (if_pos h2)
theorem rdB_3 {t : Nat → Int32} {lo hi sg : Int32} {Ln f b : Nat} (h1 : f < Ln) (h2 : dgB (t f) = true) (h3 : 3 < b - f) : rdB t lo hi sg Ln f b = false := (if_neg (by omega)).trans ((if_neg (fun z => absurd (z.symm.trans h2) Bool.noConfusion)).trans (if_pos h3))
theorem rdB_4 {t : Nat → Int32} {lo hi sg v : Int32} {Ln f b : Nat} (h1 : f < Ln) (h2 : dgB (t f) = true) (h3 : b - f ≤ 3) (h4 : v = nmF t (b - f) f 0) : rdB t lo hi sg Ln f b = decide (lo ≤ sg * v ∧ sg * v ≤ hi) := by
  unfold rdB
  rw [if_neg (show ¬ f = Ln by omega), if_neg (show ¬ dgB (t f) = false from fun z => absurd (z.symm.trans h2) Bool.noConfusion), if_neg (show ¬ 3 < b - f by omega), ← h4]
theorem rdG_f {g : Nat → Nat → Int32} {lo hi sg : Int32} {Ln f b : Nat} (h : rdB (g 3) lo hi sg Ln f b = false) : rdG g lo hi sg Ln f b = g := if_neg (fun z => absurd (z.symm.trans h) Bool.noConfusion)
theorem rdG_t {g : Nat → Nat → Int32} {lo hi sg v : Int32} {Ln f b : Nat} (h : rdB (g 3) lo hi sg Ln f b = true) (h4 : v = nmF (g 3) (b - f) f 0) : rdG g lo hi sg Ln f b = ntG Ln b (ug g 0 16 (sg * v)) := by
  unfold rdG
  rw [if_pos h, ← h4]
set_option maxRecDepth 100000 in
set_option maxHeartbeats 8000000 in
theorem ct_readsNumber {l : Launch} {D : va_G} {cA : FieldType → ClassId} {z0 : Nat} {SK SV : Nat → Nat} {ad : Nat → Nat} (hE : aD (fun q => z0 ≤ q) ad 9) (g : Nat → Nat → Int32) (h : Int64) (Ln f b : Nat) (lo hi sg : Int32) (ht : tokI g Ln f b) : bF l D cA z0 SK SV ad shM 9 yX9_readsNumber cX9_readsNumber 6 (some .boolean) 3 [.ref 0, .int lo, .int hi, .int sg] (layM g h) (some (.int (b2i (rdB (g 3) lo hi sg Ln f b)))) (layM (rdG g lo hi sg Ln f b) h) := by
  refine bCT_intro (tb := tb_X9_readsNumber) (own := RX9) hE pn_X9 rfl tk_X9_readsNumber rfl (Nat.le_of_ble_eq_true rfl) ?_
  intro p e s0 m args below meth c C hr
  obtain ⟨hl, hL, hf, hb, hfb, hbL, hfl⟩ := ht
  refine bv_blk C frk_X9 csk_X9 4 4 rfl (L1 := ([(0, .ref 0), (1, .int lo), (2, .int hi), (3, .int sg)] : Lc)) (st1 := ([.int (g 0 4), .int (g 0 9)] : List Value)) (w1 := (layM g h)) (by rfl) ?_
  rcases (by omega : f = Ln ∨ f < Ln) with hq4 | hq4
  · refine bv_icmp_eq (j := 19) C rfl rfl (fun _ => ?_) (fun h => absurd (by rw [show (g 0 4) = nI Ln from hl]; exact (by rw [show (g 0 9) = nI f from hf]; exact ((nI_eq (a := f) (b := Ln) (by omega) (by omega)).mpr (by omega)))) h)
    refine bv_blk C frk_X9 csk_X9 1 20 rfl (L1 := ([(0, .ref 0), (1, .int lo), (2, .int hi), (3, .int sg)] : Lc)) (st1 := ([.int (0)] : List Value)) (w1 := (layM g h)) (by rfl) ?_
    exact bv_iret C rfl hr rfl ⟨by (rw [show rdB (g 3) lo hi sg Ln f b = false from (rdB_1 hq4)]; rfl), by (rw [rdG_f (rdB_1 hq4)])⟩
  · refine bv_icmp_eq (j := 19) C rfl rfl (fun h => absurd h (by rw [show (g 0 4) = nI Ln from hl]; exact (by rw [show (g 0 9) = nI f from hf]; exact (fun z => absurd ((nI_eq (a := f) (b := Ln) (by omega) (by omega)).mp z) (by omega))))) (fun _ => ?_)
    refine bv_blk C frk_X9 csk_X9 4 9 rfl (L1 := ([(0, .ref 0), (1, .int lo), (2, .int hi), (3, .int sg)] : Lc)) (st1 := ([.int (g 0 9), .ref 3] : List Value)) (w1 := (layM g h)) (by rfl) ?_
    refine bv_iald C rfl rfl (by decide) (j := f) (by exact hf) (by first | decide | omega) (by decide) (y := (g 3 f)) (by rfl) ?_
    refine bv_fS1 C rfl (ct_isDigit hE _ (g 3 f)) ml_X9_212 st_X9_isDigit ini_X9 cd_X9_isDigit ok_X9_isDigit rfl ⟨Nat.le_of_ble_eq_true rfl, Nat.le_of_ble_eq_true rfl⟩ ⟨Nat.zero_le _, Nat.zero_le _⟩ (rest := ([] : List Value)) rfl (Nat.le_of_ble_eq_true rfl) ?_
    refine bv_if_eq (j := 19) C rfl rfl (fun c3 => ?_) (fun c3 => ?_)
    · refine bv_blk C frk_X9 csk_X9 1 20 rfl (L1 := ([(0, .ref 0), (1, .int lo), (2, .int hi), (3, .int sg)] : Lc)) (st1 := ([.int (0)] : List Value)) (w1 := (layM g h)) (by rfl) ?_
      exact bv_iret C rfl hr rfl ⟨by (rw [show rdB (g 3) lo hi sg Ln f b = false from (rdB_2 hq4 (b2i_0 c3))]; rfl), by (rw [rdG_f (rdB_2 hq4 (b2i_0 c3))])⟩
    · refine bv_blk C frk_X9 csk_X9 6 18 rfl (L1 := ([(0, .ref 0), (1, .int lo), (2, .int hi), (3, .int sg)] : Lc)) (st1 := ([.int (3), .int ((g 0 10) - (g 0 9))] : List Value)) (w1 := (layM g h)) (by rfl) ?_
      rcases (by omega : b - f ≤ 3 ∨ 3 < b - f) with hq18 | hq18
      · refine bv_icmp_le (j := 21) C rfl rfl (fun _ => ?_) (fun h => absurd (by rw [show ((g 0 10) - (g 0 9)) = nI (b - f) from (nIs hb hf (by omega))]; exact (nI_le (a := (b - f)) (b := 3) (by omega) (by omega))) h)
        refine bv_blk C frk_X9 csk_X9 5 26 rfl (L1 := ([(5, .int (g 0 9)), (4, .int (0)), (0, .ref 0), (1, .int lo), (2, .int hi), (3, .int sg)] : Lc)) (st1 := ([] : List Value)) (w1 := (layM g h)) (by rfl) ?_
        have lp : ∀ (q k : Nat) (v : Int32), k + q = b → nmF (g 3) q k v = nmF (g 3) (b - f) f 0 → bV p l e (bR 3) s0 m args below meth c D cA shM (adA ad 9) 6 tb_X9_readsNumber (MQ below (bQ D cA ad shM 9 (fun r w1 => r = (some (.int (b2i (rdB (g 3) lo hi sg Ln f b)))) ∧ w1 = (layM (rdG g lo hi sg Ln f b) h))) args s0 0 0 (adA ad 9)) ad 9 0 0 (layM g h) 26 ([(5, .int (nI k)), (4, .int v), (0, .ref 0), (1, .int lo), (2, .int hi), (3, .int sg)] : Lc) ([] : List Value) := by
          intro q
          induction q with
          | zero =>
            intro k v hk heq
            rw [nmF_0] at heq
            refine bv_blk C frk_X9 csk_X9 3 29 rfl (L1 := ([(5, .int (nI k)), (4, .int v), (0, .ref 0), (1, .int lo), (2, .int hi), (3, .int sg)] : Lc)) (st1 := ([.int (g 0 10), .int (nI k)] : List Value)) (w1 := (layM g h)) (by rfl) ?_
            refine bv_icmp_ge (j := 43) C rfl rfl (fun _ => ?_) (fun h => absurd (by rw [show (g 0 10) = nI b from hb]; exact (nI_le (a := b) (b := k) (by omega) (by omega))) h)
            refine bv_blk C frk_X9 csk_X9 8 51 rfl (L1 := ([(5, .int (nI k)), (4, .int v), (0, .ref 0), (1, .int lo), (2, .int hi), (3, .int sg)] : Lc)) (st1 := ([.long (Int32.toInt64 hi), .long (Int32.toInt64 lo), .long (Int32.toInt64 (sg * v))] : List Value)) (w1 := (layM g h)) (by rfl) ?_
            by_cases c6 : (lo ≤ (sg * v) ∧ (sg * v) ≤ hi)
            · refine bv_fS1 C rfl (ct_in_t hE _ (x := (sg * v)) (lo := lo) (hi := hi) c6) ml_X9_65 st_X9_in ini_X9 cd_X9_in ok_X9_in rfl ⟨Nat.le_of_ble_eq_true rfl, Nat.le_of_ble_eq_true rfl⟩ ⟨Nat.zero_le _, Nat.zero_le _⟩ (rest := ([] : List Value)) rfl (Nat.le_of_ble_eq_true rfl) ?_
              refine bv_if_ne (j := 55) C rfl rfl (fun _ => ?_) (fun h => absurd h (by decide))
              refine bv_blk C frk_X9 csk_X9 5 60 rfl (L1 := ([(5, .int (nI k)), (4, .int v), (0, .ref 0), (1, .int lo), (2, .int hi), (3, .int sg)] : Lc)) (st1 := ([] : List Value)) (w1 := up2 (layM g h) 0 16 (.int (sg * v))) (by rfl) ?_
              rw [lm_up rfl]
              refine bv_blk C frk_X9 csk_X9 1 61 rfl (L1 := ([(5, .int (nI k)), (4, .int v), (0, .ref 0), (1, .int lo), (2, .int hi), (3, .int sg)] : Lc)) (st1 := ([.ref 0] : List Value)) (w1 := (layM (ug g 0 16 (sg * v)) h)) (by rfl) ?_
              refine bv_fV0 C rfl (ct_nextToken hE (ug g 0 16 (sg * v)) _ Ln b ((ug_ne (by omega)).trans hl) hL ((ug_ne (by omega)).trans hb) hbL) ml_X9_221 im_X9_nextToken sel_X9_nextToken ini_X9 cd_X9_nextToken ok_X9_nextToken rfl ⟨Nat.le_of_ble_eq_true rfl, Nat.le_of_ble_eq_true rfl⟩ ⟨Nat.zero_le _, Nat.zero_le _⟩ (by decide) rfl rfl rfl (rest := ([] : List Value)) rfl (Nat.le_of_ble_eq_true rfl) ?_
              refine bv_blk C frk_X9 csk_X9 1 63 rfl (L1 := ([(5, .int (nI k)), (4, .int v), (0, .ref 0), (1, .int lo), (2, .int hi), (3, .int sg)] : Lc)) (st1 := ([.int (1)] : List Value)) (w1 := (layM (ntG Ln b (ug g 0 16 (sg * v))) h)) (by rfl) ?_
              exact bv_iret C rfl hr rfl ⟨by (rw [show rdB (g 3) lo hi sg Ln f b = true from ((rdB_4 hq4 (b2i_1 c3) hq18 heq).trans (decide_eq_true c6))]; rfl), by (rw [rdG_t ((rdB_4 hq4 (b2i_1 c3) hq18 heq).trans (decide_eq_true c6)) heq])⟩
            · refine bv_fS1 C rfl (ct_in_f hE _ (x := (sg * v)) (lo := lo) (hi := hi) c6) ml_X9_65 st_X9_in ini_X9 cd_X9_in ok_X9_in rfl ⟨Nat.le_of_ble_eq_true rfl, Nat.le_of_ble_eq_true rfl⟩ ⟨Nat.zero_le _, Nat.zero_le _⟩ (rest := ([] : List Value)) rfl (Nat.le_of_ble_eq_true rfl) ?_
              refine bv_if_ne (j := 55) C rfl rfl (fun h => absurd h (by decide)) (fun _ => ?_)
              refine bv_blk C frk_X9 csk_X9 1 54 rfl (L1 := ([(5, .int (nI k)), (4, .int v), (0, .ref 0), (1, .int lo), (2, .int hi), (3, .int sg)] : Lc)) (st1 := ([.int (0)] : List Value)) (w1 := (layM g h)) (by rfl) ?_
              exact bv_iret C rfl hr rfl ⟨by (rw [show rdB (g 3) lo hi sg Ln f b = false from ((rdB_4 hq4 (b2i_1 c3) hq18 heq).trans (decide_eq_false c6))]; rfl), by (rw [rdG_f ((rdB_4 hq4 (b2i_1 c3) hq18 heq).trans (decide_eq_false c6))])⟩
          | succ q ih =>
            intro k v hk heq
            rw [nmF_s] at heq
            refine bv_blk C frk_X9 csk_X9 3 29 rfl (L1 := ([(5, .int (nI k)), (4, .int v), (0, .ref 0), (1, .int lo), (2, .int hi), (3, .int sg)] : Lc)) (st1 := ([.int (g 0 10), .int (nI k)] : List Value)) (w1 := (layM g h)) (by rfl) ?_
            refine bv_icmp_ge (j := 43) C rfl rfl (fun h => absurd h (by rw [show (g 0 10) = nI b from hb]; exact (nI_ge (a := k) (b := b) (by omega) (by omega)))) (fun _ => ?_)
            refine bv_blk C frk_X9 csk_X9 6 36 rfl (L1 := ([(5, .int (nI k)), (4, .int v), (0, .ref 0), (1, .int lo), (2, .int hi), (3, .int sg)] : Lc)) (st1 := ([.int (nI k), .ref 3, .int ((10) * v)] : List Value)) (w1 := (layM g h)) (by rfl) ?_
            refine bv_iald C rfl rfl (by decide) (j := k) (by exact rfl) (by first | decide | omega) (by decide) (y := (g 3 k)) (by rfl) ?_
            refine bv_blk C frk_X9 csk_X9 5 42 rfl (L1 := ([(5, .int ((nI k) + Int32.ofInt 1)), (4, .int ((((10) * v) + (g 3 k)) - (48))), (0, .ref 0), (1, .int lo), (2, .int hi), (3, .int sg)] : Lc)) (st1 := ([] : List Value)) (w1 := (layM g h)) (by rfl) ?_
            rw [show ((nI k) + Int32.ofInt 1) = nI (k + 1) from (nIi rfl)]
            refine bv_goto (j := 26) C rfl rfl ?_
            refine bv_sub [0, 1, 2, 3, 4, 5] (by rfl) ?_
            exact ih (k + 1) ((((10) * v) + (g 3 k)) - (48)) (by omega) heq
        refine bv_sub [0, 1, 2, 3, 4, 5] (by rfl) ?_
        exact (by rw [hf]; exact lp (b - f) f 0 (by omega) rfl)
      · refine bv_icmp_le (j := 21) C rfl rfl (fun h => absurd h (by rw [show ((g 0 10) - (g 0 9)) = nI (b - f) from (nIs hb hf (by omega))]; exact (nI_ge (a := 3) (b := (b - f)) (by omega) (by omega)))) (fun _ => ?_)
        refine bv_blk C frk_X9 csk_X9 1 20 rfl (L1 := ([(0, .ref 0), (1, .int lo), (2, .int hi), (3, .int sg)] : Lc)) (st1 := ([.int (0)] : List Value)) (w1 := (layM g h)) (by rfl) ?_
        exact bv_iret C rfl hr rfl ⟨by (rw [show rdB (g 3) lo hi sg Ln f b = false from (rdB_3 hq4 (b2i_1 c3) hq18)]; rfl), by (rw [rdG_f (rdB_3 hq4 (b2i_1 c3) hq18)])⟩
def rsB (g : Nat → Nat → Int32) (lo hi : Int32) (Ln f b : Nat) : Bool := if f < Ln ∧ g 3 f = 45 then rdB (g 3) lo hi (-1) Ln (ntF (g 3) Ln b) (ntB (g 3) Ln (ntF (g 3) Ln b)) else rdB (g 3) lo hi 1 Ln f b
def rsG (g : Nat → Nat → Int32) (lo hi : Int32) (Ln f b : Nat) : Nat → Nat → Int32 := if f < Ln ∧ g 3 f = 45 then rdG (ntG Ln b g) lo hi (-1) Ln (ntF (g 3) Ln b) (ntB (g 3) Ln (ntF (g 3) Ln b)) else rdG g lo hi 1 Ln f b
set_option maxRecDepth 100000 in
set_option maxHeartbeats 8000000 in
theorem ct_readsSigned {l : Launch} {D : va_G} {cA : FieldType → ClassId} {z0 : Nat} {SK SV : Nat → Nat} {ad : Nat → Nat} (hE : aD (fun q => z0 ≤ q) ad 9) (g : Nat → Nat → Int32) (h : Int64) (Ln f b : Nat) (lo hi : Int32) (ht : tokI g Ln f b) : bF l D cA z0 SK SV ad shM 9 yX9_readsSigned cX9_readsSigned 4 (some .boolean) 4 [.ref 0, .int lo, .int hi] (layM g h) (some (.int (b2i (rsB g lo hi Ln f b)))) (layM (rsG g lo hi Ln f b) h) := by
  refine bCT_intro (tb := tb_X9_readsSigned) (own := RX9) hE pn_X9 rfl tk_X9_readsSigned rfl (Nat.le_of_ble_eq_true rfl) ?_
  intro p e s0 m args below meth c C hr
  have ht0 := ht
  obtain ⟨hl, hL, hf, hb, hfb, hbL, hfl⟩ := ht
  refine bv_blk C frk_X9 csk_X9 6 6 rfl (L1 := ([(3, .int (1)), (0, .ref 0), (1, .int lo), (2, .int hi)] : Lc)) (st1 := ([.int (g 0 4), .int (g 0 9)] : List Value)) (w1 := (layM g h)) (by rfl) ?_
  rcases (by omega : f = Ln ∨ f < Ln) with hq6 | hq6
  · refine bv_icmp_ge (j := 18) C rfl rfl (fun _ => ?_) (fun h => absurd (by rw [show (g 0 4) = nI Ln from hl]; exact (by rw [show (g 0 9) = nI f from hf]; exact (nI_le (a := Ln) (b := f) (by omega) (by omega)))) h)
    refine bv_blk C frk_X9 csk_X9 4 22 rfl (L1 := ([(3, .int (1)), (0, .ref 0), (1, .int lo), (2, .int hi)] : Lc)) (st1 := ([.int (1), .int hi, .int lo, .ref 0] : List Value)) (w1 := (layM g h)) (by rfl) ?_
    refine bv_fV1 C rfl (ct_readsNumber hE g _ Ln f b lo hi (1) ht0) ml_X9_224 im_X9_readsNumber sel_X9_readsNumber ini_X9 cd_X9_readsNumber ok_X9_readsNumber rfl ⟨Nat.le_of_ble_eq_true rfl, Nat.le_of_ble_eq_true rfl⟩ ⟨Nat.zero_le _, Nat.zero_le _⟩ (by decide) rfl rfl rfl (rest := ([] : List Value)) rfl (Nat.le_of_ble_eq_true rfl) ?_
    exact bv_iret C rfl hr (nar_b2i _) ⟨by (exact congrArg (fun x => some (Value.int (b2i x))) (show rsB g lo hi Ln f b = _ from (if_neg (show ¬ (f < Ln ∧ g 3 f = 45) from fun z => by omega))).symm), by (exact congrArg (fun x => layM x h) (show rsG g lo hi Ln f b = _ from (if_neg (show ¬ (f < Ln ∧ g 3 f = 45) from fun z => by omega))).symm)⟩
  · refine bv_icmp_ge (j := 18) C rfl rfl (fun h => absurd h (by rw [show (g 0 4) = nI Ln from hl]; exact (by rw [show (g 0 9) = nI f from hf]; exact (nI_ge (a := f) (b := Ln) (by omega) (by omega))))) (fun _ => ?_)
    refine bv_blk C frk_X9 csk_X9 4 11 rfl (L1 := ([(3, .int (1)), (0, .ref 0), (1, .int lo), (2, .int hi)] : Lc)) (st1 := ([.int (g 0 9), .ref 3] : List Value)) (w1 := (layM g h)) (by rfl) ?_
    refine bv_iald C rfl rfl (by decide) (j := f) (by exact hf) (by first | decide | omega) (by decide) (y := (g 3 f)) (by rfl) ?_
    refine bv_blk C frk_X9 csk_X9 1 13 rfl (L1 := ([(3, .int (1)), (0, .ref 0), (1, .int lo), (2, .int hi)] : Lc)) (st1 := ([.int (45), .int (g 3 f)] : List Value)) (w1 := (layM g h)) (by rfl) ?_
    refine bv_icmp_ne (j := 18) C rfl rfl (fun c3 => ?_) (fun c3 => ?_)
    · refine bv_blk C frk_X9 csk_X9 4 22 rfl (L1 := ([(3, .int (1)), (0, .ref 0), (1, .int lo), (2, .int hi)] : Lc)) (st1 := ([.int (1), .int hi, .int lo, .ref 0] : List Value)) (w1 := (layM g h)) (by rfl) ?_
      refine bv_fV1 C rfl (ct_readsNumber hE g _ Ln f b lo hi (1) ht0) ml_X9_224 im_X9_readsNumber sel_X9_readsNumber ini_X9 cd_X9_readsNumber ok_X9_readsNumber rfl ⟨Nat.le_of_ble_eq_true rfl, Nat.le_of_ble_eq_true rfl⟩ ⟨Nat.zero_le _, Nat.zero_le _⟩ (by decide) rfl rfl rfl (rest := ([] : List Value)) rfl (Nat.le_of_ble_eq_true rfl) ?_
      exact bv_iret C rfl hr (nar_b2i _) ⟨by (exact congrArg (fun x => some (Value.int (b2i x))) (show rsB g lo hi Ln f b = _ from (if_neg (show ¬ (f < Ln ∧ g 3 f = 45) from fun z => c3 z.2))).symm), by (exact congrArg (fun x => layM x h) (show rsG g lo hi Ln f b = _ from (if_neg (show ¬ (f < Ln ∧ g 3 f = 45) from fun z => c3 z.2))).symm)⟩
    · refine bv_blk C frk_X9 csk_X9 3 17 rfl (L1 := ([(3, .int (-1)), (0, .ref 0), (1, .int lo), (2, .int hi)] : Lc)) (st1 := ([.ref 0] : List Value)) (w1 := (layM g h)) (by rfl) ?_
      refine bv_fV0 C rfl (ct_nextToken hE g _ Ln b hl hL hb hbL) ml_X9_221 im_X9_nextToken sel_X9_nextToken ini_X9 cd_X9_nextToken ok_X9_nextToken rfl ⟨Nat.le_of_ble_eq_true rfl, Nat.le_of_ble_eq_true rfl⟩ ⟨Nat.zero_le _, Nat.zero_le _⟩ (by decide) rfl rfl rfl (rest := ([] : List Value)) rfl (Nat.le_of_ble_eq_true rfl) ?_
      refine bv_blk C frk_X9 csk_X9 4 22 rfl (L1 := ([(3, .int (-1)), (0, .ref 0), (1, .int lo), (2, .int hi)] : Lc)) (st1 := ([.int (-1), .int hi, .int lo, .ref 0] : List Value)) (w1 := (layM (ntG Ln b g) h)) (by rfl) ?_
      refine bv_fV1 C rfl (ct_readsNumber hE (ntG Ln b g) _ Ln (ntF (g 3) Ln b) (ntB (g 3) Ln (ntF (g 3) Ln b)) lo hi (-1) (tok_nt hl hL hbL)) ml_X9_224 im_X9_readsNumber sel_X9_readsNumber ini_X9 cd_X9_readsNumber ok_X9_readsNumber rfl ⟨Nat.le_of_ble_eq_true rfl, Nat.le_of_ble_eq_true rfl⟩ ⟨Nat.zero_le _, Nat.zero_le _⟩ (by decide) rfl rfl rfl (rest := ([] : List Value)) rfl (Nat.le_of_ble_eq_true rfl) ?_
      exact bv_iret C rfl hr (nar_b2i _) ⟨by (exact congrArg (fun x => some (Value.int (b2i x))) (show rsB g lo hi Ln f b = _ from (if_pos (show f < Ln ∧ g 3 f = 45 from ⟨hq6, c3⟩))).symm), by (exact congrArg (fun x => layM x h) (show rsG g lo hi Ln f b = _ from (if_pos (show f < Ln ∧ g 3 f = 45 from ⟨hq6, c3⟩))).symm)⟩
