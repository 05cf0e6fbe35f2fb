def otK (n : Nat) (S : Nat → Nat) : Nat → Nat → (Nat → Nat → Int32) → Nat
  | 0, k, _ => k
  | m + 1, k, g => if g 1 0 = 1 then otK n S m (k + 1) (pasG n S g) else k
def otG (n : Nat) (S : Nat → Nat) : Nat → (Nat → Nat → Int32) → Nat → Nat → Int32
  | 0, g => g
  | m + 1, g => if g 1 0 = 1 then otG n S m (pasG n S g) else g
theorem cpy_at {g : Nat → Nat → Int32} {f t m k : Nat} (h : k < t ∨ t + m ≤ k) : cpyG g f t m 1 k = g 1 k := by
  unfold cpyG
  rw [if_neg (by omega)]
theorem gd_cpy {g : Nat → Nat → Int32} {n : Nat} {S : Nat → Nat} (h : goodR g n S) : goodR (cpyG g 0 1204 172) n S := gd_kp h (fun k hk => cpy_at (by unfold stK at hk; omega)) (evK_at h.2.2.1 (cpy_at (by omega))) (bkK_at h.2.2.2 (cpy_at (by omega)))
set_option maxRecDepth 100000 in
set_option maxHeartbeats 4000000 in
theorem ct_outage {l : Launch} {D : va_G} {cA : FieldType → ClassId} {z0 : Nat} {SK SV : Nat → Nat} {ad : Nat → Nat} (hE : aD (fun q => z0 ≤ q) ad 9) (g : Nat → Nat → Int32) (h : Int64) (n : Nat) (S : Nat → Nat) (a : Int32) (hg : goodR g n S) : bF l D cA z0 SK SV ad shM 9 yX9_outage cX9_outage 4 (some .int) 12 [.ref 0, .int a] (layM g h) (some (.int (if ((1) ≤ a ∧ a ≤ (100)) then (if otG n S a.toNatClampNeg (cpyG g 0 1204 172) 1 0 = 0 then nI (otK n S a.toNatClampNeg 0 (cpyG g 0 1204 172)) else -100000) else (-100002)))) (layM (if ((1) ≤ a ∧ a ≤ (100)) then cpyG (otG n S a.toNatClampNeg (cpyG g 0 1204 172)) 1204 0 172 else g) h) := by
  refine bCT_intro (tb := tb_X9_outage) (own := RX9) hE pn_X9 rfl tk_X9_outage rfl (Nat.le_of_ble_eq_true rfl) ?_
  intro p e s0 m args below meth c C hr
  refine bv_blk C frk_X9 csk_X9 4 4 rfl (L1 := ([(0, .ref 0), (1, .int a)] : Lc)) (st1 := ([.long (100), .long (1), .long (Int32.toInt64 a)] : List Value)) (w1 := (layM g h)) (by rfl) ?_
  by_cases c1 : ((1) ≤ a ∧ a ≤ (100))
  · refine bv_fS1 C rfl (ct_in_t hE _ (x := a) (lo := (1)) (hi := (100)) c1) ml_X9_65 st_X9_in ini_X9 cd_X9_in ok_X9_in rfl ⟨Nat.le_of_ble_eq_true rfl, Nat.le_of_ble_eq_true rfl⟩ ⟨Nat.zero_le _, Nat.zero_le _⟩ (rest := ([] : List Value)) rfl (Nat.le_of_ble_eq_true rfl) ?_
    refine bv_if_ne (j := 8) C rfl rfl (fun _ => ?_) (fun h => absurd h (by decide))
    obtain ⟨k1, hk1, hk2, rfl⟩ := num_of (m := 100) (by omega) c1
    refine bv_blk C frk_X9 csk_X9 3 11 rfl (L1 := ([(0, .ref 0), (1, .int (nI k1))] : Lc)) (st1 := ([.int (1204), .int (0), .ref 0] : List Value)) (w1 := (layM g h)) (by rfl) ?_
    refine bv_fV0 C rfl (ct_copies hE _ _ 0 1204 (by omega) (by omega) (by omega)) ml_X9_61 im_X9_copies sel_X9_copies ini_X9 cd_X9_copies ok_X9_copies rfl ⟨Nat.le_of_ble_eq_true rfl, Nat.le_of_ble_eq_true rfl⟩ ⟨Nat.zero_le _, Nat.zero_le _⟩ (by decide) rfl rfl rfl (rest := ([] : List Value)) rfl (Nat.le_of_ble_eq_true rfl) ?_
    refine bv_blk C frk_X9 csk_X9 2 14 rfl (L1 := ([(2, .int (0)), (0, .ref 0), (1, .int (nI k1))] : Lc)) (st1 := ([] : List Value)) (w1 := (layM (cpyG g 0 1204 172) h)) (by rfl) ?_
    have lp : ∀ (q k : Nat) (gg : Nat → Nat → Int32), k + q = k1 → goodR gg n S → otK n S q k gg = otK n S k1 0 (cpyG g 0 1204 172) → otG n S q gg = otG n S k1 (cpyG g 0 1204 172) → bV p l e (bR 12) s0 m args below meth c D cA shM (adA ad 9) 4 tb_X9_outage (MQ below (bQ D cA ad shM 9 (fun r w1 => r = (some (.int (if ((1) ≤ (nI k1) ∧ (nI k1) ≤ (100)) then (if otG n S (nI k1).toNatClampNeg (cpyG g 0 1204 172) 1 0 = 0 then nI (otK n S (nI k1).toNatClampNeg 0 (cpyG g 0 1204 172)) else -100000) else (-100002)))) ∧ w1 = (layM (if ((1) ≤ (nI k1) ∧ (nI k1) ≤ (100)) then cpyG (otG n S (nI k1).toNatClampNeg (cpyG g 0 1204 172)) 1204 0 172 else g) h))) args s0 0 0 (adA ad 9)) ad 9 0 0 (layM gg h) 14 ([(2, .int (nI k)), (0, .ref 0), (1, .int (nI k1))] : Lc) ([] : List Value) := by
      intro q
      induction q with
      | zero =>
        intro k gg hk hgg h1 h2
        refine bv_blk C frk_X9 csk_X9 3 17 rfl (L1 := ([(2, .int (nI k)), (0, .ref 0), (1, .int (nI k1))] : Lc)) (st1 := ([.int (0), .ref 1] : List Value)) (w1 := (layM gg h)) (by rfl) ?_
        refine bv_iald C rfl rfl (by decide) (j := 0) (by exact rfl) (by first | decide | omega) (by decide) (y := (gg 1 0)) (by rfl) ?_
        refine bv_blk C frk_X9 csk_X9 1 19 rfl (L1 := ([(2, .int (nI k)), (0, .ref 0), (1, .int (nI k1))] : Lc)) (st1 := ([.int (1), .int (gg 1 0)] : List Value)) (w1 := (layM gg h)) (by rfl) ?_
        refine bv_icmp_ne (j := 27) C rfl rfl (fun c3 => ?_) (fun c3 => ?_)
        · refine bv_blk C frk_X9 csk_X9 3 30 rfl (L1 := ([(2, .int (nI k)), (0, .ref 0), (1, .int (nI k1))] : Lc)) (st1 := ([.int (0), .ref 1] : List Value)) (w1 := (layM gg h)) (by rfl) ?_
          refine bv_iald C rfl rfl (by decide) (j := 0) (by exact rfl) (by first | decide | omega) (by decide) (y := (gg 1 0)) (by rfl) ?_
          refine bv_if_ne (j := 34) C rfl rfl (fun c4 => ?_) (fun c4 => ?_)
          · refine bv_blk C frk_X9 csk_X9 5 39 rfl (L1 := ([(3, .int (-100000)), (2, .int (nI k)), (0, .ref 0), (1, .int (nI k1))] : Lc)) (st1 := ([.int (0), .int (1204), .ref 0] : List Value)) (w1 := (layM gg h)) (by rfl) ?_
            refine bv_fV0 C rfl (ct_copies hE _ _ 1204 0 (by omega) (by omega) (by omega)) ml_X9_61 im_X9_copies sel_X9_copies ini_X9 cd_X9_copies ok_X9_copies rfl ⟨Nat.le_of_ble_eq_true rfl, Nat.le_of_ble_eq_true rfl⟩ ⟨Nat.zero_le _, Nat.zero_le _⟩ (by decide) rfl rfl rfl (rest := ([] : List Value)) rfl (Nat.le_of_ble_eq_true rfl) ?_
            refine bv_blk C frk_X9 csk_X9 1 41 rfl (L1 := ([(3, .int (-100000)), (2, .int (nI k)), (0, .ref 0), (1, .int (nI k1))] : Lc)) (st1 := ([.int (-100000)] : List Value)) (w1 := (layM (cpyG gg 1204 0 172) h)) (by rfl) ?_
            exact bv_iret C rfl hr rfl ⟨by (rw [if_pos c1, nI_clamp (show k1 < 2 ^ 31 by omega), ← h1, ← h2, show otK n S 0 k gg = k from rfl, show otG n S 0 gg = gg from rfl, if_neg c4]), by (rw [if_pos c1, nI_clamp (show k1 < 2 ^ 31 by omega), ← h2, show otG n S 0 gg = gg from rfl])⟩
          · refine bv_blk C frk_X9 csk_X9 1 33 rfl (L1 := ([(2, .int (nI k)), (0, .ref 0), (1, .int (nI k1))] : Lc)) (st1 := ([.int (nI k)] : List Value)) (w1 := (layM gg h)) (by rfl) ?_
            refine bv_goto (j := 35) C rfl rfl ?_
            refine bv_blk C frk_X9 csk_X9 4 39 rfl (L1 := ([(3, .int (nI k)), (2, .int (nI k)), (0, .ref 0), (1, .int (nI k1))] : Lc)) (st1 := ([.int (0), .int (1204), .ref 0] : List Value)) (w1 := (layM gg h)) (by rfl) ?_
            refine bv_fV0 C rfl (ct_copies hE _ _ 1204 0 (by omega) (by omega) (by omega)) ml_X9_61 im_X9_copies sel_X9_copies ini_X9 cd_X9_copies ok_X9_copies rfl ⟨Nat.le_of_ble_eq_true rfl, Nat.le_of_ble_eq_true rfl⟩ ⟨Nat.zero_le _, Nat.zero_le _⟩ (by decide) rfl rfl rfl (rest := ([] : List Value)) rfl (Nat.le_of_ble_eq_true rfl) ?_
            refine bv_blk C frk_X9 csk_X9 1 41 rfl (L1 := ([(3, .int (nI k)), (2, .int (nI k)), (0, .ref 0), (1, .int (nI k1))] : Lc)) (st1 := ([.int (nI k)] : List Value)) (w1 := (layM (cpyG gg 1204 0 172) h)) (by rfl) ?_
            exact bv_iret C rfl hr rfl ⟨by (rw [if_pos c1, nI_clamp (show k1 < 2 ^ 31 by omega), ← h1, ← h2, show otK n S 0 k gg = k from rfl, show otG n S 0 gg = gg from rfl, if_pos c4]), by (rw [if_pos c1, nI_clamp (show k1 < 2 ^ 31 by omega), ← h2, show otG n S 0 gg = gg from rfl])⟩
        · refine bv_blk C frk_X9 csk_X9 2 22 rfl (L1 := ([(2, .int (nI k)), (0, .ref 0), (1, .int (nI k1))] : Lc)) (st1 := ([.int (nI k1), .int (nI k)] : List Value)) (w1 := (layM gg h)) (by rfl) ?_
          refine bv_icmp_ge (j := 27) C rfl rfl (fun _ => ?_) (fun h => absurd (nI_le (a := k1) (b := k) (by omega) (by omega)) h)
          refine bv_blk C frk_X9 csk_X9 3 30 rfl (L1 := ([(2, .int (nI k)), (0, .ref 0), (1, .int (nI k1))] : Lc)) (st1 := ([.int (0), .ref 1] : List Value)) (w1 := (layM gg h)) (by rfl) ?_
          refine bv_iald C rfl rfl (by decide) (j := 0) (by exact rfl) (by first | decide | omega) (by decide) (y := (gg 1 0)) (by rfl) ?_
          refine bv_if_ne (j := 34) C rfl rfl (fun c6 => ?_) (fun c6 => ?_)
          · refine bv_blk C frk_X9 csk_X9 5 39 rfl (L1 := ([(3, .int (-100000)), (2, .int (nI k)), (0, .ref 0), (1, .int (nI k1))] : Lc)) (st1 := ([.int (0), .int (1204), .ref 0] : List Value)) (w1 := (layM gg h)) (by rfl) ?_
            refine bv_fV0 C rfl (ct_copies hE _ _ 1204 0 (by omega) (by omega) (by omega)) ml_X9_61 im_X9_copies sel_X9_copies ini_X9 cd_X9_copies ok_X9_copies rfl ⟨Nat.le_of_ble_eq_true rfl, Nat.le_of_ble_eq_true rfl⟩ ⟨Nat.zero_le _, Nat.zero_le _⟩ (by decide) rfl rfl rfl (rest := ([] : List Value)) rfl (Nat.le_of_ble_eq_true rfl) ?_
            refine bv_blk C frk_X9 csk_X9 1 41 rfl (L1 := ([(3, .int (-100000)), (2, .int (nI k)), (0, .ref 0), (1, .int (nI k1))] : Lc)) (st1 := ([.int (-100000)] : List Value)) (w1 := (layM (cpyG gg 1204 0 172) h)) (by rfl) ?_
            exact bv_iret C rfl hr rfl ⟨by (rw [if_pos c1, nI_clamp (show k1 < 2 ^ 31 by omega), ← h1, ← h2, show otK n S 0 k gg = k from rfl, show otG n S 0 gg = gg from rfl, if_neg c6]), by (rw [if_pos c1, nI_clamp (show k1 < 2 ^ 31 by omega), ← h2, show otG n S 0 gg = gg from rfl])⟩
          · refine bv_blk C frk_X9 csk_X9 1 33 rfl (L1 := ([(2, .int (nI k)), (0, .ref 0), (1, .int (nI k1))] : Lc)) (st1 := ([.int (nI k)] : List Value)) (w1 := (layM gg h)) (by rfl) ?_
            refine bv_goto (j := 35) C rfl rfl ?_
            refine bv_blk C frk_X9 csk_X9 4 39 rfl (L1 := ([(3, .int (nI k)), (2, .int (nI k)), (0, .ref 0), (1, .int (nI k1))] : Lc)) (st1 := ([.int (0), .int (1204), .ref 0] : List Value)) (w1 := (layM gg h)) (by rfl) ?_
            refine bv_fV0 C rfl (ct_copies hE _ _ 1204 0 (by omega) (by omega) (by omega)) ml_X9_61 im_X9_copies sel_X9_copies ini_X9 cd_X9_copies ok_X9_copies rfl ⟨Nat.le_of_ble_eq_true rfl, Nat.le_of_ble_eq_true rfl⟩ ⟨Nat.zero_le _, Nat.zero_le _⟩ (by decide) rfl rfl rfl (rest := ([] : List Value)) rfl (Nat.le_of_ble_eq_true rfl) ?_
            refine bv_blk C frk_X9 csk_X9 1 41 rfl (L1 := ([(3, .int (nI k)), (2, .int (nI k)), (0, .ref 0), (1, .int (nI k1))] : Lc)) (st1 := ([.int (nI k)] : List Value)) (w1 := (layM (cpyG gg 1204 0 172) h)) (by rfl) ?_
            exact bv_iret C rfl hr rfl ⟨by (rw [if_pos c1, nI_clamp (show k1 < 2 ^ 31 by omega), ← h1, ← h2, show otK n S 0 k gg = k from rfl, show otG n S 0 gg = gg from rfl, if_pos c6]), by (rw [if_pos c1, nI_clamp (show k1 < 2 ^ 31 by omega), ← h2, show otG n S 0 gg = gg from rfl])⟩
      | succ q ih =>
        intro k gg hk hgg h1 h2
        refine bv_blk C frk_X9 csk_X9 3 17 rfl (L1 := ([(2, .int (nI k)), (0, .ref 0), (1, .int (nI k1))] : Lc)) (st1 := ([.int (0), .ref 1] : List Value)) (w1 := (layM gg h)) (by rfl) ?_
        refine bv_iald C rfl rfl (by decide) (j := 0) (by exact rfl) (by first | decide | omega) (by decide) (y := (gg 1 0)) (by rfl) ?_
        refine bv_blk C frk_X9 csk_X9 1 19 rfl (L1 := ([(2, .int (nI k)), (0, .ref 0), (1, .int (nI k1))] : Lc)) (st1 := ([.int (1), .int (gg 1 0)] : List Value)) (w1 := (layM gg h)) (by rfl) ?_
        refine bv_icmp_ne (j := 27) C rfl rfl (fun c7 => ?_) (fun c7 => ?_)
        · refine bv_blk C frk_X9 csk_X9 3 30 rfl (L1 := ([(2, .int (nI k)), (0, .ref 0), (1, .int (nI k1))] : Lc)) (st1 := ([.int (0), .ref 1] : List Value)) (w1 := (layM gg h)) (by rfl) ?_
          refine bv_iald C rfl rfl (by decide) (j := 0) (by exact rfl) (by first | decide | omega) (by decide) (y := (gg 1 0)) (by rfl) ?_
          refine bv_if_ne (j := 34) C rfl rfl (fun c8 => ?_) (fun c8 => ?_)
          · refine bv_blk C frk_X9 csk_X9 5 39 rfl (L1 := ([(3, .int (-100000)), (2, .int (nI k)), (0, .ref 0), (1, .int (nI k1))] : Lc)) (st1 := ([.int (0), .int (1204), .ref 0] : List Value)) (w1 := (layM gg h)) (by rfl) ?_
            refine bv_fV0 C rfl (ct_copies hE _ _ 1204 0 (by omega) (by omega) (by omega)) ml_X9_61 im_X9_copies sel_X9_copies ini_X9 cd_X9_copies ok_X9_copies rfl ⟨Nat.le_of_ble_eq_true rfl, Nat.le_of_ble_eq_true rfl⟩ ⟨Nat.zero_le _, Nat.zero_le _⟩ (by decide) rfl rfl rfl (rest := ([] : List Value)) rfl (Nat.le_of_ble_eq_true rfl) ?_
            refine bv_blk C frk_X9 csk_X9 1 41 rfl (L1 := ([(3, .int (-100000)), (2, .int (nI k)), (0, .ref 0), (1, .int (nI k1))] : Lc)) (st1 := ([.int (-100000)] : List Value)) (w1 := (layM (cpyG gg 1204 0 172) h)) (by rfl) ?_
            exact bv_iret C rfl hr rfl ⟨by (rw [if_pos c1, nI_clamp (show k1 < 2 ^ 31 by omega), ← h1, ← h2, show otK n S (q + 1) k gg = k from (if_neg c7), show otG n S (q + 1) gg = gg from (if_neg c7), if_neg c8]), by (rw [if_pos c1, nI_clamp (show k1 < 2 ^ 31 by omega), ← h2, show otG n S (q + 1) gg = gg from (if_neg c7)])⟩
          · refine bv_blk C frk_X9 csk_X9 1 33 rfl (L1 := ([(2, .int (nI k)), (0, .ref 0), (1, .int (nI k1))] : Lc)) (st1 := ([.int (nI k)] : List Value)) (w1 := (layM gg h)) (by rfl) ?_
            refine bv_goto (j := 35) C rfl rfl ?_
            refine bv_blk C frk_X9 csk_X9 4 39 rfl (L1 := ([(3, .int (nI k)), (2, .int (nI k)), (0, .ref 0), (1, .int (nI k1))] : Lc)) (st1 := ([.int (0), .int (1204), .ref 0] : List Value)) (w1 := (layM gg h)) (by rfl) ?_
            refine bv_fV0 C rfl (ct_copies hE _ _ 1204 0 (by omega) (by omega) (by omega)) ml_X9_61 im_X9_copies sel_X9_copies ini_X9 cd_X9_copies ok_X9_copies rfl ⟨Nat.le_of_ble_eq_true rfl, Nat.le_of_ble_eq_true rfl⟩ ⟨Nat.zero_le _, Nat.zero_le _⟩ (by decide) rfl rfl rfl (rest := ([] : List Value)) rfl (Nat.le_of_ble_eq_true rfl) ?_
            refine bv_blk C frk_X9 csk_X9 1 41 rfl (L1 := ([(3, .int (nI k)), (2, .int (nI k)), (0, .ref 0), (1, .int (nI k1))] : Lc)) (st1 := ([.int (nI k)] : List Value)) (w1 := (layM (cpyG gg 1204 0 172) h)) (by rfl) ?_
            exact bv_iret C rfl hr rfl ⟨by (rw [if_pos c1, nI_clamp (show k1 < 2 ^ 31 by omega), ← h1, ← h2, show otK n S (q + 1) k gg = k from (if_neg c7), show otG n S (q + 1) gg = gg from (if_neg c7), if_pos c8]), by (rw [if_pos c1, nI_clamp (show k1 < 2 ^ 31 by omega), ← h2, show otG n S (q + 1) gg = gg from (if_neg c7)])⟩
        · refine bv_blk C frk_X9 csk_X9 2 22 rfl (L1 := ([(2, .int (nI k)), (0, .ref 0), (1, .int (nI k1))] : Lc)) (st1 := ([.int (nI k1), .int (nI k)] : List Value)) (w1 := (layM gg h)) (by rfl) ?_
          refine bv_icmp_ge (j := 27) C rfl rfl (fun h => absurd h (nI_ge (a := k) (b := k1) (by omega) (by omega))) (fun _ => ?_)
          refine bv_blk C frk_X9 csk_X9 1 24 rfl (L1 := ([(2, .int (nI k)), (0, .ref 0), (1, .int (nI k1))] : Lc)) (st1 := ([.ref 0] : List Value)) (w1 := (layM gg h)) (by rfl) ?_
          refine bv_fV0 C rfl (ct_passes hE gg _ n S hgg.1 hgg.2.1 hgg.2.2.1 hgg.2.2.2) ml_X9_184 im_X9_passes sel_X9_passes ini_X9 cd_X9_passes ok_X9_passes rfl ⟨Nat.le_of_ble_eq_true rfl, Nat.le_of_ble_eq_true rfl⟩ ⟨Nat.zero_le _, Nat.zero_le _⟩ (by decide) rfl rfl rfl (rest := ([] : List Value)) rfl (Nat.le_of_ble_eq_true rfl) ?_
          refine bv_blk C frk_X9 csk_X9 1 26 rfl (L1 := ([(2, .int ((nI k) + Int32.ofInt 1)), (0, .ref 0), (1, .int (nI k1))] : Lc)) (st1 := ([] : List Value)) (w1 := (layM (pasG n S gg) h)) (by rfl) ?_
          rw [show ((nI k) + Int32.ofInt 1) = nI (k + 1) from (nIi rfl)]
          refine bv_goto (j := 14) C rfl rfl ?_
          refine bv_sub [0, 1, 2] (by rfl) ?_
          exact ih (k + 1) _ (by omega) (gd_pas hgg) (by rw [← h1]; exact (if_pos c7).symm) (by rw [← h2]; exact (if_pos c7).symm)
    refine bv_sub [0, 1, 2] (by rfl) ?_
    exact lp k1 0 _ (by omega) (gd_cpy hg) rfl rfl
  · refine bv_fS1 C rfl (ct_in_f hE _ (x := a) (lo := (1)) (hi := (100)) c1) ml_X9_65 st_X9_in ini_X9 cd_X9_in ok_X9_in rfl ⟨Nat.le_of_ble_eq_true rfl, Nat.le_of_ble_eq_true rfl⟩ ⟨Nat.zero_le _, Nat.zero_le _⟩ (rest := ([] : List Value)) rfl (Nat.le_of_ble_eq_true rfl) ?_
    refine bv_if_ne (j := 8) C rfl rfl (fun h => absurd h (by decide)) (fun _ => ?_)
    refine bv_blk C frk_X9 csk_X9 1 7 rfl (L1 := ([(0, .ref 0), (1, .int a)] : Lc)) (st1 := ([.int (-100002)] : List Value)) (w1 := (layM g h)) (by rfl) ?_
    exact bv_iret C rfl hr rfl ⟨by (simp only [ug_same, c1, and_self, eq_self, or_true, true_or, not_true, not_false_iff, if_true, if_false, ↓reduceIte]), by (simp only [ug_same, c1, and_self, eq_self, or_true, true_or, not_true, not_false_iff, if_true, if_false, ↓reduceIte])⟩
