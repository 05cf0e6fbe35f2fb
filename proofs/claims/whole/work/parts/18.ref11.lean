def drfG (g : Nat → Nat → Int32) (n : Nat) : Nat → Nat → Int32 := fun i k => if i = 1 ∧ 55 ≤ k ∧ k < 55 + 6 * n ∧ (k - 55) % 6 < 2 then arI (g 1 k + g 1 (k + 4)) 64 else g i k
theorem drf_0 (g : Nat → Nat → Int32) : drfG g 0 = g := by
  funext i k
  unfold drfG
  rw [if_neg (by omega)]
theorem drf_at (g : Nat → Nat → Int32) (p k : Nat) (h : k < 55 ∨ 55 + 6 * p ≤ k ∨ 2 ≤ (k - 55) % 6) : drfG g p 1 k = g 1 k := by
  unfold drfG
  rw [if_neg (by omega)]
theorem drf_s (g : Nat → Nat → Int32) (p : Nat) : ug (ug (drfG g p) 1 (55 + 6 * p + 0) (arI (drfG g p 1 (55 + 6 * p + 0) + drfG g p 1 (55 + 6 * p + 4)) 64)) 1 (55 + 6 * p + 1) (arI (ug (drfG g p) 1 (55 + 6 * p + 0) (arI (drfG g p 1 (55 + 6 * p + 0) + drfG g p 1 (55 + 6 * p + 4)) 64) 1 (55 + 6 * p + 1) + ug (drfG g p) 1 (55 + 6 * p + 0) (arI (drfG g p 1 (55 + 6 * p + 0) + drfG g p 1 (55 + 6 * p + 4)) 64) 1 (55 + 6 * p + 5)) 64) = drfG g (p + 1) := by
  rw [ug_ne (by omega), ug_ne (by omega), drf_at g p _ (by omega), drf_at g p _ (by omega), drf_at g p _ (by omega), drf_at g p _ (by omega)]
  funext i k
  unfold ug drfG
  by_cases h1 : i = 1
  · by_cases h2 : k = 55 + 6 * p + 1
    · rw [if_pos h1, if_pos h2, if_pos (by omega), h2]
    · rw [if_pos h1, if_neg h2, if_pos h1]
      by_cases h3 : k = 55 + 6 * p + 0
      · rw [if_pos h3, if_pos (by omega), h3]
      · rw [if_neg h3]
        by_cases h4 : 55 ≤ k ∧ k < 55 + 6 * p ∧ (k - 55) % 6 < 2
        · rw [if_pos ⟨h1, h4⟩, if_pos (by omega)]
        · rw [if_neg (fun z => h4 z.2), if_neg (by omega)]
  · rw [if_neg h1, if_neg h1, if_neg (fun z => h1 z.1), if_neg (fun z => h1 z.1)]
theorem kp_drf {g g0 : Nat → Nat → Int32} {p : Nat} (h : kept g0 g) : kept g0 (drfG g p) := kp_tr h (fun k hk => drf_at g p k (by unfold stK at hk; omega))
def ps1 (n : Nat) (g : Nat → Nat → Int32) : Nat → Nat → Int32 := drfG (ug g 1 2 (g 1 2 + 1)) n
theorem ps1_at {n : Nat} {g : Nat → Nat → Int32} (k : Nat) (h : k < 55 ∨ 103 ≤ k) (h2 : k ≠ 2) (hn : n ≤ 8) : ps1 n g 1 k = g 1 k := by
  unfold ps1
  rw [drf_at _ _ _ (by omega), ug_ne (by omega)]
theorem kp_ps1 {g g0 : Nat → Nat → Int32} {n : Nat} (h : kept g0 g) : kept g0 (ps1 n g) := kp_drf (kp_ug (by omega) h)
def psA (n : Nat) (S : Nat → Nat) (g : Nat → Nat → Int32) : Nat → Nat → Int32 := if ps1 n g 1 0 = 1 ∧ ps1 n g 1 8 = 1 then trkG 1 n S (trkG 0 n S (ps1 n g)) else ps1 n g
def psB (n : Nat) (S : Nat → Nat) (g : Nat → Nat → Int32) : Nat → Nat → Int32 := if psA n S g 1 0 = 1 then tlkG n (psA n S g) else psA n S g
def pasG (n : Nat) (S : Nat → Nat) (g : Nat → Nat → Int32) : Nat → Nat → Int32 := if psB n S g 1 0 = 0 ∧ psB n S g 1 11 = 1 then dswG 0 n S (psB n S g) else psB n S g
theorem kp_dsw {f n : Nat} {S : Nat → Nat} {g g0 : Nat → Nat → Int32} (hf : f < 2) (hS : secK g S) (h : kept g0 g) : kept g0 (dswG f n S g) := by
  unfold dswG
  split
  · exact kp_nte (kp_ug (by omega) (kp_ug (by omega) (kp_phW hf hS h)))
  · exact kp_nte (kp_ug (by omega) (kp_ug (by omega) (kp_phW hf hS h)))
theorem ev_dsw {f n : Nat} {S : Nat → Nat} {g : Nat → Nat → Int32} (hf : f < 2) (hS : secK g S) (h : evK g) : evK (dswG f n S g) := by
  have e : ∀ a b, evK (ug (ug (phW f n S g) 1 0 a) 1 1 b) := fun a b => evK_at h ((ug_ne (by omega)).trans ((ug_ne (by omega)).trans (phW_at hf hS 14 (by unfold frK; omega))))
  unfold dswG
  split
  · exact evK_nte (e _ _)
  · exact evK_nte (e _ _)
set_option maxRecDepth 100000 in
set_option maxHeartbeats 4000000 in
theorem ct_passes {l : Launch} {D : va_G} {cA : FieldType → ClassId} {z0 : Nat} {SK SV : Nat → Nat} {ad : Nat → Nat} (hE : aD (fun q => z0 ≤ q) ad 9) (g : Nat → Nat → Int32) (h : Int64) (n : Nat) (S : Nat → Nat) (hs : statR g n) (hS : secK g S) (hev : evK g) (hB : bkK g) : bF l D cA z0 SK SV ad shM 9 yX9_passes cX9_passes 3 none 11 [.ref 0] (layM g h) none (layM (pasG n S g) h) := by
  refine bCT_intro (tb := tb_X9_passes) (own := RX9) hE pn_X9 rfl tk_X9_passes rfl (Nat.le_of_ble_eq_true rfl) ?_
  intro p e s0 m args below meth c C hr
  have hn8 := hs.2.1
  refine bv_blk C frk_X9 csk_X9 4 4 rfl (L1 := ([(0, .ref 0)] : Lc)) (st1 := ([.int (2), .ref 1, .int (2), .ref 1] : List Value)) (w1 := (layM g h)) (by rfl) ?_
  refine bv_iald C rfl rfl (by decide) (j := 2) (by exact rfl) (by first | decide | omega) (by decide) (y := (g 1 2)) (by rfl) ?_
  refine bv_blk C frk_X9 csk_X9 2 7 rfl (L1 := ([(0, .ref 0)] : Lc)) (st1 := ([.int ((g 1 2) + (1)), .int (2), .ref 1] : List Value)) (w1 := (layM g h)) (by rfl) ?_
  refine bv_iast C rfl rfl (by decide) (j := 2) (by exact rfl) (by first | decide | omega) (by decide) ?_
  rw [lm_up rfl]
  refine bv_blk C frk_X9 csk_X9 2 10 rfl (L1 := ([(1, .int (0)), (0, .ref 0)] : Lc)) (st1 := ([] : List Value)) (w1 := (layM (ug g 1 2 ((g 1 2) + (1))) h)) (by rfl) ?_
  have lp_a : ∀ (n_a k_a : Nat), 0 ≤ k_a → k_a + n_a = n → bV p l e (bR 11) s0 m args below meth c D cA shM (adA ad 9) 3 tb_X9_passes (MQ below (bQ D cA ad shM 9 (fun r w1 => r = none ∧ w1 = (layM (pasG n S g) h))) args s0 0 0 (adA ad 9)) ad 9 0 0 (layM (drfG (ug g 1 2 ((g 1 2) + (1))) k_a) h) 10 ([(1, .int (nI k_a)), (0, .ref 0)] : Lc) ([] : List Value) := by
    intro n_a
    induction n_a with
    | zero =>
      intro k_a hs_a hk_a
      have hkB_a : k_a = n := by omega
      rw [hkB_a]
      refine bv_blk C frk_X9 csk_X9 4 14 rfl (L1 := ([(1, .int (nI n)), (0, .ref 0)] : Lc)) (st1 := ([.int (12), .ref 1, .int (nI n)] : List Value)) (w1 := (layM (drfG (ug g 1 2 ((g 1 2) + (1))) n) h)) (by rfl) ?_
      refine bv_iald C rfl rfl (by decide) (j := 12) (by exact rfl) (by first | decide | omega) (by decide) (y := ((drfG (ug g 1 2 ((g 1 2) + (1))) n) 1 12)) (by rfl) ?_
      refine bv_icmp_ge (j := 42) C rfl rfl (fun _ => ?_) (fun h => absurd (by rw [show ((drfG (ug g 1 2 ((g 1 2) + (1))) n) 1 12) = nI n from (((kp_drf (p := n) (kp_ug (i := 1) (k := 2) (x := ((g 1 2) + (1))) (by omega) (kp_rf _))) 12 (by unfold stK; omega)).trans hs.1)]; exact (nI_le (a := n) (b := n) (by omega) (by omega))) h)
      obtain ⟨v1, ev1⟩ : ∃ x : Nat → Nat → Int32, x = (ps1 n g) := ⟨_, rfl⟩
      have kp_v1 : kept g v1 := by rw [ev1]; exact kp_ps1 (kp_rf _)
      refine bv_weq (show (layM (drfG (ug g 1 2 ((g 1 2) + (1))) n) h) = (layM v1 h) from by rw [ev1]; rfl) ?_
      refine bv_blk C frk_X9 csk_X9 3 45 rfl (L1 := ([(1, .int (nI n)), (0, .ref 0)] : Lc)) (st1 := ([.int (0), .ref 1] : List Value)) (w1 := (layM v1 h)) (by rfl) ?_
      refine bv_iald C rfl rfl (by decide) (j := 0) (by exact rfl) (by first | decide | omega) (by decide) (y := (v1 1 0)) (by rfl) ?_
      refine bv_blk C frk_X9 csk_X9 1 47 rfl (L1 := ([(1, .int (nI n)), (0, .ref 0)] : Lc)) (st1 := ([.int (1), .int (v1 1 0)] : List Value)) (w1 := (layM v1 h)) (by rfl) ?_
      refine bv_icmp_ne (j := 60) C rfl rfl (fun c2 => ?_) (fun c2 => ?_)
      · refine bv_blk C frk_X9 csk_X9 3 63 rfl (L1 := ([(1, .int (nI n)), (0, .ref 0)] : Lc)) (st1 := ([.int (0), .ref 1] : List Value)) (w1 := (layM v1 h)) (by rfl) ?_
        refine bv_iald C rfl rfl (by decide) (j := 0) (by exact rfl) (by first | decide | omega) (by decide) (y := (v1 1 0)) (by rfl) ?_
        refine bv_blk C frk_X9 csk_X9 1 65 rfl (L1 := ([(1, .int (nI n)), (0, .ref 0)] : Lc)) (st1 := ([.int (1), .int (v1 1 0)] : List Value)) (w1 := (layM v1 h)) (by rfl) ?_
        refine bv_icmp_ne (j := 68) C rfl rfl (fun _ => ?_) (fun h => absurd h (c2))
        refine bv_blk C frk_X9 csk_X9 3 71 rfl (L1 := ([(1, .int (nI n)), (0, .ref 0)] : Lc)) (st1 := ([.int (0), .ref 1] : List Value)) (w1 := (layM v1 h)) (by rfl) ?_
        refine bv_iald C rfl rfl (by decide) (j := 0) (by exact rfl) (by first | decide | omega) (by decide) (y := (v1 1 0)) (by rfl) ?_
        refine bv_if_ne (j := 83) C rfl rfl (fun c4 => ?_) (fun c4 => ?_)
        · exact bv_vret C rfl hr ⟨by (rfl), by (subst ev1; unfold pasG psB psA; rw [if_neg (show ¬ (ps1 n g 1 0 = 1 ∧ ps1 n g 1 8 = 1) from fun q => c2 q.1)]; rw [if_neg c2]; rw [if_neg (fun q => c4 q.1)]; try rfl)⟩
        · refine bv_blk C frk_X9 csk_X9 3 76 rfl (L1 := ([(1, .int (nI n)), (0, .ref 0)] : Lc)) (st1 := ([.int (11), .ref 1] : List Value)) (w1 := (layM v1 h)) (by rfl) ?_
          refine bv_iald C rfl rfl (by decide) (j := 11) (by exact rfl) (by first | decide | omega) (by decide) (y := (v1 1 11)) (by rfl) ?_
          refine bv_blk C frk_X9 csk_X9 1 78 rfl (L1 := ([(1, .int (nI n)), (0, .ref 0)] : Lc)) (st1 := ([.int (1), .int (v1 1 11)] : List Value)) (w1 := (layM v1 h)) (by rfl) ?_
          refine bv_icmp_ne (j := 83) C rfl rfl (fun c5 => ?_) (fun c5 => ?_)
          · exact bv_vret C rfl hr ⟨by (rfl), by (subst ev1; unfold pasG psB psA; rw [if_neg (show ¬ (ps1 n g 1 0 = 1 ∧ ps1 n g 1 8 = 1) from fun q => c2 q.1)]; rw [if_neg c2]; rw [if_neg (fun q => c5 q.2)]; try rfl)⟩
          · refine bv_blk C frk_X9 csk_X9 2 81 rfl (L1 := ([(1, .int (nI n)), (0, .ref 0)] : Lc)) (st1 := ([.int (0), .ref 0] : List Value)) (w1 := (layM v1 h)) (by rfl) ?_
            refine bv_fV1 C rfl (ct_doesSweep0 hE v1 _ n S (st_same kp_v1 hs) (secK_kp kp_v1 hS) (by rw [ev1]; exact (evK_at hev (ps1_at 14 (by omega) (by omega) hs.2.1)))) ml_X9_137 im_X9_doesSweep sel_X9_doesSweep ini_X9 cd_X9_doesSweep ok_X9_doesSweep rfl ⟨Nat.le_of_ble_eq_true rfl, Nat.le_of_ble_eq_true rfl⟩ ⟨Nat.zero_le _, Nat.zero_le _⟩ (by decide) rfl rfl rfl (rest := ([] : List Value)) rfl (Nat.le_of_ble_eq_true rfl) ?_
            obtain ⟨v2, ev2⟩ : ∃ x : Nat → Nat → Int32, x = (dswG 0 n S (ps1 n g)) := ⟨_, rfl⟩
            have kp_v2 : kept g v2 := by rw [ev2, ← ev1]; exact (kp_dsw (f := 0) (n := n) (S := S) (by omega) (secK_kp kp_v1 hS) kp_v1)
            refine bv_weq (show (layM (dswG 0 n S v1) h) = (layM v2 h) from by rw [ev2, ← ev1]) ?_
            refine bv_blk C frk_X9 csk_X9 1 83 rfl (L1 := ([(1, .int (nI n)), (0, .ref 0)] : Lc)) (st1 := ([] : List Value)) (w1 := (layM v2 h)) (by rfl) ?_
            exact bv_vret C rfl hr ⟨by (rfl), by (subst ev1; subst ev2; unfold pasG psB psA; rw [if_neg (show ¬ (ps1 n g 1 0 = 1 ∧ ps1 n g 1 8 = 1) from fun q => c2 q.1)]; rw [if_neg c2]; rw [if_pos ⟨c4, c5⟩]; try rfl)⟩
      · refine bv_blk C frk_X9 csk_X9 3 51 rfl (L1 := ([(1, .int (nI n)), (0, .ref 0)] : Lc)) (st1 := ([.int (8), .ref 1] : List Value)) (w1 := (layM v1 h)) (by rfl) ?_
        refine bv_iald C rfl rfl (by decide) (j := 8) (by exact rfl) (by first | decide | omega) (by decide) (y := (v1 1 8)) (by rfl) ?_
        refine bv_blk C frk_X9 csk_X9 1 53 rfl (L1 := ([(1, .int (nI n)), (0, .ref 0)] : Lc)) (st1 := ([.int (1), .int (v1 1 8)] : List Value)) (w1 := (layM v1 h)) (by rfl) ?_
        refine bv_icmp_ne (j := 60) C rfl rfl (fun c6 => ?_) (fun c6 => ?_)
        · refine bv_blk C frk_X9 csk_X9 3 63 rfl (L1 := ([(1, .int (nI n)), (0, .ref 0)] : Lc)) (st1 := ([.int (0), .ref 1] : List Value)) (w1 := (layM v1 h)) (by rfl) ?_
          refine bv_iald C rfl rfl (by decide) (j := 0) (by exact rfl) (by first | decide | omega) (by decide) (y := (v1 1 0)) (by rfl) ?_
          refine bv_blk C frk_X9 csk_X9 1 65 rfl (L1 := ([(1, .int (nI n)), (0, .ref 0)] : Lc)) (st1 := ([.int (1), .int (v1 1 0)] : List Value)) (w1 := (layM v1 h)) (by rfl) ?_
          refine bv_icmp_ne (j := 68) C rfl rfl (fun h => absurd (c2) h) (fun _ => ?_)
          refine bv_blk C frk_X9 csk_X9 1 67 rfl (L1 := ([(1, .int (nI n)), (0, .ref 0)] : Lc)) (st1 := ([.ref 0] : List Value)) (w1 := (layM v1 h)) (by rfl) ?_
          refine bv_fV0 C rfl (ct_talks hE v1 _ n (st_same kp_v1 hs) (by rw [ev1]; exact (evK_at hev (ps1_at 14 (by omega) (by omega) hs.2.1))) (by rw [ev1]; exact (bkK_at hB (ps1_at 13 (by omega) (by omega) hs.2.1)))) ml_X9_179 im_X9_talks sel_X9_talks ini_X9 cd_X9_talks ok_X9_talks rfl ⟨Nat.le_of_ble_eq_true rfl, Nat.le_of_ble_eq_true rfl⟩ ⟨Nat.zero_le _, Nat.zero_le _⟩ (by decide) rfl rfl rfl (rest := ([] : List Value)) rfl (Nat.le_of_ble_eq_true rfl) ?_
          obtain ⟨v3, ev3⟩ : ∃ x : Nat → Nat → Int32, x = (tlkG n (ps1 n g)) := ⟨_, rfl⟩
          have kp_v3 : kept g v3 := by rw [ev3, ← ev1]; exact (kp_tlk (n := n) (by rw [ev1]; exact (bkK_at hB (ps1_at 13 (by omega) (by omega) hs.2.1))) kp_v1)
          refine bv_weq (show (layM (tlkG n v1) h) = (layM v3 h) from by rw [ev3, ← ev1]) ?_
          refine bv_blk C frk_X9 csk_X9 3 71 rfl (L1 := ([(1, .int (nI n)), (0, .ref 0)] : Lc)) (st1 := ([.int (0), .ref 1] : List Value)) (w1 := (layM v3 h)) (by rfl) ?_
          refine bv_iald C rfl rfl (by decide) (j := 0) (by exact rfl) (by first | decide | omega) (by decide) (y := (v3 1 0)) (by rfl) ?_
          refine bv_if_ne (j := 83) C rfl rfl (fun c8 => ?_) (fun c8 => ?_)
          · exact bv_vret C rfl hr ⟨by (rfl), by (subst ev1; subst ev3; unfold pasG psB psA; rw [if_neg (show ¬ (ps1 n g 1 0 = 1 ∧ ps1 n g 1 8 = 1) from fun q => c6 q.2)]; rw [if_pos c2]; rw [if_neg (fun q => c8 q.1)]; try rfl)⟩
          · refine bv_blk C frk_X9 csk_X9 3 76 rfl (L1 := ([(1, .int (nI n)), (0, .ref 0)] : Lc)) (st1 := ([.int (11), .ref 1] : List Value)) (w1 := (layM v3 h)) (by rfl) ?_
            refine bv_iald C rfl rfl (by decide) (j := 11) (by exact rfl) (by first | decide | omega) (by decide) (y := (v3 1 11)) (by rfl) ?_
            refine bv_blk C frk_X9 csk_X9 1 78 rfl (L1 := ([(1, .int (nI n)), (0, .ref 0)] : Lc)) (st1 := ([.int (1), .int (v3 1 11)] : List Value)) (w1 := (layM v3 h)) (by rfl) ?_
            refine bv_icmp_ne (j := 83) C rfl rfl (fun c9 => ?_) (fun c9 => ?_)
            · exact bv_vret C rfl hr ⟨by (rfl), by (subst ev1; subst ev3; unfold pasG psB psA; rw [if_neg (show ¬ (ps1 n g 1 0 = 1 ∧ ps1 n g 1 8 = 1) from fun q => c6 q.2)]; rw [if_pos c2]; rw [if_neg (fun q => c9 q.2)]; try rfl)⟩
            · refine bv_blk C frk_X9 csk_X9 2 81 rfl (L1 := ([(1, .int (nI n)), (0, .ref 0)] : Lc)) (st1 := ([.int (0), .ref 0] : List Value)) (w1 := (layM v3 h)) (by rfl) ?_
              refine bv_fV1 C rfl (ct_doesSweep0 hE v3 _ n S (st_same kp_v3 hs) (secK_kp kp_v3 hS) (by rw [ev3]; exact (ev_tlk (n := n) (evK_at hev (ps1_at 14 (by omega) (by omega) hs.2.1))))) ml_X9_137 im_X9_doesSweep sel_X9_doesSweep ini_X9 cd_X9_doesSweep ok_X9_doesSweep rfl ⟨Nat.le_of_ble_eq_true rfl, Nat.le_of_ble_eq_true rfl⟩ ⟨Nat.zero_le _, Nat.zero_le _⟩ (by decide) rfl rfl rfl (rest := ([] : List Value)) rfl (Nat.le_of_ble_eq_true rfl) ?_
              obtain ⟨v4, ev4⟩ : ∃ x : Nat → Nat → Int32, x = (dswG 0 n S (tlkG n (ps1 n g))) := ⟨_, rfl⟩
              have kp_v4 : kept g v4 := by rw [ev4, ← ev3]; exact (kp_dsw (f := 0) (n := n) (S := S) (by omega) (secK_kp kp_v3 hS) kp_v3)
              refine bv_weq (show (layM (dswG 0 n S v3) h) = (layM v4 h) from by rw [ev4, ← ev3]) ?_
              refine bv_blk C frk_X9 csk_X9 1 83 rfl (L1 := ([(1, .int (nI n)), (0, .ref 0)] : Lc)) (st1 := ([] : List Value)) (w1 := (layM v4 h)) (by rfl) ?_
              exact bv_vret C rfl hr ⟨by (rfl), by (subst ev1; subst ev3; subst ev4; unfold pasG psB psA; rw [if_neg (show ¬ (ps1 n g 1 0 = 1 ∧ ps1 n g 1 8 = 1) from fun q => c6 q.2)]; rw [if_pos c2]; rw [if_pos ⟨c8, c9⟩]; try rfl)⟩
        · refine bv_blk C frk_X9 csk_X9 2 56 rfl (L1 := ([(1, .int (nI n)), (0, .ref 0)] : Lc)) (st1 := ([.int (0), .ref 0] : List Value)) (w1 := (layM v1 h)) (by rfl) ?_
          refine bv_fV0 C rfl (ct_tracks0 hE v1 _ n S (st_same kp_v1 hs) (secK_kp kp_v1 hS) (by rw [ev1]; exact (evK_at hev (ps1_at 14 (by omega) (by omega) hs.2.1)))) ml_X9_176 im_X9_tracks sel_X9_tracks ini_X9 cd_X9_tracks ok_X9_tracks rfl ⟨Nat.le_of_ble_eq_true rfl, Nat.le_of_ble_eq_true rfl⟩ ⟨Nat.zero_le _, Nat.zero_le _⟩ (by decide) rfl rfl rfl (rest := ([] : List Value)) rfl (Nat.le_of_ble_eq_true rfl) ?_
          obtain ⟨v5, ev5⟩ : ∃ x : Nat → Nat → Int32, x = (trkG 0 n S (ps1 n g)) := ⟨_, rfl⟩
          have kp_v5 : kept g v5 := by rw [ev5, ← ev1]; exact (kp_trk (s := 0) (n := n) (S := S) (by omega) kp_v1)
          refine bv_weq (show (layM (trkG 0 n S v1) h) = (layM v5 h) from by rw [ev5, ← ev1]) ?_
          refine bv_blk C frk_X9 csk_X9 2 59 rfl (L1 := ([(1, .int (nI n)), (0, .ref 0)] : Lc)) (st1 := ([.int (1), .ref 0] : List Value)) (w1 := (layM v5 h)) (by rfl) ?_
          refine bv_fV0 C rfl (ct_tracks1 hE v5 _ n S (st_same kp_v5 hs) (secK_kp kp_v5 hS) (by rw [ev5]; exact (ev_trk (s := 0) (n := n) (S := S) (by omega) (evK_at hev (ps1_at 14 (by omega) (by omega) hs.2.1))))) ml_X9_176 im_X9_tracks sel_X9_tracks ini_X9 cd_X9_tracks ok_X9_tracks rfl ⟨Nat.le_of_ble_eq_true rfl, Nat.le_of_ble_eq_true rfl⟩ ⟨Nat.zero_le _, Nat.zero_le _⟩ (by decide) rfl rfl rfl (rest := ([] : List Value)) rfl (Nat.le_of_ble_eq_true rfl) ?_
          obtain ⟨v6, ev6⟩ : ∃ x : Nat → Nat → Int32, x = (trkG 1 n S (trkG 0 n S (ps1 n g))) := ⟨_, rfl⟩
          have kp_v6 : kept g v6 := by rw [ev6, ← ev5]; exact (kp_trk (s := 1) (n := n) (S := S) (by omega) kp_v5)
          refine bv_weq (show (layM (trkG 1 n S v5) h) = (layM v6 h) from by rw [ev6, ← ev5]) ?_
          refine bv_blk C frk_X9 csk_X9 3 63 rfl (L1 := ([(1, .int (nI n)), (0, .ref 0)] : Lc)) (st1 := ([.int (0), .ref 1] : List Value)) (w1 := (layM v6 h)) (by rfl) ?_
          refine bv_iald C rfl rfl (by decide) (j := 0) (by exact rfl) (by first | decide | omega) (by decide) (y := (v6 1 0)) (by rfl) ?_
          refine bv_blk C frk_X9 csk_X9 1 65 rfl (L1 := ([(1, .int (nI n)), (0, .ref 0)] : Lc)) (st1 := ([.int (1), .int (v6 1 0)] : List Value)) (w1 := (layM v6 h)) (by rfl) ?_
          refine bv_icmp_ne (j := 68) C rfl rfl (fun c10 => ?_) (fun c10 => ?_)
          · refine bv_blk C frk_X9 csk_X9 3 71 rfl (L1 := ([(1, .int (nI n)), (0, .ref 0)] : Lc)) (st1 := ([.int (0), .ref 1] : List Value)) (w1 := (layM v6 h)) (by rfl) ?_
            refine bv_iald C rfl rfl (by decide) (j := 0) (by exact rfl) (by first | decide | omega) (by decide) (y := (v6 1 0)) (by rfl) ?_
            refine bv_if_ne (j := 83) C rfl rfl (fun c11 => ?_) (fun c11 => ?_)
            · exact bv_vret C rfl hr ⟨by (rfl), by (subst ev1; subst ev5; subst ev6; unfold pasG psB psA; rw [if_pos (show ps1 n g 1 0 = 1 ∧ ps1 n g 1 8 = 1 from ⟨c2, c6⟩)]; rw [if_neg c10]; rw [if_neg (fun q => c11 q.1)]; try rfl)⟩
            · refine bv_blk C frk_X9 csk_X9 3 76 rfl (L1 := ([(1, .int (nI n)), (0, .ref 0)] : Lc)) (st1 := ([.int (11), .ref 1] : List Value)) (w1 := (layM v6 h)) (by rfl) ?_
              refine bv_iald C rfl rfl (by decide) (j := 11) (by exact rfl) (by first | decide | omega) (by decide) (y := (v6 1 11)) (by rfl) ?_
              refine bv_blk C frk_X9 csk_X9 1 78 rfl (L1 := ([(1, .int (nI n)), (0, .ref 0)] : Lc)) (st1 := ([.int (1), .int (v6 1 11)] : List Value)) (w1 := (layM v6 h)) (by rfl) ?_
              refine bv_icmp_ne (j := 83) C rfl rfl (fun c12 => ?_) (fun c12 => ?_)
              · exact bv_vret C rfl hr ⟨by (rfl), by (subst ev1; subst ev5; subst ev6; unfold pasG psB psA; rw [if_pos (show ps1 n g 1 0 = 1 ∧ ps1 n g 1 8 = 1 from ⟨c2, c6⟩)]; rw [if_neg c10]; rw [if_neg (fun q => c12 q.2)]; try rfl)⟩
              · refine bv_blk C frk_X9 csk_X9 2 81 rfl (L1 := ([(1, .int (nI n)), (0, .ref 0)] : Lc)) (st1 := ([.int (0), .ref 0] : List Value)) (w1 := (layM v6 h)) (by rfl) ?_
                refine bv_fV1 C rfl (ct_doesSweep0 hE v6 _ n S (st_same kp_v6 hs) (secK_kp kp_v6 hS) (by rw [ev6]; exact (ev_trk (s := 1) (n := n) (S := S) (by omega) (ev_trk (s := 0) (n := n) (S := S) (by omega) (evK_at hev (ps1_at 14 (by omega) (by omega) hs.2.1)))))) ml_X9_137 im_X9_doesSweep sel_X9_doesSweep ini_X9 cd_X9_doesSweep ok_X9_doesSweep rfl ⟨Nat.le_of_ble_eq_true rfl, Nat.le_of_ble_eq_true rfl⟩ ⟨Nat.zero_le _, Nat.zero_le _⟩ (by decide) rfl rfl rfl (rest := ([] : List Value)) rfl (Nat.le_of_ble_eq_true rfl) ?_
                obtain ⟨v7, ev7⟩ : ∃ x : Nat → Nat → Int32, x = (dswG 0 n S (trkG 1 n S (trkG 0 n S (ps1 n g)))) := ⟨_, rfl⟩
                have kp_v7 : kept g v7 := by rw [ev7, ← ev6]; exact (kp_dsw (f := 0) (n := n) (S := S) (by omega) (secK_kp kp_v6 hS) kp_v6)
                refine bv_weq (show (layM (dswG 0 n S v6) h) = (layM v7 h) from by rw [ev7, ← ev6]) ?_
                refine bv_blk C frk_X9 csk_X9 1 83 rfl (L1 := ([(1, .int (nI n)), (0, .ref 0)] : Lc)) (st1 := ([] : List Value)) (w1 := (layM v7 h)) (by rfl) ?_
                exact bv_vret C rfl hr ⟨by (rfl), by (subst ev1; subst ev5; subst ev6; subst ev7; unfold pasG psB psA; rw [if_pos (show ps1 n g 1 0 = 1 ∧ ps1 n g 1 8 = 1 from ⟨c2, c6⟩)]; rw [if_neg c10]; rw [if_pos ⟨c11, c12⟩]; try rfl)⟩
          · refine bv_blk C frk_X9 csk_X9 1 67 rfl (L1 := ([(1, .int (nI n)), (0, .ref 0)] : Lc)) (st1 := ([.ref 0] : List Value)) (w1 := (layM v6 h)) (by rfl) ?_
            refine bv_fV0 C rfl (ct_talks hE v6 _ n (st_same kp_v6 hs) (by rw [ev6]; exact (ev_trk (s := 1) (n := n) (S := S) (by omega) (ev_trk (s := 0) (n := n) (S := S) (by omega) (evK_at hev (ps1_at 14 (by omega) (by omega) hs.2.1))))) (by rw [ev6]; exact (bkK_at (bkK_at (bkK_at hB (ps1_at 13 (by omega) (by omega) hs.2.1)) (trk_at (s := 0) (n := n) (S := S) (by omega) (evK_at hev (ps1_at 14 (by omega) (by omega) hs.2.1)) 13 (by unfold frK; omega) (by omega) (by omega))) (trk_at (s := 1) (n := n) (S := S) (by omega) (ev_trk (s := 0) (n := n) (S := S) (by omega) (evK_at hev (ps1_at 14 (by omega) (by omega) hs.2.1))) 13 (by unfold frK; omega) (by omega) (by omega))))) ml_X9_179 im_X9_talks sel_X9_talks ini_X9 cd_X9_talks ok_X9_talks rfl ⟨Nat.le_of_ble_eq_true rfl, Nat.le_of_ble_eq_true rfl⟩ ⟨Nat.zero_le _, Nat.zero_le _⟩ (by decide) rfl rfl rfl (rest := ([] : List Value)) rfl (Nat.le_of_ble_eq_true rfl) ?_
            obtain ⟨v8, ev8⟩ : ∃ x : Nat → Nat → Int32, x = (tlkG n (trkG 1 n S (trkG 0 n S (ps1 n g)))) := ⟨_, rfl⟩
            have kp_v8 : kept g v8 := by rw [ev8, ← ev6]; exact (kp_tlk (n := n) (by rw [ev6]; exact (bkK_at (bkK_at (bkK_at hB (ps1_at 13 (by omega) (by omega) hs.2.1)) (trk_at (s := 0) (n := n) (S := S) (by omega) (evK_at hev (ps1_at 14 (by omega) (by omega) hs.2.1)) 13 (by unfold frK; omega) (by omega) (by omega))) (trk_at (s := 1) (n := n) (S := S) (by omega) (ev_trk (s := 0) (n := n) (S := S) (by omega) (evK_at hev (ps1_at 14 (by omega) (by omega) hs.2.1))) 13 (by unfold frK; omega) (by omega) (by omega)))) kp_v6)
            refine bv_weq (show (layM (tlkG n v6) h) = (layM v8 h) from by rw [ev8, ← ev6]) ?_
            refine bv_blk C frk_X9 csk_X9 3 71 rfl (L1 := ([(1, .int (nI n)), (0, .ref 0)] : Lc)) (st1 := ([.int (0), .ref 1] : List Value)) (w1 := (layM v8 h)) (by rfl) ?_
            refine bv_iald C rfl rfl (by decide) (j := 0) (by exact rfl) (by first | decide | omega) (by decide) (y := (v8 1 0)) (by rfl) ?_
            refine bv_if_ne (j := 83) C rfl rfl (fun c13 => ?_) (fun c13 => ?_)
            · exact bv_vret C rfl hr ⟨by (rfl), by (subst ev1; subst ev5; subst ev6; subst ev8; unfold pasG psB psA; rw [if_pos (show ps1 n g 1 0 = 1 ∧ ps1 n g 1 8 = 1 from ⟨c2, c6⟩)]; rw [if_pos c10]; rw [if_neg (fun q => c13 q.1)]; try rfl)⟩
            · refine bv_blk C frk_X9 csk_X9 3 76 rfl (L1 := ([(1, .int (nI n)), (0, .ref 0)] : Lc)) (st1 := ([.int (11), .ref 1] : List Value)) (w1 := (layM v8 h)) (by rfl) ?_
              refine bv_iald C rfl rfl (by decide) (j := 11) (by exact rfl) (by first | decide | omega) (by decide) (y := (v8 1 11)) (by rfl) ?_
              refine bv_blk C frk_X9 csk_X9 1 78 rfl (L1 := ([(1, .int (nI n)), (0, .ref 0)] : Lc)) (st1 := ([.int (1), .int (v8 1 11)] : List Value)) (w1 := (layM v8 h)) (by rfl) ?_
              refine bv_icmp_ne (j := 83) C rfl rfl (fun c14 => ?_) (fun c14 => ?_)
              · exact bv_vret C rfl hr ⟨by (rfl), by (subst ev1; subst ev5; subst ev6; subst ev8; unfold pasG psB psA; rw [if_pos (show ps1 n g 1 0 = 1 ∧ ps1 n g 1 8 = 1 from ⟨c2, c6⟩)]; rw [if_pos c10]; rw [if_neg (fun q => c14 q.2)]; try rfl)⟩
              · refine bv_blk C frk_X9 csk_X9 2 81 rfl (L1 := ([(1, .int (nI n)), (0, .ref 0)] : Lc)) (st1 := ([.int (0), .ref 0] : List Value)) (w1 := (layM v8 h)) (by rfl) ?_
                refine bv_fV1 C rfl (ct_doesSweep0 hE v8 _ n S (st_same kp_v8 hs) (secK_kp kp_v8 hS) (by rw [ev8]; exact (ev_tlk (n := n) (ev_trk (s := 1) (n := n) (S := S) (by omega) (ev_trk (s := 0) (n := n) (S := S) (by omega) (evK_at hev (ps1_at 14 (by omega) (by omega) hs.2.1))))))) ml_X9_137 im_X9_doesSweep sel_X9_doesSweep ini_X9 cd_X9_doesSweep ok_X9_doesSweep rfl ⟨Nat.le_of_ble_eq_true rfl, Nat.le_of_ble_eq_true rfl⟩ ⟨Nat.zero_le _, Nat.zero_le _⟩ (by decide) rfl rfl rfl (rest := ([] : List Value)) rfl (Nat.le_of_ble_eq_true rfl) ?_
                obtain ⟨v9, ev9⟩ : ∃ x : Nat → Nat → Int32, x = (dswG 0 n S (tlkG n (trkG 1 n S (trkG 0 n S (ps1 n g))))) := ⟨_, rfl⟩
                have kp_v9 : kept g v9 := by rw [ev9, ← ev8]; exact (kp_dsw (f := 0) (n := n) (S := S) (by omega) (secK_kp kp_v8 hS) kp_v8)
                refine bv_weq (show (layM (dswG 0 n S v8) h) = (layM v9 h) from by rw [ev9, ← ev8]) ?_
                refine bv_blk C frk_X9 csk_X9 1 83 rfl (L1 := ([(1, .int (nI n)), (0, .ref 0)] : Lc)) (st1 := ([] : List Value)) (w1 := (layM v9 h)) (by rfl) ?_
                exact bv_vret C rfl hr ⟨by (rfl), by (subst ev1; subst ev5; subst ev6; subst ev8; subst ev9; unfold pasG psB psA; rw [if_pos (show ps1 n g 1 0 = 1 ∧ ps1 n g 1 8 = 1 from ⟨c2, c6⟩)]; rw [if_pos c10]; rw [if_pos ⟨c13, c14⟩]; try rfl)⟩
    | succ n_a ih =>
      intro k_a hs_a hk_a
      refine bv_blk C frk_X9 csk_X9 4 14 rfl (L1 := ([(1, .int (nI k_a)), (0, .ref 0)] : Lc)) (st1 := ([.int (12), .ref 1, .int (nI k_a)] : List Value)) (w1 := (layM (drfG (ug g 1 2 ((g 1 2) + (1))) k_a) h)) (by rfl) ?_
      refine bv_iald C rfl rfl (by decide) (j := 12) (by exact rfl) (by first | decide | omega) (by decide) (y := ((drfG (ug g 1 2 ((g 1 2) + (1))) k_a) 1 12)) (by rfl) ?_
      refine bv_icmp_ge (j := 42) C rfl rfl (fun h => absurd h (by rw [show ((drfG (ug g 1 2 ((g 1 2) + (1))) k_a) 1 12) = nI n from (((kp_drf (p := k_a) (kp_ug (i := 1) (k := 2) (x := ((g 1 2) + (1))) (by omega) (kp_rf _))) 12 (by unfold stK; omega)).trans hs.1)]; exact (nI_ge (a := k_a) (b := n) (by omega) (by omega)))) (fun _ => ?_)
      refine bv_blk C frk_X9 csk_X9 4 20 rfl (L1 := ([(2, .int (0)), (1, .int (nI k_a)), (0, .ref 0)] : Lc)) (st1 := ([.int (2), .int (0)] : List Value)) (w1 := (layM (drfG (ug g 1 2 ((g 1 2) + (1))) k_a) h)) (by rfl) ?_
      refine bv_icmp_ge (j := 40) C rfl rfl (fun h => absurd h (by decide)) (fun _ => ?_)
      refine bv_blk C frk_X9 csk_X9 6 27 rfl (L1 := ([(2, .int (0)), (1, .int (nI k_a)), (0, .ref 0)] : Lc)) (st1 := ([.int (0), .int (nI k_a), .ref 0, .int (0), .int (nI k_a), .ref 0] : List Value)) (w1 := (layM (drfG (ug g 1 2 ((g 1 2) + (1))) k_a) h)) (by rfl) ?_
      refine bv_fV1 C rfl (ct_ofPath hE _ _ k_a 0 (by omega) (by omega)) ml_X9_86 im_X9_ofPath sel_X9_ofPath ini_X9 cd_X9_ofPath ok_X9_ofPath rfl ⟨Nat.le_of_ble_eq_true rfl, Nat.le_of_ble_eq_true rfl⟩ ⟨Nat.zero_le _, Nat.zero_le _⟩ (by decide) rfl rfl rfl (rest := ([.int (0), .int (nI k_a), .ref 0] : List Value)) rfl (Nat.le_of_ble_eq_true rfl) ?_
      refine bv_blk C frk_X9 csk_X9 5 33 rfl (L1 := ([(2, .int (0)), (1, .int (nI k_a)), (0, .ref 0)] : Lc)) (st1 := ([.int ((4) + (0)), .int (nI k_a), .ref 0, .int ((drfG (ug g 1 2 ((g 1 2) + (1))) k_a) 1 (55 + 6 * k_a + 0)), .int (0), .int (nI k_a), .ref 0] : List Value)) (w1 := (layM (drfG (ug g 1 2 ((g 1 2) + (1))) k_a) h)) (by rfl) ?_
      refine bv_fV1 C rfl (ct_ofPath hE _ _ k_a 4 (by omega) (by omega)) ml_X9_86 im_X9_ofPath sel_X9_ofPath ini_X9 cd_X9_ofPath ok_X9_ofPath rfl ⟨Nat.le_of_ble_eq_true rfl, Nat.le_of_ble_eq_true rfl⟩ ⟨Nat.zero_le _, Nat.zero_le _⟩ (by decide) rfl rfl rfl (rest := ([.int ((drfG (ug g 1 2 ((g 1 2) + (1))) k_a) 1 (55 + 6 * k_a + 0)), .int (0), .int (nI k_a), .ref 0] : List Value)) rfl (Nat.le_of_ble_eq_true rfl) ?_
      refine bv_blk C frk_X9 csk_X9 2 36 rfl (L1 := ([(2, .int (0)), (1, .int (nI k_a)), (0, .ref 0)] : Lc)) (st1 := ([.int (64), .int (((drfG (ug g 1 2 ((g 1 2) + (1))) k_a) 1 (55 + 6 * k_a + 0)) + ((drfG (ug g 1 2 ((g 1 2) + (1))) k_a) 1 (55 + 6 * k_a + 4))), .int (0), .int (nI k_a), .ref 0] : List Value)) (w1 := (layM (drfG (ug g 1 2 ((g 1 2) + (1))) k_a) h)) (by rfl) ?_
      refine bv_fS1 C rfl (ct_around hE _ (((drfG (ug g 1 2 ((g 1 2) + (1))) k_a) 1 (55 + 6 * k_a + 0)) + ((drfG (ug g 1 2 ((g 1 2) + (1))) k_a) 1 (55 + 6 * k_a + 4))) (64) (by decide)) ml_X9_76 st_X9_around ini_X9 cd_X9_around ok_X9_around rfl ⟨Nat.le_of_ble_eq_true rfl, Nat.le_of_ble_eq_true rfl⟩ ⟨Nat.zero_le _, Nat.zero_le _⟩ (rest := ([.int (0), .int (nI k_a), .ref 0] : List Value)) rfl (Nat.le_of_ble_eq_true rfl) ?_
      refine bv_fV0 C rfl (ct_setsPath hE _ _ k_a 0 (arI (((drfG (ug g 1 2 ((g 1 2) + (1))) k_a) 1 (55 + 6 * k_a + 0)) + ((drfG (ug g 1 2 ((g 1 2) + (1))) k_a) 1 (55 + 6 * k_a + 4))) (64)) (by omega) (by omega)) ml_X9_173 im_X9_setsPath sel_X9_setsPath ini_X9 cd_X9_setsPath ok_X9_setsPath rfl ⟨Nat.le_of_ble_eq_true rfl, Nat.le_of_ble_eq_true rfl⟩ ⟨Nat.zero_le _, Nat.zero_le _⟩ (by decide) rfl rfl rfl (rest := ([] : List Value)) rfl (Nat.le_of_ble_eq_true rfl) ?_
      refine bv_blk C frk_X9 csk_X9 1 39 rfl (L1 := ([(2, .int ((0) + Int32.ofInt 1)), (1, .int (nI k_a)), (0, .ref 0)] : Lc)) (st1 := ([] : List Value)) (w1 := (layM (ug (drfG (ug g 1 2 ((g 1 2) + (1))) k_a) 1 (55 + 6 * k_a + 0) (arI (((drfG (ug g 1 2 ((g 1 2) + (1))) k_a) 1 (55 + 6 * k_a + 0)) + ((drfG (ug g 1 2 ((g 1 2) + (1))) k_a) 1 (55 + 6 * k_a + 4))) (64))) h)) (by rfl) ?_
      refine bv_goto (j := 18) C rfl rfl ?_
      refine bv_blk C frk_X9 csk_X9 2 20 rfl (L1 := ([(2, .int ((0) + Int32.ofInt 1)), (1, .int (nI k_a)), (0, .ref 0)] : Lc)) (st1 := ([.int (2), .int ((0) + Int32.ofInt 1)] : List Value)) (w1 := (layM (ug (drfG (ug g 1 2 ((g 1 2) + (1))) k_a) 1 (55 + 6 * k_a + 0) (arI (((drfG (ug g 1 2 ((g 1 2) + (1))) k_a) 1 (55 + 6 * k_a + 0)) + ((drfG (ug g 1 2 ((g 1 2) + (1))) k_a) 1 (55 + 6 * k_a + 4))) (64))) h)) (by rfl) ?_
      refine bv_icmp_ge (j := 40) C rfl rfl (fun h => absurd h (by decide)) (fun _ => ?_)
      refine bv_blk C frk_X9 csk_X9 6 27 rfl (L1 := ([(2, .int ((0) + Int32.ofInt 1)), (1, .int (nI k_a)), (0, .ref 0)] : Lc)) (st1 := ([.int ((0) + Int32.ofInt 1), .int (nI k_a), .ref 0, .int ((0) + Int32.ofInt 1), .int (nI k_a), .ref 0] : List Value)) (w1 := (layM (ug (drfG (ug g 1 2 ((g 1 2) + (1))) k_a) 1 (55 + 6 * k_a + 0) (arI (((drfG (ug g 1 2 ((g 1 2) + (1))) k_a) 1 (55 + 6 * k_a + 0)) + ((drfG (ug g 1 2 ((g 1 2) + (1))) k_a) 1 (55 + 6 * k_a + 4))) (64))) h)) (by rfl) ?_
      refine bv_fV1 C rfl (ct_ofPath hE _ _ k_a 1 (by omega) (by omega)) ml_X9_86 im_X9_ofPath sel_X9_ofPath ini_X9 cd_X9_ofPath ok_X9_ofPath rfl ⟨Nat.le_of_ble_eq_true rfl, Nat.le_of_ble_eq_true rfl⟩ ⟨Nat.zero_le _, Nat.zero_le _⟩ (by decide) rfl rfl rfl (rest := ([.int ((0) + Int32.ofInt 1), .int (nI k_a), .ref 0] : List Value)) rfl (Nat.le_of_ble_eq_true rfl) ?_
      refine bv_blk C frk_X9 csk_X9 5 33 rfl (L1 := ([(2, .int ((0) + Int32.ofInt 1)), (1, .int (nI k_a)), (0, .ref 0)] : Lc)) (st1 := ([.int ((4) + ((0) + Int32.ofInt 1)), .int (nI k_a), .ref 0, .int ((ug (drfG (ug g 1 2 ((g 1 2) + (1))) k_a) 1 (55 + 6 * k_a + 0) (arI (((drfG (ug g 1 2 ((g 1 2) + (1))) k_a) 1 (55 + 6 * k_a + 0)) + ((drfG (ug g 1 2 ((g 1 2) + (1))) k_a) 1 (55 + 6 * k_a + 4))) (64))) 1 (55 + 6 * k_a + 1)), .int ((0) + Int32.ofInt 1), .int (nI k_a), .ref 0] : List Value)) (w1 := (layM (ug (drfG (ug g 1 2 ((g 1 2) + (1))) k_a) 1 (55 + 6 * k_a + 0) (arI (((drfG (ug g 1 2 ((g 1 2) + (1))) k_a) 1 (55 + 6 * k_a + 0)) + ((drfG (ug g 1 2 ((g 1 2) + (1))) k_a) 1 (55 + 6 * k_a + 4))) (64))) h)) (by rfl) ?_
      refine bv_fV1 C rfl (ct_ofPath hE _ _ k_a 5 (by omega) (by omega)) ml_X9_86 im_X9_ofPath sel_X9_ofPath ini_X9 cd_X9_ofPath ok_X9_ofPath rfl ⟨Nat.le_of_ble_eq_true rfl, Nat.le_of_ble_eq_true rfl⟩ ⟨Nat.zero_le _, Nat.zero_le _⟩ (by decide) rfl rfl rfl (rest := ([.int ((ug (drfG (ug g 1 2 ((g 1 2) + (1))) k_a) 1 (55 + 6 * k_a + 0) (arI (((drfG (ug g 1 2 ((g 1 2) + (1))) k_a) 1 (55 + 6 * k_a + 0)) + ((drfG (ug g 1 2 ((g 1 2) + (1))) k_a) 1 (55 + 6 * k_a + 4))) (64))) 1 (55 + 6 * k_a + 1)), .int ((0) + Int32.ofInt 1), .int (nI k_a), .ref 0] : List Value)) rfl (Nat.le_of_ble_eq_true rfl) ?_
      refine bv_blk C frk_X9 csk_X9 2 36 rfl (L1 := ([(2, .int ((0) + Int32.ofInt 1)), (1, .int (nI k_a)), (0, .ref 0)] : Lc)) (st1 := ([.int (64), .int (((ug (drfG (ug g 1 2 ((g 1 2) + (1))) k_a) 1 (55 + 6 * k_a + 0) (arI (((drfG (ug g 1 2 ((g 1 2) + (1))) k_a) 1 (55 + 6 * k_a + 0)) + ((drfG (ug g 1 2 ((g 1 2) + (1))) k_a) 1 (55 + 6 * k_a + 4))) (64))) 1 (55 + 6 * k_a + 1)) + ((ug (drfG (ug g 1 2 ((g 1 2) + (1))) k_a) 1 (55 + 6 * k_a + 0) (arI (((drfG (ug g 1 2 ((g 1 2) + (1))) k_a) 1 (55 + 6 * k_a + 0)) + ((drfG (ug g 1 2 ((g 1 2) + (1))) k_a) 1 (55 + 6 * k_a + 4))) (64))) 1 (55 + 6 * k_a + 5))), .int ((0) + Int32.ofInt 1), .int (nI k_a), .ref 0] : List Value)) (w1 := (layM (ug (drfG (ug g 1 2 ((g 1 2) + (1))) k_a) 1 (55 + 6 * k_a + 0) (arI (((drfG (ug g 1 2 ((g 1 2) + (1))) k_a) 1 (55 + 6 * k_a + 0)) + ((drfG (ug g 1 2 ((g 1 2) + (1))) k_a) 1 (55 + 6 * k_a + 4))) (64))) h)) (by rfl) ?_
      refine bv_fS1 C rfl (ct_around hE _ (((ug (drfG (ug g 1 2 ((g 1 2) + (1))) k_a) 1 (55 + 6 * k_a + 0) (arI (((drfG (ug g 1 2 ((g 1 2) + (1))) k_a) 1 (55 + 6 * k_a + 0)) + ((drfG (ug g 1 2 ((g 1 2) + (1))) k_a) 1 (55 + 6 * k_a + 4))) (64))) 1 (55 + 6 * k_a + 1)) + ((ug (drfG (ug g 1 2 ((g 1 2) + (1))) k_a) 1 (55 + 6 * k_a + 0) (arI (((drfG (ug g 1 2 ((g 1 2) + (1))) k_a) 1 (55 + 6 * k_a + 0)) + ((drfG (ug g 1 2 ((g 1 2) + (1))) k_a) 1 (55 + 6 * k_a + 4))) (64))) 1 (55 + 6 * k_a + 5))) (64) (by decide)) ml_X9_76 st_X9_around ini_X9 cd_X9_around ok_X9_around rfl ⟨Nat.le_of_ble_eq_true rfl, Nat.le_of_ble_eq_true rfl⟩ ⟨Nat.zero_le _, Nat.zero_le _⟩ (rest := ([.int ((0) + Int32.ofInt 1), .int (nI k_a), .ref 0] : List Value)) rfl (Nat.le_of_ble_eq_true rfl) ?_
      refine bv_fV0 C rfl (ct_setsPath hE _ _ k_a 1 (arI (((ug (drfG (ug g 1 2 ((g 1 2) + (1))) k_a) 1 (55 + 6 * k_a + 0) (arI (((drfG (ug g 1 2 ((g 1 2) + (1))) k_a) 1 (55 + 6 * k_a + 0)) + ((drfG (ug g 1 2 ((g 1 2) + (1))) k_a) 1 (55 + 6 * k_a + 4))) (64))) 1 (55 + 6 * k_a + 1)) + ((ug (drfG (ug g 1 2 ((g 1 2) + (1))) k_a) 1 (55 + 6 * k_a + 0) (arI (((drfG (ug g 1 2 ((g 1 2) + (1))) k_a) 1 (55 + 6 * k_a + 0)) + ((drfG (ug g 1 2 ((g 1 2) + (1))) k_a) 1 (55 + 6 * k_a + 4))) (64))) 1 (55 + 6 * k_a + 5))) (64)) (by omega) (by omega)) ml_X9_173 im_X9_setsPath sel_X9_setsPath ini_X9 cd_X9_setsPath ok_X9_setsPath rfl ⟨Nat.le_of_ble_eq_true rfl, Nat.le_of_ble_eq_true rfl⟩ ⟨Nat.zero_le _, Nat.zero_le _⟩ (by decide) rfl rfl rfl (rest := ([] : List Value)) rfl (Nat.le_of_ble_eq_true rfl) ?_
      refine bv_blk C frk_X9 csk_X9 1 39 rfl (L1 := ([(2, .int (((0) + Int32.ofInt 1) + Int32.ofInt 1)), (1, .int (nI k_a)), (0, .ref 0)] : Lc)) (st1 := ([] : List Value)) (w1 := (layM (ug (ug (drfG (ug g 1 2 ((g 1 2) + (1))) k_a) 1 (55 + 6 * k_a + 0) (arI (((drfG (ug g 1 2 ((g 1 2) + (1))) k_a) 1 (55 + 6 * k_a + 0)) + ((drfG (ug g 1 2 ((g 1 2) + (1))) k_a) 1 (55 + 6 * k_a + 4))) (64))) 1 (55 + 6 * k_a + 1) (arI (((ug (drfG (ug g 1 2 ((g 1 2) + (1))) k_a) 1 (55 + 6 * k_a + 0) (arI (((drfG (ug g 1 2 ((g 1 2) + (1))) k_a) 1 (55 + 6 * k_a + 0)) + ((drfG (ug g 1 2 ((g 1 2) + (1))) k_a) 1 (55 + 6 * k_a + 4))) (64))) 1 (55 + 6 * k_a + 1)) + ((ug (drfG (ug g 1 2 ((g 1 2) + (1))) k_a) 1 (55 + 6 * k_a + 0) (arI (((drfG (ug g 1 2 ((g 1 2) + (1))) k_a) 1 (55 + 6 * k_a + 0)) + ((drfG (ug g 1 2 ((g 1 2) + (1))) k_a) 1 (55 + 6 * k_a + 4))) (64))) 1 (55 + 6 * k_a + 5))) (64))) h)) (by rfl) ?_
      refine bv_goto (j := 18) C rfl rfl ?_
      refine bv_blk C frk_X9 csk_X9 2 20 rfl (L1 := ([(2, .int (((0) + Int32.ofInt 1) + Int32.ofInt 1)), (1, .int (nI k_a)), (0, .ref 0)] : Lc)) (st1 := ([.int (2), .int (((0) + Int32.ofInt 1) + Int32.ofInt 1)] : List Value)) (w1 := (layM (ug (ug (drfG (ug g 1 2 ((g 1 2) + (1))) k_a) 1 (55 + 6 * k_a + 0) (arI (((drfG (ug g 1 2 ((g 1 2) + (1))) k_a) 1 (55 + 6 * k_a + 0)) + ((drfG (ug g 1 2 ((g 1 2) + (1))) k_a) 1 (55 + 6 * k_a + 4))) (64))) 1 (55 + 6 * k_a + 1) (arI (((ug (drfG (ug g 1 2 ((g 1 2) + (1))) k_a) 1 (55 + 6 * k_a + 0) (arI (((drfG (ug g 1 2 ((g 1 2) + (1))) k_a) 1 (55 + 6 * k_a + 0)) + ((drfG (ug g 1 2 ((g 1 2) + (1))) k_a) 1 (55 + 6 * k_a + 4))) (64))) 1 (55 + 6 * k_a + 1)) + ((ug (drfG (ug g 1 2 ((g 1 2) + (1))) k_a) 1 (55 + 6 * k_a + 0) (arI (((drfG (ug g 1 2 ((g 1 2) + (1))) k_a) 1 (55 + 6 * k_a + 0)) + ((drfG (ug g 1 2 ((g 1 2) + (1))) k_a) 1 (55 + 6 * k_a + 4))) (64))) 1 (55 + 6 * k_a + 5))) (64))) h)) (by rfl) ?_
      refine bv_icmp_ge (j := 40) C rfl rfl (fun _ => ?_) (fun h => absurd h (by decide))
      refine bv_blk C frk_X9 csk_X9 1 41 rfl (L1 := ([(1, .int ((nI k_a) + Int32.ofInt 1)), (2, .int (((0) + Int32.ofInt 1) + Int32.ofInt 1)), (0, .ref 0)] : Lc)) (st1 := ([] : List Value)) (w1 := (layM (ug (ug (drfG (ug g 1 2 ((g 1 2) + (1))) k_a) 1 (55 + 6 * k_a + 0) (arI (((drfG (ug g 1 2 ((g 1 2) + (1))) k_a) 1 (55 + 6 * k_a + 0)) + ((drfG (ug g 1 2 ((g 1 2) + (1))) k_a) 1 (55 + 6 * k_a + 4))) (64))) 1 (55 + 6 * k_a + 1) (arI (((ug (drfG (ug g 1 2 ((g 1 2) + (1))) k_a) 1 (55 + 6 * k_a + 0) (arI (((drfG (ug g 1 2 ((g 1 2) + (1))) k_a) 1 (55 + 6 * k_a + 0)) + ((drfG (ug g 1 2 ((g 1 2) + (1))) k_a) 1 (55 + 6 * k_a + 4))) (64))) 1 (55 + 6 * k_a + 1)) + ((ug (drfG (ug g 1 2 ((g 1 2) + (1))) k_a) 1 (55 + 6 * k_a + 0) (arI (((drfG (ug g 1 2 ((g 1 2) + (1))) k_a) 1 (55 + 6 * k_a + 0)) + ((drfG (ug g 1 2 ((g 1 2) + (1))) k_a) 1 (55 + 6 * k_a + 4))) (64))) 1 (55 + 6 * k_a + 5))) (64))) h)) (by rfl) ?_
      rw [show ((nI k_a) + Int32.ofInt 1) = nI (k_a + 1) from (nIi rfl)]
      refine bv_goto (j := 10) C rfl rfl ?_
      refine bv_weq (show (layM (ug (ug (drfG (ug g 1 2 ((g 1 2) + (1))) k_a) 1 (55 + 6 * k_a + 0) (arI (((drfG (ug g 1 2 ((g 1 2) + (1))) k_a) 1 (55 + 6 * k_a + 0)) + ((drfG (ug g 1 2 ((g 1 2) + (1))) k_a) 1 (55 + 6 * k_a + 4))) (64))) 1 (55 + 6 * k_a + 1) (arI (((ug (drfG (ug g 1 2 ((g 1 2) + (1))) k_a) 1 (55 + 6 * k_a + 0) (arI (((drfG (ug g 1 2 ((g 1 2) + (1))) k_a) 1 (55 + 6 * k_a + 0)) + ((drfG (ug g 1 2 ((g 1 2) + (1))) k_a) 1 (55 + 6 * k_a + 4))) (64))) 1 (55 + 6 * k_a + 1)) + ((ug (drfG (ug g 1 2 ((g 1 2) + (1))) k_a) 1 (55 + 6 * k_a + 0) (arI (((drfG (ug g 1 2 ((g 1 2) + (1))) k_a) 1 (55 + 6 * k_a + 0)) + ((drfG (ug g 1 2 ((g 1 2) + (1))) k_a) 1 (55 + 6 * k_a + 4))) (64))) 1 (55 + 6 * k_a + 5))) (64))) h) = (layM (drfG (ug g 1 2 ((g 1 2) + (1))) (k_a + 1)) h) from by rw [drf_s]) ?_
      refine bv_sub [0, 2] (by rfl) ?_
      exact ih (k_a + 1) (by omega) (by omega)
  refine bv_weq (show (layM (ug g 1 2 ((g 1 2) + (1))) h) = (layM (drfG (ug g 1 2 ((g 1 2) + (1))) 0) h) from by rw [drf_0]) ?_
  refine bv_sub [0, 1] (by rfl) ?_
  exact lp_a (n - 0) 0 (Nat.le_refl _) (by omega)
