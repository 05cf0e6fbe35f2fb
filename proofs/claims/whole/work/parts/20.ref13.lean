theorem st_ms {g : Nat → Nat → Int32} {n s : Nat} (h : statR g n) (hs : s < 2) : ¬ g 1 (15 + 20 * s + 0) = 0 := by
  rcases (show s = 0 ∨ s = 1 by omega) with rfl | rfl
  · exact st_m0 h
  · exact st_m1 h
set_option maxRecDepth 100000 in
set_option maxHeartbeats 4000000 in
theorem ct_direction {l : Launch} {D : va_G} {cA : FieldType → ClassId} {z0 : Nat} {SK SV : Nat → Nat} {ad : Nat → Nat} (hE : aD (fun q => z0 ≤ q) ad 9) (g : Nat → Nat → Int32) (h : Int64) (n : Nat) (a b : Int32) (hs : statR g n) : bF l D cA z0 SK SV ad shM 9 yX9_direction cX9_direction 3 (some .int) 3 [.ref 0, .int a, .int b] (layM g h) (some (.int (if (((0) ≤ a ∧ a ≤ (1))) then (if ((0) ≤ b ∧ b ≤ ((6) * (g 1 (15 + 20 * a.toNatClampNeg + 0))) - (1)) then ptI (g 1 (15 + 20 * a.toNatClampNeg + 0)) (g 1 (15 + 20 * a.toNatClampNeg + 1)) b else (-100002)) else (-100001)))) (layM g h) := by
  refine bCT_intro (tb := tb_X9_direction) (own := RX9) hE pn_X9 rfl tk_X9_direction rfl (Nat.le_of_ble_eq_true rfl) ?_
  intro p e s0 m args below meth c C hr
  refine bv_blk C frk_X9 csk_X9 1 1 rfl (L1 := ([(0, .ref 0), (1, .int a), (2, .int b)] : Lc)) (st1 := ([.int a] : List Value)) (w1 := (layM g h)) (by rfl) ?_
  by_cases c1 : ((0) ≤ a ∧ a ≤ (1))
  · obtain ⟨s1, hs1, rfl⟩ := stat_of c1
    refine bv_fS1 C rfl (ct_isStation_t hE _ (nI s1) (stat_in hs1)) ml_X9_130 st_X9_isStation ini_X9 cd_X9_isStation ok_X9_isStation rfl ⟨Nat.le_of_ble_eq_true rfl, Nat.le_of_ble_eq_true rfl⟩ ⟨Nat.zero_le _, Nat.zero_le _⟩ (rest := ([] : List Value)) rfl (Nat.le_of_ble_eq_true rfl) ?_
    refine bv_if_ne (j := 5) C rfl rfl (fun _ => ?_) (fun h => absurd h (by decide))
    refine bv_blk C frk_X9 csk_X9 3 8 rfl (L1 := ([(0, .ref 0), (1, .int (nI s1)), (2, .int b)] : Lc)) (st1 := ([.int b, .int (nI s1), .ref 0] : List Value)) (w1 := (layM g h)) (by rfl) ?_
    by_cases c3 : ((0) ≤ b ∧ b ≤ ((6) * (g 1 (15 + 20 * s1 + 0))) - (1))
    · refine bv_fV1 C rfl (ct_hasBeam_t hE _ _ s1 b (by omega) c3) ml_X9_288 im_X9_hasBeam sel_X9_hasBeam ini_X9 cd_X9_hasBeam ok_X9_hasBeam rfl ⟨Nat.le_of_ble_eq_true rfl, Nat.le_of_ble_eq_true rfl⟩ ⟨Nat.zero_le _, Nat.zero_le _⟩ (by decide) rfl rfl rfl (rest := ([] : List Value)) rfl (Nat.le_of_ble_eq_true rfl) ?_
      refine bv_if_eq (j := 15) C rfl rfl (fun h => absurd h (by decide)) (fun _ => ?_)
      refine bv_blk C frk_X9 csk_X9 3 13 rfl (L1 := ([(0, .ref 0), (1, .int (nI s1)), (2, .int b)] : Lc)) (st1 := ([.int b, .int (nI s1), .ref 0] : List Value)) (w1 := (layM g h)) (by rfl) ?_
      refine bv_fV1 C rfl (ct_pointsTo hE _ _ s1 b (by omega) (st_ms hs hs1)) ml_X9_79 im_X9_pointsTo sel_X9_pointsTo ini_X9 cd_X9_pointsTo ok_X9_pointsTo rfl ⟨Nat.le_of_ble_eq_true rfl, Nat.le_of_ble_eq_true rfl⟩ ⟨Nat.zero_le _, Nat.zero_le _⟩ (by decide) rfl rfl rfl (rest := ([] : List Value)) rfl (Nat.le_of_ble_eq_true rfl) ?_
      refine bv_goto (j := 16) C rfl rfl ?_
      exact bv_iret C rfl hr rfl ⟨by (simp only [nI_clamp (show s1 < 2 ^ 31 by omega), c1, c3, and_self, or_true, true_or, not_true, not_false_iff, if_true, if_false, ↓reduceIte]), by (rfl)⟩
    · refine bv_fV1 C rfl (ct_hasBeam_f hE _ _ s1 b (by omega) c3) ml_X9_288 im_X9_hasBeam sel_X9_hasBeam ini_X9 cd_X9_hasBeam ok_X9_hasBeam rfl ⟨Nat.le_of_ble_eq_true rfl, Nat.le_of_ble_eq_true rfl⟩ ⟨Nat.zero_le _, Nat.zero_le _⟩ (by decide) rfl rfl rfl (rest := ([] : List Value)) rfl (Nat.le_of_ble_eq_true rfl) ?_
      refine bv_if_eq (j := 15) C rfl rfl (fun _ => ?_) (fun h => absurd h (by decide))
      refine bv_blk C frk_X9 csk_X9 1 16 rfl (L1 := ([(0, .ref 0), (1, .int (nI s1)), (2, .int b)] : Lc)) (st1 := ([.int (-100002)] : List Value)) (w1 := (layM g h)) (by rfl) ?_
      exact bv_iret C rfl hr rfl ⟨by (simp only [nI_clamp (show s1 < 2 ^ 31 by omega), c1, c3, and_self, or_true, true_or, not_true, not_false_iff, if_true, if_false, ↓reduceIte]), by (rfl)⟩
  · refine bv_fS1 C rfl (ct_isStation_f hE _ a c1) ml_X9_130 st_X9_isStation ini_X9 cd_X9_isStation ok_X9_isStation rfl ⟨Nat.le_of_ble_eq_true rfl, Nat.le_of_ble_eq_true rfl⟩ ⟨Nat.zero_le _, Nat.zero_le _⟩ (rest := ([] : List Value)) rfl (Nat.le_of_ble_eq_true rfl) ?_
    refine bv_if_ne (j := 5) C rfl rfl (fun h => absurd h (by decide)) (fun _ => ?_)
    refine bv_blk C frk_X9 csk_X9 1 4 rfl (L1 := ([(0, .ref 0), (1, .int a), (2, .int b)] : Lc)) (st1 := ([.int (-100001)] : List Value)) (w1 := (layM g h)) (by rfl) ?_
    exact bv_iret C rfl hr rfl ⟨by (simp only [c1, and_self, or_true, true_or, not_true, not_false_iff, if_true, if_false, ↓reduceIte]), by (rfl)⟩
set_option maxRecDepth 100000 in
set_option maxHeartbeats 4000000 in
theorem ct_mayUse_t {l : Launch} {D : va_G} {cA : FieldType → ClassId} {z0 : Nat} {SK SV : Nat → Nat} {ad : Nat → Nat} (hE : aD (fun q => z0 ≤ q) ad 9) (g : Nat → Nat → Int32) (h : Int64) (s : Nat) (b : Int32) (hs2 : s < 2) (hp : (b = -1 ∨ ((0) ≤ b ∧ b ≤ ((6) * (g 1 (15 + 20 * s + 0))) - (1)))) : bF l D cA z0 SK SV ad shM 9 yX9_mayUse cX9_mayUse 3 (some .boolean) 2 [.ref 0, .int (nI s), .int b] (layM g h) (some (.int (1))) (layM g h) := by
  refine bCT_intro (tb := tb_X9_mayUse) (own := RX9) hE pn_X9 rfl tk_X9_mayUse rfl (Nat.le_of_ble_eq_true rfl) ?_
  intro p e s0 m args below meth c C hr
  refine bv_blk C frk_X9 csk_X9 2 2 rfl (L1 := ([(0, .ref 0), (1, .int (nI s)), (2, .int b)] : Lc)) (st1 := ([.int (-1), .int b] : List Value)) (w1 := (layM g h)) (by rfl) ?_
  refine bv_icmp_eq (j := 8) C rfl rfl (fun c1 => ?_) (fun c1 => ?_)
  · refine bv_blk C frk_X9 csk_X9 1 9 rfl (L1 := ([(0, .ref 0), (1, .int (nI s)), (2, .int b)] : Lc)) (st1 := ([.int (1)] : List Value)) (w1 := (layM g h)) (by rfl) ?_
    refine bv_goto (j := 11) C rfl rfl ?_
    exact bv_iret C rfl hr rfl ⟨by (rfl), by (rfl)⟩
  · refine bv_blk C frk_X9 csk_X9 3 6 rfl (L1 := ([(0, .ref 0), (1, .int (nI s)), (2, .int b)] : Lc)) (st1 := ([.int b, .int (nI s), .ref 0] : List Value)) (w1 := (layM g h)) (by rfl) ?_
    refine bv_fV1 C rfl (ct_hasBeam_t hE _ _ s b (by omega) (hp.resolve_left c1)) ml_X9_288 im_X9_hasBeam sel_X9_hasBeam ini_X9 cd_X9_hasBeam ok_X9_hasBeam rfl ⟨Nat.le_of_ble_eq_true rfl, Nat.le_of_ble_eq_true rfl⟩ ⟨Nat.zero_le _, Nat.zero_le _⟩ (by decide) rfl rfl rfl (rest := ([] : List Value)) rfl (Nat.le_of_ble_eq_true rfl) ?_
    refine bv_if_eq (j := 10) C rfl rfl (fun h => absurd h (by decide)) (fun _ => ?_)
    refine bv_blk C frk_X9 csk_X9 1 9 rfl (L1 := ([(0, .ref 0), (1, .int (nI s)), (2, .int b)] : Lc)) (st1 := ([.int (1)] : List Value)) (w1 := (layM g h)) (by rfl) ?_
    refine bv_goto (j := 11) C rfl rfl ?_
    exact bv_iret C rfl hr rfl ⟨by (rfl), by (rfl)⟩
set_option maxRecDepth 100000 in
set_option maxHeartbeats 4000000 in
theorem ct_mayUse_f {l : Launch} {D : va_G} {cA : FieldType → ClassId} {z0 : Nat} {SK SV : Nat → Nat} {ad : Nat → Nat} (hE : aD (fun q => z0 ≤ q) ad 9) (g : Nat → Nat → Int32) (h : Int64) (s : Nat) (b : Int32) (hs2 : s < 2) (hp : ¬ (b = -1 ∨ ((0) ≤ b ∧ b ≤ ((6) * (g 1 (15 + 20 * s + 0))) - (1)))) : bF l D cA z0 SK SV ad shM 9 yX9_mayUse cX9_mayUse 3 (some .boolean) 2 [.ref 0, .int (nI s), .int b] (layM g h) (some (.int (0))) (layM g h) := by
  refine bCT_intro (tb := tb_X9_mayUse) (own := RX9) hE pn_X9 rfl tk_X9_mayUse rfl (Nat.le_of_ble_eq_true rfl) ?_
  intro p e s0 m args below meth c C hr
  refine bv_blk C frk_X9 csk_X9 2 2 rfl (L1 := ([(0, .ref 0), (1, .int (nI s)), (2, .int b)] : Lc)) (st1 := ([.int (-1), .int b] : List Value)) (w1 := (layM g h)) (by rfl) ?_
  refine bv_icmp_eq (j := 8) C rfl rfl (fun c1 => ?_) (fun c1 => ?_)
  · refine bv_blk C frk_X9 csk_X9 1 9 rfl (L1 := ([(0, .ref 0), (1, .int (nI s)), (2, .int b)] : Lc)) (st1 := ([.int (1)] : List Value)) (w1 := (layM g h)) (by rfl) ?_
    refine bv_goto (j := 11) C rfl rfl ?_
    exact bv_iret C rfl hr rfl ⟨by (exact absurd (Or.inl c1) hp), by (rfl)⟩
  · refine bv_blk C frk_X9 csk_X9 3 6 rfl (L1 := ([(0, .ref 0), (1, .int (nI s)), (2, .int b)] : Lc)) (st1 := ([.int b, .int (nI s), .ref 0] : List Value)) (w1 := (layM g h)) (by rfl) ?_
    refine bv_fV1 C rfl (ct_hasBeam_f hE _ _ s b (by omega) (fun z => hp (Or.inr z))) ml_X9_288 im_X9_hasBeam sel_X9_hasBeam ini_X9 cd_X9_hasBeam ok_X9_hasBeam rfl ⟨Nat.le_of_ble_eq_true rfl, Nat.le_of_ble_eq_true rfl⟩ ⟨Nat.zero_le _, Nat.zero_le _⟩ (by decide) rfl rfl rfl (rest := ([] : List Value)) rfl (Nat.le_of_ble_eq_true rfl) ?_
    refine bv_if_eq (j := 10) C rfl rfl (fun _ => ?_) (fun h => absurd h (by decide))
    refine bv_blk C frk_X9 csk_X9 1 11 rfl (L1 := ([(0, .ref 0), (1, .int (nI s)), (2, .int b)] : Lc)) (st1 := ([.int (0)] : List Value)) (w1 := (layM g h)) (by rfl) ?_
    exact bv_iret C rfl hr rfl ⟨by (rfl), by (rfl)⟩
set_option maxRecDepth 100000 in
set_option maxHeartbeats 4000000 in
theorem ct_gain {l : Launch} {D : va_G} {cA : FieldType → ClassId} {z0 : Nat} {SK SV : Nat → Nat} {ad : Nat → Nat} (hE : aD (fun q => z0 ≤ q) ad 9) (g : Nat → Nat → Int32) (h : Int64) (n : Nat) (a b t : Int32) (hs : statR g n) : bF l D cA z0 SK SV ad shM 9 yX9_gain cX9_gain 4 (some .int) 4 [.ref 0, .int a, .int b, .int t] (layM g h) (some (.int (if (((0) ≤ a ∧ a ≤ (1))) then (if (b = -1 ∨ ((0) ≤ b ∧ b ≤ ((6) * (g 1 (15 + 20 * a.toNatClampNeg + 0))) - (1))) then (if ((0) ≤ t ∧ t ≤ (63)) then gaI (g 1 (15 + 20 * a.toNatClampNeg + 0)) (g 1 (15 + 20 * a.toNatClampNeg + 1)) b t else (-100002)) else (-100002)) else (-100001)))) (layM g h) := by
  refine bCT_intro (tb := tb_X9_gain) (own := RX9) hE pn_X9 rfl tk_X9_gain rfl (Nat.le_of_ble_eq_true rfl) ?_
  intro p e s0 m args below meth c C hr
  refine bv_blk C frk_X9 csk_X9 1 1 rfl (L1 := ([(0, .ref 0), (1, .int a), (2, .int b), (3, .int t)] : Lc)) (st1 := ([.int a] : List Value)) (w1 := (layM g h)) (by rfl) ?_
  by_cases c1 : ((0) ≤ a ∧ a ≤ (1))
  · obtain ⟨s1, hs1, rfl⟩ := stat_of c1
    refine bv_fS1 C rfl (ct_isStation_t hE _ (nI s1) (stat_in hs1)) ml_X9_130 st_X9_isStation ini_X9 cd_X9_isStation ok_X9_isStation rfl ⟨Nat.le_of_ble_eq_true rfl, Nat.le_of_ble_eq_true rfl⟩ ⟨Nat.zero_le _, Nat.zero_le _⟩ (rest := ([] : List Value)) rfl (Nat.le_of_ble_eq_true rfl) ?_
    refine bv_if_ne (j := 5) C rfl rfl (fun _ => ?_) (fun h => absurd h (by decide))
    refine bv_blk C frk_X9 csk_X9 3 8 rfl (L1 := ([(0, .ref 0), (1, .int (nI s1)), (2, .int b), (3, .int t)] : Lc)) (st1 := ([.int b, .int (nI s1), .ref 0] : List Value)) (w1 := (layM g h)) (by rfl) ?_
    by_cases c3 : (b = -1 ∨ ((0) ≤ b ∧ b ≤ ((6) * (g 1 (15 + 20 * s1 + 0))) - (1)))
    · refine bv_fV1 C rfl (ct_mayUse_t hE _ _ s1 b (by omega) c3) ml_X9_291 im_X9_mayUse sel_X9_mayUse ini_X9 cd_X9_mayUse ok_X9_mayUse rfl ⟨Nat.le_of_ble_eq_true rfl, Nat.le_of_ble_eq_true rfl⟩ ⟨Nat.zero_le _, Nat.zero_le _⟩ (by decide) rfl rfl rfl (rest := ([] : List Value)) rfl (Nat.le_of_ble_eq_true rfl) ?_
      refine bv_if_eq (j := 22) C rfl rfl (fun h => absurd h (by decide)) (fun _ => ?_)
      refine bv_blk C frk_X9 csk_X9 4 14 rfl (L1 := ([(0, .ref 0), (1, .int (nI s1)), (2, .int b), (3, .int t)] : Lc)) (st1 := ([.long (63), .long (0), .long (Int32.toInt64 t)] : List Value)) (w1 := (layM g h)) (by rfl) ?_
      by_cases c5 : ((0) ≤ t ∧ t ≤ (63))
      · refine bv_fS1 C rfl (ct_in_t hE _ (x := t) (lo := (0)) (hi := (63)) c5) ml_X9_65 st_X9_in ini_X9 cd_X9_in ok_X9_in rfl ⟨Nat.le_of_ble_eq_true rfl, Nat.le_of_ble_eq_true rfl⟩ ⟨Nat.zero_le _, Nat.zero_le _⟩ (rest := ([] : List Value)) rfl (Nat.le_of_ble_eq_true rfl) ?_
        refine bv_if_eq (j := 22) C rfl rfl (fun h => absurd h (by decide)) (fun _ => ?_)
        refine bv_blk C frk_X9 csk_X9 4 20 rfl (L1 := ([(0, .ref 0), (1, .int (nI s1)), (2, .int b), (3, .int t)] : Lc)) (st1 := ([.int t, .int b, .int (nI s1), .ref 0] : List Value)) (w1 := (layM g h)) (by rfl) ?_
        refine bv_fV1 C rfl (ct_gainOf hE _ _ s1 b t (by omega) (st_ms hs hs1)) ml_X9_89 im_X9_gainOf sel_X9_gainOf ini_X9 cd_X9_gainOf ok_X9_gainOf rfl ⟨Nat.le_of_ble_eq_true rfl, Nat.le_of_ble_eq_true rfl⟩ ⟨Nat.zero_le _, Nat.zero_le _⟩ (by decide) rfl rfl rfl (rest := ([] : List Value)) rfl (Nat.le_of_ble_eq_true rfl) ?_
        refine bv_goto (j := 23) C rfl rfl ?_
        exact bv_iret C rfl hr rfl ⟨by (simp only [nI_clamp (show s1 < 2 ^ 31 by omega), c1, c3, c5, and_self, or_true, true_or, not_true, not_false_iff, if_true, if_false, ↓reduceIte]), by (rfl)⟩
      · refine bv_fS1 C rfl (ct_in_f hE _ (x := t) (lo := (0)) (hi := (63)) c5) ml_X9_65 st_X9_in ini_X9 cd_X9_in ok_X9_in rfl ⟨Nat.le_of_ble_eq_true rfl, Nat.le_of_ble_eq_true rfl⟩ ⟨Nat.zero_le _, Nat.zero_le _⟩ (rest := ([] : List Value)) rfl (Nat.le_of_ble_eq_true rfl) ?_
        refine bv_if_eq (j := 22) C rfl rfl (fun _ => ?_) (fun h => absurd h (by decide))
        refine bv_blk C frk_X9 csk_X9 1 23 rfl (L1 := ([(0, .ref 0), (1, .int (nI s1)), (2, .int b), (3, .int t)] : Lc)) (st1 := ([.int (-100002)] : List Value)) (w1 := (layM g h)) (by rfl) ?_
        exact bv_iret C rfl hr rfl ⟨by (simp only [nI_clamp (show s1 < 2 ^ 31 by omega), c1, c3, c5, and_self, or_true, true_or, not_true, not_false_iff, if_true, if_false, ↓reduceIte]), by (rfl)⟩
    · refine bv_fV1 C rfl (ct_mayUse_f hE _ _ s1 b (by omega) c3) ml_X9_291 im_X9_mayUse sel_X9_mayUse ini_X9 cd_X9_mayUse ok_X9_mayUse rfl ⟨Nat.le_of_ble_eq_true rfl, Nat.le_of_ble_eq_true rfl⟩ ⟨Nat.zero_le _, Nat.zero_le _⟩ (by decide) rfl rfl rfl (rest := ([] : List Value)) rfl (Nat.le_of_ble_eq_true rfl) ?_
      refine bv_if_eq (j := 22) C rfl rfl (fun _ => ?_) (fun h => absurd h (by decide))
      refine bv_blk C frk_X9 csk_X9 1 23 rfl (L1 := ([(0, .ref 0), (1, .int (nI s1)), (2, .int b), (3, .int t)] : Lc)) (st1 := ([.int (-100002)] : List Value)) (w1 := (layM g h)) (by rfl) ?_
      exact bv_iret C rfl hr rfl ⟨by (simp only [nI_clamp (show s1 < 2 ^ 31 by omega), c1, c3, and_self, or_true, true_or, not_true, not_false_iff, if_true, if_false, ↓reduceIte]), by (rfl)⟩
  · refine bv_fS1 C rfl (ct_isStation_f hE _ a c1) ml_X9_130 st_X9_isStation ini_X9 cd_X9_isStation ok_X9_isStation rfl ⟨Nat.le_of_ble_eq_true rfl, Nat.le_of_ble_eq_true rfl⟩ ⟨Nat.zero_le _, Nat.zero_le _⟩ (rest := ([] : List Value)) rfl (Nat.le_of_ble_eq_true rfl) ?_
    refine bv_if_ne (j := 5) C rfl rfl (fun h => absurd h (by decide)) (fun _ => ?_)
    refine bv_blk C frk_X9 csk_X9 1 4 rfl (L1 := ([(0, .ref 0), (1, .int a), (2, .int b), (3, .int t)] : Lc)) (st1 := ([.int (-100001)] : List Value)) (w1 := (layM g h)) (by rfl) ?_
    exact bv_iret C rfl hr rfl ⟨by (simp only [c1, and_self, or_true, true_or, not_true, not_false_iff, if_true, if_false, ↓reduceIte]), by (rfl)⟩
set_option maxRecDepth 100000 in
set_option maxHeartbeats 4000000 in
theorem ct_quality {l : Launch} {D : va_G} {cA : FieldType → ClassId} {z0 : Nat} {SK SV : Nat → Nat} {ad : Nat → Nat} (hE : aD (fun q => z0 ≤ q) ad 9) (g : Nat → Nat → Int32) (h : Int64) (n : Nat) (a b t : Int32) (hs : statR g n) : bF l D cA z0 SK SV ad shM 9 yX9_quality cX9_quality 4 (some .int) 6 [.ref 0, .int a, .int b, .int t] (layM g h) (some (.int (if (((0) ≤ a ∧ a ≤ (1))) then (if (b = -1 ∨ ((0) ≤ b ∧ b ≤ ((6) * (g 1 15)) - (1))) then (if (t = -1 ∨ ((0) ≤ t ∧ t ≤ ((6) * (g 1 35)) - (1))) then quaG g a.toNatClampNeg b t n else (-100002)) else (-100002)) else (-100001)))) (layM g h) := by
  refine bCT_intro (tb := tb_X9_quality) (own := RX9) hE pn_X9 rfl tk_X9_quality rfl (Nat.le_of_ble_eq_true rfl) ?_
  intro p e s0 m args below meth c C hr
  refine bv_blk C frk_X9 csk_X9 1 1 rfl (L1 := ([(0, .ref 0), (1, .int a), (2, .int b), (3, .int t)] : Lc)) (st1 := ([.int a] : List Value)) (w1 := (layM g h)) (by rfl) ?_
  by_cases c1 : ((0) ≤ a ∧ a ≤ (1))
  · obtain ⟨s1, hs1, rfl⟩ := stat_of c1
    refine bv_fS1 C rfl (ct_isStation_t hE _ (nI s1) (stat_in hs1)) ml_X9_130 st_X9_isStation ini_X9 cd_X9_isStation ok_X9_isStation rfl ⟨Nat.le_of_ble_eq_true rfl, Nat.le_of_ble_eq_true rfl⟩ ⟨Nat.zero_le _, Nat.zero_le _⟩ (rest := ([] : List Value)) rfl (Nat.le_of_ble_eq_true rfl) ?_
    refine bv_if_ne (j := 5) C rfl rfl (fun _ => ?_) (fun h => absurd h (by decide))
    refine bv_blk C frk_X9 csk_X9 3 8 rfl (L1 := ([(0, .ref 0), (1, .int (nI s1)), (2, .int b), (3, .int t)] : Lc)) (st1 := ([.int b, .int (0), .ref 0] : List Value)) (w1 := (layM g h)) (by rfl) ?_
    by_cases c3 : (b = -1 ∨ ((0) ≤ b ∧ b ≤ ((6) * (g 1 15)) - (1)))
    · refine bv_fV1 C rfl (ct_mayUse_t hE _ _ 0 b (by omega) c3) ml_X9_291 im_X9_mayUse sel_X9_mayUse ini_X9 cd_X9_mayUse ok_X9_mayUse rfl ⟨Nat.le_of_ble_eq_true rfl, Nat.le_of_ble_eq_true rfl⟩ ⟨Nat.zero_le _, Nat.zero_le _⟩ (by decide) rfl rfl rfl (rest := ([] : List Value)) rfl (Nat.le_of_ble_eq_true rfl) ?_
      refine bv_if_eq (j := 21) C rfl rfl (fun h => absurd h (by decide)) (fun _ => ?_)
      refine bv_blk C frk_X9 csk_X9 3 13 rfl (L1 := ([(0, .ref 0), (1, .int (nI s1)), (2, .int b), (3, .int t)] : Lc)) (st1 := ([.int t, .int (1), .ref 0] : List Value)) (w1 := (layM g h)) (by rfl) ?_
      by_cases c5 : (t = -1 ∨ ((0) ≤ t ∧ t ≤ ((6) * (g 1 35)) - (1)))
      · refine bv_fV1 C rfl (ct_mayUse_t hE _ _ 1 t (by omega) c5) ml_X9_291 im_X9_mayUse sel_X9_mayUse ini_X9 cd_X9_mayUse ok_X9_mayUse rfl ⟨Nat.le_of_ble_eq_true rfl, Nat.le_of_ble_eq_true rfl⟩ ⟨Nat.zero_le _, Nat.zero_le _⟩ (by decide) rfl rfl rfl (rest := ([] : List Value)) rfl (Nat.le_of_ble_eq_true rfl) ?_
        refine bv_if_eq (j := 21) C rfl rfl (fun h => absurd h (by decide)) (fun _ => ?_)
        refine bv_blk C frk_X9 csk_X9 4 19 rfl (L1 := ([(0, .ref 0), (1, .int (nI s1)), (2, .int b), (3, .int t)] : Lc)) (st1 := ([.int t, .int b, .int (nI s1), .ref 0] : List Value)) (w1 := (layM g h)) (by rfl) ?_
        refine bv_fV1 C rfl (ct_qualityOf hE _ _ s1 n b t (by omega) (okQ_of hs s1 hs1 _ _)) ml_X9_106 im_X9_qualityOf sel_X9_qualityOf ini_X9 cd_X9_qualityOf ok_X9_qualityOf rfl ⟨Nat.le_of_ble_eq_true rfl, Nat.le_of_ble_eq_true rfl⟩ ⟨Nat.zero_le _, Nat.zero_le _⟩ (by decide) rfl rfl rfl (rest := ([] : List Value)) rfl (Nat.le_of_ble_eq_true rfl) ?_
        refine bv_goto (j := 22) C rfl rfl ?_
        exact bv_iret C rfl hr rfl ⟨by (simp only [nI_clamp (show s1 < 2 ^ 31 by omega), c1, c3, c5, and_self, or_true, true_or, not_true, not_false_iff, if_true, if_false, ↓reduceIte]), by (rfl)⟩
      · refine bv_fV1 C rfl (ct_mayUse_f hE _ _ 1 t (by omega) c5) ml_X9_291 im_X9_mayUse sel_X9_mayUse ini_X9 cd_X9_mayUse ok_X9_mayUse rfl ⟨Nat.le_of_ble_eq_true rfl, Nat.le_of_ble_eq_true rfl⟩ ⟨Nat.zero_le _, Nat.zero_le _⟩ (by decide) rfl rfl rfl (rest := ([] : List Value)) rfl (Nat.le_of_ble_eq_true rfl) ?_
        refine bv_if_eq (j := 21) C rfl rfl (fun _ => ?_) (fun h => absurd h (by decide))
        refine bv_blk C frk_X9 csk_X9 1 22 rfl (L1 := ([(0, .ref 0), (1, .int (nI s1)), (2, .int b), (3, .int t)] : Lc)) (st1 := ([.int (-100002)] : List Value)) (w1 := (layM g h)) (by rfl) ?_
        exact bv_iret C rfl hr rfl ⟨by (simp only [nI_clamp (show s1 < 2 ^ 31 by omega), c1, c3, c5, and_self, or_true, true_or, not_true, not_false_iff, if_true, if_false, ↓reduceIte]), by (rfl)⟩
    · refine bv_fV1 C rfl (ct_mayUse_f hE _ _ 0 b (by omega) c3) ml_X9_291 im_X9_mayUse sel_X9_mayUse ini_X9 cd_X9_mayUse ok_X9_mayUse rfl ⟨Nat.le_of_ble_eq_true rfl, Nat.le_of_ble_eq_true rfl⟩ ⟨Nat.zero_le _, Nat.zero_le _⟩ (by decide) rfl rfl rfl (rest := ([] : List Value)) rfl (Nat.le_of_ble_eq_true rfl) ?_
      refine bv_if_eq (j := 21) C rfl rfl (fun _ => ?_) (fun h => absurd h (by decide))
      refine bv_blk C frk_X9 csk_X9 1 22 rfl (L1 := ([(0, .ref 0), (1, .int (nI s1)), (2, .int b), (3, .int t)] : Lc)) (st1 := ([.int (-100002)] : List Value)) (w1 := (layM g h)) (by rfl) ?_
      exact bv_iret C rfl hr rfl ⟨by (simp only [nI_clamp (show s1 < 2 ^ 31 by omega), c1, c3, and_self, or_true, true_or, not_true, not_false_iff, if_true, if_false, ↓reduceIte]), by (rfl)⟩
  · refine bv_fS1 C rfl (ct_isStation_f hE _ a c1) ml_X9_130 st_X9_isStation ini_X9 cd_X9_isStation ok_X9_isStation rfl ⟨Nat.le_of_ble_eq_true rfl, Nat.le_of_ble_eq_true rfl⟩ ⟨Nat.zero_le _, Nat.zero_le _⟩ (rest := ([] : List Value)) rfl (Nat.le_of_ble_eq_true rfl) ?_
    refine bv_if_ne (j := 5) C rfl rfl (fun h => absurd h (by decide)) (fun _ => ?_)
    refine bv_blk C frk_X9 csk_X9 1 4 rfl (L1 := ([(0, .ref 0), (1, .int a), (2, .int b), (3, .int t)] : Lc)) (st1 := ([.int (-100001)] : List Value)) (w1 := (layM g h)) (by rfl) ?_
    exact bv_iret C rfl hr rfl ⟨by (simp only [c1, and_self, or_true, true_or, not_true, not_false_iff, if_true, if_false, ↓reduceIte]), by (rfl)⟩
set_option maxRecDepth 100000 in
set_option maxHeartbeats 4000000 in
theorem ct_pathDirection {l : Launch} {D : va_G} {cA : FieldType → ClassId} {z0 : Nat} {SK SV : Nat → Nat} {ad : Nat → Nat} (hE : aD (fun q => z0 ≤ q) ad 9) (g : Nat → Nat → Int32) (h : Int64) (n : Nat) (a b : Int32) (hs : statR g n) : bF l D cA z0 SK SV ad shM 9 yX9_pathDirection cX9_pathDirection 3 (some .int) 2 [.ref 0, .int a, .int b] (layM g h) (some (.int (if ((0) ≤ a ∧ a ≤ (g 1 12) - (1)) then (if ((0) ≤ b ∧ b ≤ (1)) then g 1 (55 + 6 * a.toNatClampNeg + b.toNatClampNeg) else (-100001)) else (-100001)))) (layM g h) := by
  refine bCT_intro (tb := tb_X9_pathDirection) (own := RX9) hE pn_X9 rfl tk_X9_pathDirection rfl (Nat.le_of_ble_eq_true rfl) ?_
  intro p e s0 m args below meth c C hr
  have hn8 := hs.2.1
  refine bv_blk C frk_X9 csk_X9 2 2 rfl (L1 := ([(0, .ref 0), (1, .int a), (2, .int b)] : Lc)) (st1 := ([.int a, .ref 0] : List Value)) (w1 := (layM g h)) (by rfl) ?_
  by_cases c1 : ((0) ≤ a ∧ a ≤ (g 1 12) - (1))
  · obtain ⟨q1, hq1, rfl⟩ := path_of hs.1 (by omega) c1
    refine bv_fV1 C rfl (ct_isPath_t hE _ _ (nI q1) c1) ml_X9_268 im_X9_isPath sel_X9_isPath ini_X9 cd_X9_isPath ok_X9_isPath rfl ⟨Nat.le_of_ble_eq_true rfl, Nat.le_of_ble_eq_true rfl⟩ ⟨Nat.zero_le _, Nat.zero_le _⟩ (by decide) rfl rfl rfl (rest := ([] : List Value)) rfl (Nat.le_of_ble_eq_true rfl) ?_
    refine bv_if_eq (j := 12) C rfl rfl (fun h => absurd h (by decide)) (fun _ => ?_)
    refine bv_blk C frk_X9 csk_X9 1 5 rfl (L1 := ([(0, .ref 0), (1, .int (nI q1)), (2, .int b)] : Lc)) (st1 := ([.int b] : List Value)) (w1 := (layM g h)) (by rfl) ?_
    by_cases c3 : ((0) ≤ b ∧ b ≤ (1))
    · obtain ⟨s1, hs1, rfl⟩ := stat_of c3
      refine bv_fS1 C rfl (ct_isStation_t hE _ (nI s1) (stat_in hs1)) ml_X9_130 st_X9_isStation ini_X9 cd_X9_isStation ok_X9_isStation rfl ⟨Nat.le_of_ble_eq_true rfl, Nat.le_of_ble_eq_true rfl⟩ ⟨Nat.zero_le _, Nat.zero_le _⟩ (rest := ([] : List Value)) rfl (Nat.le_of_ble_eq_true rfl) ?_
      refine bv_if_eq (j := 12) C rfl rfl (fun h => absurd h (by decide)) (fun _ => ?_)
      refine bv_blk C frk_X9 csk_X9 3 10 rfl (L1 := ([(0, .ref 0), (1, .int (nI q1)), (2, .int (nI s1))] : Lc)) (st1 := ([.int (nI s1), .int (nI q1), .ref 0] : List Value)) (w1 := (layM g h)) (by rfl) ?_
      refine bv_fV1 C rfl (ct_ofPath hE _ _ q1 s1 (by omega) (by omega)) ml_X9_86 im_X9_ofPath sel_X9_ofPath ini_X9 cd_X9_ofPath ok_X9_ofPath rfl ⟨Nat.le_of_ble_eq_true rfl, Nat.le_of_ble_eq_true rfl⟩ ⟨Nat.zero_le _, Nat.zero_le _⟩ (by decide) rfl rfl rfl (rest := ([] : List Value)) rfl (Nat.le_of_ble_eq_true rfl) ?_
      refine bv_goto (j := 13) C rfl rfl ?_
      exact bv_iret C rfl hr rfl ⟨by (simp only [nI_clamp (show q1 < 2 ^ 31 by omega), nI_clamp (show s1 < 2 ^ 31 by omega), c1, c3, and_self, or_true, true_or, not_true, not_false_iff, if_true, if_false, ↓reduceIte]), by (rfl)⟩
    · refine bv_fS1 C rfl (ct_isStation_f hE _ b c3) ml_X9_130 st_X9_isStation ini_X9 cd_X9_isStation ok_X9_isStation rfl ⟨Nat.le_of_ble_eq_true rfl, Nat.le_of_ble_eq_true rfl⟩ ⟨Nat.zero_le _, Nat.zero_le _⟩ (rest := ([] : List Value)) rfl (Nat.le_of_ble_eq_true rfl) ?_
      refine bv_if_eq (j := 12) C rfl rfl (fun _ => ?_) (fun h => absurd h (by decide))
      refine bv_blk C frk_X9 csk_X9 1 13 rfl (L1 := ([(0, .ref 0), (1, .int (nI q1)), (2, .int b)] : Lc)) (st1 := ([.int (-100001)] : List Value)) (w1 := (layM g h)) (by rfl) ?_
      exact bv_iret C rfl hr rfl ⟨by (simp only [nI_clamp (show q1 < 2 ^ 31 by omega), c1, c3, and_self, or_true, true_or, not_true, not_false_iff, if_true, if_false, ↓reduceIte]), by (rfl)⟩
  · refine bv_fV1 C rfl (ct_isPath_f hE _ _ a c1) ml_X9_268 im_X9_isPath sel_X9_isPath ini_X9 cd_X9_isPath ok_X9_isPath rfl ⟨Nat.le_of_ble_eq_true rfl, Nat.le_of_ble_eq_true rfl⟩ ⟨Nat.zero_le _, Nat.zero_le _⟩ (by decide) rfl rfl rfl (rest := ([] : List Value)) rfl (Nat.le_of_ble_eq_true rfl) ?_
    refine bv_if_eq (j := 12) C rfl rfl (fun _ => ?_) (fun h => absurd h (by decide))
    refine bv_blk C frk_X9 csk_X9 1 13 rfl (L1 := ([(0, .ref 0), (1, .int a), (2, .int b)] : Lc)) (st1 := ([.int (-100001)] : List Value)) (w1 := (layM g h)) (by rfl) ?_
    exact bv_iret C rfl hr rfl ⟨by (simp only [c1, and_self, or_true, true_or, not_true, not_false_iff, if_true, if_false, ↓reduceIte]), by (rfl)⟩
set_option maxRecDepth 100000 in
set_option maxHeartbeats 4000000 in
theorem ct_becomes {l : Launch} {D : va_G} {cA : FieldType → ClassId} {z0 : Nat} {SK SV : Nat → Nat} {ad : Nat → Nat} (hE : aD (fun q => z0 ≤ q) ad 9) (g : Nat → Nat → Int32) (h : Int64) (k : Nat) (x : Int32) (hv : svK g) (hk : k < 172) : bF l D cA z0 SK SV ad shM 9 yX9_becomes cX9_becomes 4 (some .int) 2 [.ref 0, .int (nI k), .int x] (layM g h) (some (.int ((svG g) 1 k))) (layM (ug (svG g) 1 k x) h) := by
  refine bCT_intro (tb := tb_X9_becomes) (own := RX9) hE pn_X9 rfl tk_X9_becomes rfl (Nat.le_of_ble_eq_true rfl) ?_
  intro p e s0 m args below meth c C hr
  refine bv_blk C frk_X9 csk_X9 1 1 rfl (L1 := ([(0, .ref 0), (1, .int (nI k)), (2, .int x)] : Lc)) (st1 := ([.ref 0] : List Value)) (w1 := (layM g h)) (by rfl) ?_
  refine bv_fV0 C rfl (ct_savesA hE g _ hv) ml_X9_134 im_X9_saves sel_X9_saves ini_X9 cd_X9_saves ok_X9_saves rfl ⟨Nat.le_of_ble_eq_true rfl, Nat.le_of_ble_eq_true rfl⟩ ⟨Nat.zero_le _, Nat.zero_le _⟩ (by decide) rfl rfl rfl (rest := ([] : List Value)) rfl (Nat.le_of_ble_eq_true rfl) ?_
  refine bv_blk C frk_X9 csk_X9 3 5 rfl (L1 := ([(0, .ref 0), (1, .int (nI k)), (2, .int x)] : Lc)) (st1 := ([.int (nI k), .ref 1] : List Value)) (w1 := (layM (svG g) h)) (by rfl) ?_
  refine bv_iald C rfl rfl (by decide) (j := k) (by exact rfl) (by first | decide | omega) (by decide) (y := ((svG g) 1 k)) (by rfl) ?_
  refine bv_blk C frk_X9 csk_X9 5 11 rfl (L1 := ([(3, .int ((svG g) 1 k)), (0, .ref 0), (1, .int (nI k)), (2, .int x)] : Lc)) (st1 := ([.int x, .int (nI k), .ref 1] : List Value)) (w1 := (layM (svG g) h)) (by rfl) ?_
  refine bv_iast C rfl rfl (by decide) (j := k) (by exact rfl) (by first | decide | omega) (by decide) ?_
  rw [lm_up rfl]
  refine bv_blk C frk_X9 csk_X9 1 13 rfl (L1 := ([(3, .int ((svG g) 1 k)), (0, .ref 0), (1, .int (nI k)), (2, .int x)] : Lc)) (st1 := ([.int ((svG g) 1 k)] : List Value)) (w1 := (layM (ug (svG g) 1 k x) h)) (by rfl) ?_
  exact bv_iret C rfl hr rfl ⟨by (rfl), by (rfl)⟩
set_option maxRecDepth 100000 in
set_option maxHeartbeats 4000000 in
theorem ct_setThreshold {l : Launch} {D : va_G} {cA : FieldType → ClassId} {z0 : Nat} {SK SV : Nat → Nat} {ad : Nat → Nat} (hE : aD (fun q => z0 ≤ q) ad 9) (g : Nat → Nat → Int32) (h : Int64) (x : Int32) (hv : svK g) : bF l D cA z0 SK SV ad shM 9 yX9_setThreshold cX9_setThreshold 2 (some .int) 3 [.ref 0, .int x] (layM g h) (some (.int (if ((-200) ≤ x ∧ x ≤ (200)) then svG g 1 6 else (-100002)))) (layM (if ((-200) ≤ x ∧ x ≤ (200)) then ug (svG g) 1 6 x else g) h) := by
  refine bCT_intro (tb := tb_X9_setThreshold) (own := RX9) hE pn_X9 rfl tk_X9_setThreshold rfl (Nat.le_of_ble_eq_true rfl) ?_
  intro p e s0 m args below meth c C hr
  refine bv_blk C frk_X9 csk_X9 4 4 rfl (L1 := ([(0, .ref 0), (1, .int x)] : Lc)) (st1 := ([.long (200), .long (-200), .long (Int32.toInt64 x)] : List Value)) (w1 := (layM g h)) (by rfl) ?_
  by_cases c1 : ((-200) ≤ x ∧ x ≤ (200))
  · refine bv_fS1 C rfl (ct_in_t hE _ (x := x) (lo := (-200)) (hi := (200)) c1) ml_X9_65 st_X9_in ini_X9 cd_X9_in ok_X9_in rfl ⟨Nat.le_of_ble_eq_true rfl, Nat.le_of_ble_eq_true rfl⟩ ⟨Nat.zero_le _, Nat.zero_le _⟩ (rest := ([] : List Value)) rfl (Nat.le_of_ble_eq_true rfl) ?_
    refine bv_if_eq (j := 11) C rfl rfl (fun h => absurd h (by decide)) (fun _ => ?_)
    refine bv_blk C frk_X9 csk_X9 3 9 rfl (L1 := ([(0, .ref 0), (1, .int x)] : Lc)) (st1 := ([.int x, .int (6), .ref 0] : List Value)) (w1 := (layM g h)) (by rfl) ?_
    refine bv_fV1 C rfl (ct_becomes hE g _ 6 x hv (by omega)) ml_X9_279 im_X9_becomes sel_X9_becomes ini_X9 cd_X9_becomes ok_X9_becomes rfl ⟨Nat.le_of_ble_eq_true rfl, Nat.le_of_ble_eq_true rfl⟩ ⟨Nat.zero_le _, Nat.zero_le _⟩ (by decide) rfl rfl rfl (rest := ([] : List Value)) rfl (Nat.le_of_ble_eq_true rfl) ?_
    refine bv_goto (j := 12) C rfl rfl ?_
    exact bv_iret C rfl hr rfl ⟨by (simp only [c1, and_self, or_true, true_or, not_true, not_false_iff, if_true, if_false, ↓reduceIte]), by (simp only [c1, and_self, or_true, true_or, not_true, not_false_iff, if_true, if_false, ↓reduceIte])⟩
  · refine bv_fS1 C rfl (ct_in_f hE _ (x := x) (lo := (-200)) (hi := (200)) c1) ml_X9_65 st_X9_in ini_X9 cd_X9_in ok_X9_in rfl ⟨Nat.le_of_ble_eq_true rfl, Nat.le_of_ble_eq_true rfl⟩ ⟨Nat.zero_le _, Nat.zero_le _⟩ (rest := ([] : List Value)) rfl (Nat.le_of_ble_eq_true rfl) ?_
    refine bv_if_eq (j := 11) C rfl rfl (fun _ => ?_) (fun h => absurd h (by decide))
    refine bv_blk C frk_X9 csk_X9 1 12 rfl (L1 := ([(0, .ref 0), (1, .int x)] : Lc)) (st1 := ([.int (-100002)] : List Value)) (w1 := (layM g h)) (by rfl) ?_
    exact bv_iret C rfl hr rfl ⟨by (simp only [c1, and_self, or_true, true_or, not_true, not_false_iff, if_true, if_false, ↓reduceIte]), by (simp only [c1, and_self, or_true, true_or, not_true, not_false_iff, if_true, if_false, ↓reduceIte])⟩
set_option maxRecDepth 100000 in
set_option maxHeartbeats 4000000 in
theorem ct_setFade {l : Launch} {D : va_G} {cA : FieldType → ClassId} {z0 : Nat} {SK SV : Nat → Nat} {ad : Nat → Nat} (hE : aD (fun q => z0 ≤ q) ad 9) (g : Nat → Nat → Int32) (h : Int64) (x y : Int32) (hv : svK g) : bF l D cA z0 SK SV ad shM 9 yX9_setFade cX9_setFade 4 (some .int) 3 [.ref 0, .int x, .int y] (layM g h) (some (.int (if ((0) ≤ x ∧ x ≤ (60)) then svG g 1 7 else (-100002)))) (layM (if ((0) ≤ x ∧ x ≤ (60)) then ug (ug (svG g) 1 7 x) 1 5 y else g) h) := by
  refine bCT_intro (tb := tb_X9_setFade) (own := RX9) hE pn_X9 rfl tk_X9_setFade rfl (Nat.le_of_ble_eq_true rfl) ?_
  intro p e s0 m args below meth c C hr
  refine bv_blk C frk_X9 csk_X9 4 4 rfl (L1 := ([(0, .ref 0), (1, .int x), (2, .int y)] : Lc)) (st1 := ([.long (60), .long (0), .long (Int32.toInt64 x)] : List Value)) (w1 := (layM g h)) (by rfl) ?_
  by_cases c1 : ((0) ≤ x ∧ x ≤ (60))
  · refine bv_fS1 C rfl (ct_in_t hE _ (x := x) (lo := (0)) (hi := (60)) c1) ml_X9_65 st_X9_in ini_X9 cd_X9_in ok_X9_in rfl ⟨Nat.le_of_ble_eq_true rfl, Nat.le_of_ble_eq_true rfl⟩ ⟨Nat.zero_le _, Nat.zero_le _⟩ (rest := ([] : List Value)) rfl (Nat.le_of_ble_eq_true rfl) ?_
    refine bv_if_ne (j := 8) C rfl rfl (fun _ => ?_) (fun h => absurd h (by decide))
    refine bv_blk C frk_X9 csk_X9 3 11 rfl (L1 := ([(0, .ref 0), (1, .int x), (2, .int y)] : Lc)) (st1 := ([.int x, .int (7), .ref 0] : List Value)) (w1 := (layM g h)) (by rfl) ?_
    refine bv_fV1 C rfl (ct_becomes hE g _ 7 x hv (by omega)) ml_X9_279 im_X9_becomes sel_X9_becomes ini_X9 cd_X9_becomes ok_X9_becomes rfl ⟨Nat.le_of_ble_eq_true rfl, Nat.le_of_ble_eq_true rfl⟩ ⟨Nat.zero_le _, Nat.zero_le _⟩ (by decide) rfl rfl rfl (rest := ([] : List Value)) rfl (Nat.le_of_ble_eq_true rfl) ?_
    refine bv_blk C frk_X9 csk_X9 5 17 rfl (L1 := ([(3, .int ((svG g) 1 7)), (0, .ref 0), (1, .int x), (2, .int y)] : Lc)) (st1 := ([.int y, .int (5), .ref 1] : List Value)) (w1 := (layM (ug (svG g) 1 7 x) h)) (by rfl) ?_
    refine bv_iast C rfl rfl (by decide) (j := 5) (by exact rfl) (by first | decide | omega) (by decide) ?_
    rw [lm_up rfl]
    refine bv_blk C frk_X9 csk_X9 1 19 rfl (L1 := ([(3, .int ((svG g) 1 7)), (0, .ref 0), (1, .int x), (2, .int y)] : Lc)) (st1 := ([.int ((svG g) 1 7)] : List Value)) (w1 := (layM (ug (ug (svG g) 1 7 x) 1 5 y) h)) (by rfl) ?_
    exact bv_iret C rfl hr rfl ⟨by (simp only [c1, and_self, or_true, true_or, not_true, not_false_iff, if_true, if_false, ↓reduceIte]), by (simp only [c1, and_self, or_true, true_or, not_true, not_false_iff, if_true, if_false, ↓reduceIte])⟩
  · refine bv_fS1 C rfl (ct_in_f hE _ (x := x) (lo := (0)) (hi := (60)) c1) ml_X9_65 st_X9_in ini_X9 cd_X9_in ok_X9_in rfl ⟨Nat.le_of_ble_eq_true rfl, Nat.le_of_ble_eq_true rfl⟩ ⟨Nat.zero_le _, Nat.zero_le _⟩ (rest := ([] : List Value)) rfl (Nat.le_of_ble_eq_true rfl) ?_
    refine bv_if_ne (j := 8) C rfl rfl (fun h => absurd h (by decide)) (fun _ => ?_)
    refine bv_blk C frk_X9 csk_X9 1 7 rfl (L1 := ([(0, .ref 0), (1, .int x), (2, .int y)] : Lc)) (st1 := ([.int (-100002)] : List Value)) (w1 := (layM g h)) (by rfl) ?_
    exact bv_iret C rfl hr rfl ⟨by (simp only [c1, and_self, or_true, true_or, not_true, not_false_iff, if_true, if_false, ↓reduceIte]), by (simp only [c1, and_self, or_true, true_or, not_true, not_false_iff, if_true, if_false, ↓reduceIte])⟩
