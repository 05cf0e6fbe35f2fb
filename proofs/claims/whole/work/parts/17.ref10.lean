def bkK (g : Nat → Nat → Int32) : Prop := ∃ b : Nat, g 1 13 = nI b ∧ b ≤ 3
theorem bkK_at {g g' : Nat → Nat → Int32} (h : bkK g) (e : g' 1 13 = g 1 13) : bkK g' := by
  obtain ⟨E, h1, h2⟩ := h
  exact ⟨E, e.trans h1, h2⟩
theorem ct_recoversA {l : Launch} {D : va_G} {cA : FieldType → ClassId} {z0 : Nat} {SK SV : Nat → Nat} {ad : Nat → Nat} (hE : aD (fun q => z0 ≤ q) ad 9) (g : Nat → Nat → Int32) (h : Int64) (n : Nat) (hs : statR g n) (hev : evK g) (hB : bkK g) : bF l D cA z0 SK SV ad shM 9 yX9_recovers cX9_recovers 3 none 7 [.ref 0] (layM g h) none (layM (rcF n (g 1 13).toNatClampNeg 0 (ug g 1 1 0)) h) := by
  obtain ⟨b, h1, h2⟩ := hB
  rw [h1, nI_clamp (by omega)]
  exact ct_recovers hE g h n b hs hev h1 h2
theorem evK_nte {g : Nat → Nat → Int32} {kd v : Int32} (h : evK g) : evK (nteG g kd v) := by
  obtain ⟨E, h1, h2⟩ := h
  have q : ∀ (gg : Nat → Nat → Int32) (e : Nat), gg 1 14 = nI e → e < 20 → evK (nte1 gg e kd v) := fun gg e h3 h4 => by
    refine ⟨e + 1, ?_, by omega⟩
    unfold nte1
    rw [ug_same, ug_ne (by omega), ug_ne (by omega), ug_ne (by omega), h3, nI_1]
  unfold nteG
  split
  · exact q _ 19 (by rw [ug_same]; rfl) (by omega)
  · next h3 =>
    rw [h1, nI_clamp (by omega)]
    refine q g E h1 ?_
    rcases Nat.lt_or_ge E 20 with h4 | h4
    · exact h4
    · exact absurd (by rw [h1, show E = 20 by omega]; rfl) h3
def tk1 (n : Nat) (g : Nat → Nat → Int32) : Nat → Nat → Int32 := sntG g 0 (g 1 18) (g 1 38) 2 n
def tk2 (n : Nat) (g : Nat → Nat → Int32) : Nat → Nat → Int32 := sntG (tk1 n g) 1 (tk1 n g 1 18) (tk1 n g 1 38) 2 n
def tka (n : Nat) (g : Nat → Nat → Int32) : Bool := hrdG g 0 (g 1 18) (g 1 38) n
def tkb (n : Nat) (g : Nat → Nat → Int32) : Bool := hrdG (tk1 n g) 1 (tk1 n g 1 18) (tk1 n g 1 38) n
def tkR (n : Nat) (g : Nat → Nat → Int32) : Nat → Nat → Int32 := if tk2 n g 1 1 + 1 < tk2 n g 1 10 then ug (tk2 n g) 1 1 (tk2 n g 1 1 + 1) else rcF n ((ug (tk2 n g) 1 1 (tk2 n g 1 1 + 1)) 1 13).toNatClampNeg 0 (ug (ug (tk2 n g) 1 1 (tk2 n g 1 1 + 1)) 1 1 0)
def tlkG (n : Nat) (g : Nat → Nat → Int32) : Nat → Nat → Int32 := if tka n g = true ∧ tkb n g = true then ug (tk2 n g) 1 1 0 else tkR n g
theorem kf_tk2 {n : Nat} {g : Nat → Nat → Int32} : keptF g (tk2 n g) := kf_snt (kf_snt (kf_rf g))
set_option maxRecDepth 100000 in
set_option maxHeartbeats 4000000 in
theorem ct_talks {l : Launch} {D : va_G} {cA : FieldType → ClassId} {z0 : Nat} {SK SV : Nat → Nat} {ad : Nat → Nat} (hE : aD (fun q => z0 ≤ q) ad 9) (g : Nat → Nat → Int32) (h : Int64) (n : Nat) (hs : statR g n) (hev : evK g) (hB : bkK g) : bF l D cA z0 SK SV ad shM 9 yX9_talks cX9_talks 3 none 8 [.ref 0] (layM g h) none (layM (tlkG n g) h) := by
  refine bCT_intro (tb := tb_X9_talks) (own := RX9) hE pn_X9 rfl tk_X9_talks rfl (Nat.le_of_ble_eq_true rfl) ?_
  intro p e s0 m args below meth c C hr
  refine bv_blk C frk_X9 csk_X9 5 5 rfl (L1 := ([(0, .ref 0)] : Lc)) (st1 := ([.int (3), .int (0), .ref 0, .int (0), .ref 0] : List Value)) (w1 := (layM g h)) (by rfl) ?_
  refine bv_fV1 C rfl (ct_of hE _ _ 0 3 (by omega) (by omega)) ml_X9_69 im_X9_of sel_X9_of ini_X9 cd_X9_of ok_X9_of rfl ⟨Nat.le_of_ble_eq_true rfl, Nat.le_of_ble_eq_true rfl⟩ ⟨Nat.zero_le _, Nat.zero_le _⟩ (by decide) rfl rfl rfl (rest := ([.int (0), .ref 0] : List Value)) rfl (Nat.le_of_ble_eq_true rfl) ?_
  refine bv_blk C frk_X9 csk_X9 3 9 rfl (L1 := ([(0, .ref 0)] : Lc)) (st1 := ([.int (3), .int (1), .ref 0, .int (g 1 18), .int (0), .ref 0] : List Value)) (w1 := (layM g h)) (by rfl) ?_
  refine bv_fV1 C rfl (ct_of hE _ _ 1 3 (by omega) (by omega)) ml_X9_69 im_X9_of sel_X9_of ini_X9 cd_X9_of ok_X9_of rfl ⟨Nat.le_of_ble_eq_true rfl, Nat.le_of_ble_eq_true rfl⟩ ⟨Nat.zero_le _, Nat.zero_le _⟩ (by decide) rfl rfl rfl (rest := ([.int (g 1 18), .int (0), .ref 0] : List Value)) rfl (Nat.le_of_ble_eq_true rfl) ?_
  refine bv_blk C frk_X9 csk_X9 1 11 rfl (L1 := ([(0, .ref 0)] : Lc)) (st1 := ([.int (2), .int (g 1 38), .int (g 1 18), .int (0), .ref 0] : List Value)) (w1 := (layM g h)) (by rfl) ?_
  refine bv_fV1 C rfl (ct_sends hE g _ 0 n (g 1 18) (g 1 38) (2) (by omega) (okQ_of hs 0 (by omega) _ _) (st_hA hs)) ml_X9_109 im_X9_sends sel_X9_sends ini_X9 cd_X9_sends ok_X9_sends rfl ⟨Nat.le_of_ble_eq_true rfl, Nat.le_of_ble_eq_true rfl⟩ ⟨Nat.zero_le _, Nat.zero_le _⟩ (by decide) rfl rfl rfl (rest := ([] : List Value)) rfl (Nat.le_of_ble_eq_true rfl) ?_
  obtain ⟨v1, ev1⟩ : ∃ x : Nat → Nat → Int32, x = (tk1 n g) := ⟨_, rfl⟩
  have kp_v1 : kept g v1 := by rw [ev1, show tk1 n g = sntG g 0 (g 1 18) (g 1 38) 2 n from rfl]; exact (kp_snt (kp_rf _))
  refine bv_weq (show (layM (sntG g 0 (g 1 18) (g 1 38) (2) n) h) = (layM v1 h) from by rw [ev1, show tk1 n g = sntG g 0 (g 1 18) (g 1 38) 2 n from rfl]) ?_
  refine bv_blk C frk_X9 csk_X9 6 18 rfl (L1 := ([(1, .int (b2i (hrdG g 0 (g 1 18) (g 1 38) n))), (0, .ref 0)] : Lc)) (st1 := ([.int (3), .int (0), .ref 0, .int (1), .ref 0] : List Value)) (w1 := (layM v1 h)) (by rfl) ?_
  refine bv_fV1 C rfl (ct_of hE _ _ 0 3 (by omega) (by omega)) ml_X9_69 im_X9_of sel_X9_of ini_X9 cd_X9_of ok_X9_of rfl ⟨Nat.le_of_ble_eq_true rfl, Nat.le_of_ble_eq_true rfl⟩ ⟨Nat.zero_le _, Nat.zero_le _⟩ (by decide) rfl rfl rfl (rest := ([.int (1), .ref 0] : List Value)) rfl (Nat.le_of_ble_eq_true rfl) ?_
  refine bv_blk C frk_X9 csk_X9 3 22 rfl (L1 := ([(1, .int (b2i (hrdG g 0 (g 1 18) (g 1 38) n))), (0, .ref 0)] : Lc)) (st1 := ([.int (3), .int (1), .ref 0, .int (v1 1 18), .int (1), .ref 0] : List Value)) (w1 := (layM v1 h)) (by rfl) ?_
  refine bv_fV1 C rfl (ct_of hE _ _ 1 3 (by omega) (by omega)) ml_X9_69 im_X9_of sel_X9_of ini_X9 cd_X9_of ok_X9_of rfl ⟨Nat.le_of_ble_eq_true rfl, Nat.le_of_ble_eq_true rfl⟩ ⟨Nat.zero_le _, Nat.zero_le _⟩ (by decide) rfl rfl rfl (rest := ([.int (v1 1 18), .int (1), .ref 0] : List Value)) rfl (Nat.le_of_ble_eq_true rfl) ?_
  refine bv_blk C frk_X9 csk_X9 1 24 rfl (L1 := ([(1, .int (b2i (hrdG g 0 (g 1 18) (g 1 38) n))), (0, .ref 0)] : Lc)) (st1 := ([.int (2), .int (v1 1 38), .int (v1 1 18), .int (1), .ref 0] : List Value)) (w1 := (layM v1 h)) (by rfl) ?_
  refine bv_fV1 C rfl (ct_sends hE v1 _ 1 n (v1 1 18) (v1 1 38) (2) (by omega) (okQ_of (st_same kp_v1 hs) 1 (by omega) _ _) (st_hA (st_same kp_v1 hs))) ml_X9_109 im_X9_sends sel_X9_sends ini_X9 cd_X9_sends ok_X9_sends rfl ⟨Nat.le_of_ble_eq_true rfl, Nat.le_of_ble_eq_true rfl⟩ ⟨Nat.zero_le _, Nat.zero_le _⟩ (by decide) rfl rfl rfl (rest := ([] : List Value)) rfl (Nat.le_of_ble_eq_true rfl) ?_
  obtain ⟨v2, ev2⟩ : ∃ x : Nat → Nat → Int32, x = (tk2 n g) := ⟨_, rfl⟩
  have kp_v2 : kept g v2 := by rw [ev2, show tk2 n g = sntG (tk1 n g) 1 (tk1 n g 1 18) (tk1 n g 1 38) 2 n from rfl, ← ev1]; exact (kp_snt kp_v1)
  refine bv_weq (show (layM (sntG v1 1 (v1 1 18) (v1 1 38) (2) n) h) = (layM v2 h) from by rw [ev2, show tk2 n g = sntG (tk1 n g) 1 (tk1 n g 1 18) (tk1 n g 1 38) 2 n from rfl, ← ev1]) ?_
  refine bv_blk C frk_X9 csk_X9 5 30 rfl (L1 := ([(2, .int (b2i (hrdG v1 1 (v1 1 18) (v1 1 38) n))), (1, .int (b2i (hrdG g 0 (g 1 18) (g 1 38) n))), (0, .ref 0)] : Lc)) (st1 := ([.int (b2i (hrdG g 0 (g 1 18) (g 1 38) n)), .int (1), .ref 1] : List Value)) (w1 := (layM v2 h)) (by rfl) ?_
  refine bv_if_eq (j := 35) C rfl rfl (fun c1 => ?_) (fun c1 => ?_)
  · refine bv_blk C frk_X9 csk_X9 3 38 rfl (L1 := ([(2, .int (b2i (hrdG v1 1 (v1 1 18) (v1 1 38) n))), (1, .int (b2i (hrdG g 0 (g 1 18) (g 1 38) n))), (0, .ref 0)] : Lc)) (st1 := ([.int (1), .ref 1, .int (1), .ref 1] : List Value)) (w1 := (layM v2 h)) (by rfl) ?_
    refine bv_iald C rfl rfl (by decide) (j := 1) (by exact rfl) (by first | decide | omega) (by decide) (y := (v2 1 1)) (by rfl) ?_
    refine bv_blk C frk_X9 csk_X9 2 41 rfl (L1 := ([(2, .int (b2i (hrdG v1 1 (v1 1 18) (v1 1 38) n))), (1, .int (b2i (hrdG g 0 (g 1 18) (g 1 38) n))), (0, .ref 0)] : Lc)) (st1 := ([.int ((v2 1 1) + (1)), .int (1), .ref 1] : List Value)) (w1 := (layM v2 h)) (by rfl) ?_
    refine bv_iast C rfl rfl (by decide) (j := 1) (by exact rfl) (by first | decide | omega) (by decide) ?_
    rw [lm_up rfl]
    refine bv_blk C frk_X9 csk_X9 1 43 rfl (L1 := ([(2, .int (b2i (hrdG v1 1 (v1 1 18) (v1 1 38) n))), (1, .int (b2i (hrdG g 0 (g 1 18) (g 1 38) n))), (0, .ref 0)] : Lc)) (st1 := ([.int (b2i (hrdG g 0 (g 1 18) (g 1 38) n))] : List Value)) (w1 := (layM (ug v2 1 1 ((v2 1 1) + (1))) h)) (by rfl) ?_
    refine bv_if_eq (j := 46) C rfl rfl (fun _ => ?_) (fun h => absurd (c1) h)
    refine bv_blk C frk_X9 csk_X9 3 49 rfl (L1 := ([(2, .int (b2i (hrdG v1 1 (v1 1 18) (v1 1 38) n))), (1, .int (b2i (hrdG g 0 (g 1 18) (g 1 38) n))), (0, .ref 0)] : Lc)) (st1 := ([.int (1), .ref 1] : List Value)) (w1 := (layM (ug v2 1 1 ((v2 1 1) + (1))) h)) (by rfl) ?_
    refine bv_iald C rfl rfl (by decide) (j := 1) (by exact rfl) (by first | decide | omega) (by decide) (y := ((v2 1 1) + (1))) (by rfl) ?_
    refine bv_blk C frk_X9 csk_X9 3 53 rfl (L1 := ([(2, .int (b2i (hrdG v1 1 (v1 1 18) (v1 1 38) n))), (1, .int (b2i (hrdG g 0 (g 1 18) (g 1 38) n))), (0, .ref 0)] : Lc)) (st1 := ([.int (10), .ref 1, .int ((v2 1 1) + (1))] : List Value)) (w1 := (layM (ug v2 1 1 ((v2 1 1) + (1))) h)) (by rfl) ?_
    refine bv_iald C rfl rfl (by decide) (j := 10) (by exact rfl) (by first | decide | omega) (by decide) (y := (v2 1 10)) (by rfl) ?_
    refine bv_icmp_lt (j := 57) C rfl rfl (fun c3 => ?_) (fun c3 => ?_)
    · exact bv_vret C rfl hr ⟨by (rfl), by (subst ev1; subst ev2; unfold tlkG; rw [if_neg (show ¬ (tka n g = true ∧ tkb n g = true) from fun q => absurd ((show tka n g = false from b2i_0 c1).symm.trans q.1) Bool.noConfusion)]; unfold tkR; rw [if_pos c3]; try rfl)⟩
    · refine bv_blk C frk_X9 csk_X9 1 56 rfl (L1 := ([(2, .int (b2i (hrdG v1 1 (v1 1 18) (v1 1 38) n))), (1, .int (b2i (hrdG g 0 (g 1 18) (g 1 38) n))), (0, .ref 0)] : Lc)) (st1 := ([.ref 0] : List Value)) (w1 := (layM (ug v2 1 1 ((v2 1 1) + (1))) h)) (by rfl) ?_
      refine bv_fV0 C rfl (ct_recoversA hE (ug v2 1 1 ((v2 1 1) + (1))) _ n (st_same (kp_ug (i := 1) (k := 1) (x := ((v2 1 1) + (1))) (by omega) kp_v2) hs) (evK_at hev ((ug_ne (by omega)).trans (by rw [ev2]; exact kf_tk2 14 (by unfold frK; omega)))) (bkK_at hB ((ug_ne (by omega)).trans (by rw [ev2]; exact kf_tk2 13 (by unfold frK; omega))))) ml_X9_170 im_X9_recovers sel_X9_recovers ini_X9 cd_X9_recovers ok_X9_recovers rfl ⟨Nat.le_of_ble_eq_true rfl, Nat.le_of_ble_eq_true rfl⟩ ⟨Nat.zero_le _, Nat.zero_le _⟩ (by decide) rfl rfl rfl (rest := ([] : List Value)) rfl (Nat.le_of_ble_eq_true rfl) ?_
      exact bv_vret C rfl hr ⟨by (rfl), by (subst ev1; subst ev2; unfold tlkG; rw [if_neg (show ¬ (tka n g = true ∧ tkb n g = true) from fun q => absurd ((show tka n g = false from b2i_0 c1).symm.trans q.1) Bool.noConfusion)]; unfold tkR; rw [if_neg c3]; try rfl)⟩
  · refine bv_blk C frk_X9 csk_X9 1 32 rfl (L1 := ([(2, .int (b2i (hrdG v1 1 (v1 1 18) (v1 1 38) n))), (1, .int (b2i (hrdG g 0 (g 1 18) (g 1 38) n))), (0, .ref 0)] : Lc)) (st1 := ([.int (b2i (hrdG v1 1 (v1 1 18) (v1 1 38) n)), .int (1), .ref 1] : List Value)) (w1 := (layM v2 h)) (by rfl) ?_
    refine bv_if_eq (j := 35) C rfl rfl (fun c4 => ?_) (fun c4 => ?_)
    · refine bv_blk C frk_X9 csk_X9 3 38 rfl (L1 := ([(2, .int (b2i (hrdG v1 1 (v1 1 18) (v1 1 38) n))), (1, .int (b2i (hrdG g 0 (g 1 18) (g 1 38) n))), (0, .ref 0)] : Lc)) (st1 := ([.int (1), .ref 1, .int (1), .ref 1] : List Value)) (w1 := (layM v2 h)) (by rfl) ?_
      refine bv_iald C rfl rfl (by decide) (j := 1) (by exact rfl) (by first | decide | omega) (by decide) (y := (v2 1 1)) (by rfl) ?_
      refine bv_blk C frk_X9 csk_X9 2 41 rfl (L1 := ([(2, .int (b2i (hrdG v1 1 (v1 1 18) (v1 1 38) n))), (1, .int (b2i (hrdG g 0 (g 1 18) (g 1 38) n))), (0, .ref 0)] : Lc)) (st1 := ([.int ((v2 1 1) + (1)), .int (1), .ref 1] : List Value)) (w1 := (layM v2 h)) (by rfl) ?_
      refine bv_iast C rfl rfl (by decide) (j := 1) (by exact rfl) (by first | decide | omega) (by decide) ?_
      rw [lm_up rfl]
      refine bv_blk C frk_X9 csk_X9 1 43 rfl (L1 := ([(2, .int (b2i (hrdG v1 1 (v1 1 18) (v1 1 38) n))), (1, .int (b2i (hrdG g 0 (g 1 18) (g 1 38) n))), (0, .ref 0)] : Lc)) (st1 := ([.int (b2i (hrdG g 0 (g 1 18) (g 1 38) n))] : List Value)) (w1 := (layM (ug v2 1 1 ((v2 1 1) + (1))) h)) (by rfl) ?_
      refine bv_if_eq (j := 46) C rfl rfl (fun h => absurd h (c1)) (fun _ => ?_)
      refine bv_blk C frk_X9 csk_X9 1 45 rfl (L1 := ([(2, .int (b2i (hrdG v1 1 (v1 1 18) (v1 1 38) n))), (1, .int (b2i (hrdG g 0 (g 1 18) (g 1 38) n))), (0, .ref 0)] : Lc)) (st1 := ([.int (b2i (hrdG v1 1 (v1 1 18) (v1 1 38) n))] : List Value)) (w1 := (layM (ug v2 1 1 ((v2 1 1) + (1))) h)) (by rfl) ?_
      refine bv_if_ne (j := 57) C rfl rfl (fun h => absurd (c4) h) (fun _ => ?_)
      refine bv_blk C frk_X9 csk_X9 3 49 rfl (L1 := ([(2, .int (b2i (hrdG v1 1 (v1 1 18) (v1 1 38) n))), (1, .int (b2i (hrdG g 0 (g 1 18) (g 1 38) n))), (0, .ref 0)] : Lc)) (st1 := ([.int (1), .ref 1] : List Value)) (w1 := (layM (ug v2 1 1 ((v2 1 1) + (1))) h)) (by rfl) ?_
      refine bv_iald C rfl rfl (by decide) (j := 1) (by exact rfl) (by first | decide | omega) (by decide) (y := ((v2 1 1) + (1))) (by rfl) ?_
      refine bv_blk C frk_X9 csk_X9 3 53 rfl (L1 := ([(2, .int (b2i (hrdG v1 1 (v1 1 18) (v1 1 38) n))), (1, .int (b2i (hrdG g 0 (g 1 18) (g 1 38) n))), (0, .ref 0)] : Lc)) (st1 := ([.int (10), .ref 1, .int ((v2 1 1) + (1))] : List Value)) (w1 := (layM (ug v2 1 1 ((v2 1 1) + (1))) h)) (by rfl) ?_
      refine bv_iald C rfl rfl (by decide) (j := 10) (by exact rfl) (by first | decide | omega) (by decide) (y := (v2 1 10)) (by rfl) ?_
      refine bv_icmp_lt (j := 57) C rfl rfl (fun c7 => ?_) (fun c7 => ?_)
      · exact bv_vret C rfl hr ⟨by (rfl), by (subst ev1; subst ev2; unfold tlkG; rw [if_neg (show ¬ (tka n g = true ∧ tkb n g = true) from fun q => absurd ((show tkb n g = false from b2i_0 c4).symm.trans q.2) Bool.noConfusion)]; unfold tkR; rw [if_pos c7]; try rfl)⟩
      · refine bv_blk C frk_X9 csk_X9 1 56 rfl (L1 := ([(2, .int (b2i (hrdG v1 1 (v1 1 18) (v1 1 38) n))), (1, .int (b2i (hrdG g 0 (g 1 18) (g 1 38) n))), (0, .ref 0)] : Lc)) (st1 := ([.ref 0] : List Value)) (w1 := (layM (ug v2 1 1 ((v2 1 1) + (1))) h)) (by rfl) ?_
        refine bv_fV0 C rfl (ct_recoversA hE (ug v2 1 1 ((v2 1 1) + (1))) _ n (st_same (kp_ug (i := 1) (k := 1) (x := ((v2 1 1) + (1))) (by omega) kp_v2) hs) (evK_at hev ((ug_ne (by omega)).trans (by rw [ev2]; exact kf_tk2 14 (by unfold frK; omega)))) (bkK_at hB ((ug_ne (by omega)).trans (by rw [ev2]; exact kf_tk2 13 (by unfold frK; omega))))) ml_X9_170 im_X9_recovers sel_X9_recovers ini_X9 cd_X9_recovers ok_X9_recovers rfl ⟨Nat.le_of_ble_eq_true rfl, Nat.le_of_ble_eq_true rfl⟩ ⟨Nat.zero_le _, Nat.zero_le _⟩ (by decide) rfl rfl rfl (rest := ([] : List Value)) rfl (Nat.le_of_ble_eq_true rfl) ?_
        exact bv_vret C rfl hr ⟨by (rfl), by (subst ev1; subst ev2; unfold tlkG; rw [if_neg (show ¬ (tka n g = true ∧ tkb n g = true) from fun q => absurd ((show tkb n g = false from b2i_0 c4).symm.trans q.2) Bool.noConfusion)]; unfold tkR; rw [if_neg c7]; try rfl)⟩
    · refine bv_blk C frk_X9 csk_X9 1 34 rfl (L1 := ([(2, .int (b2i (hrdG v1 1 (v1 1 18) (v1 1 38) n))), (1, .int (b2i (hrdG g 0 (g 1 18) (g 1 38) n))), (0, .ref 0)] : Lc)) (st1 := ([.int (0), .int (1), .ref 1] : List Value)) (w1 := (layM v2 h)) (by rfl) ?_
      refine bv_goto (j := 41) C rfl rfl ?_
      refine bv_iast C rfl rfl (by decide) (j := 1) (by exact rfl) (by first | decide | omega) (by decide) ?_
      rw [lm_up rfl]
      refine bv_blk C frk_X9 csk_X9 1 43 rfl (L1 := ([(2, .int (b2i (hrdG v1 1 (v1 1 18) (v1 1 38) n))), (1, .int (b2i (hrdG g 0 (g 1 18) (g 1 38) n))), (0, .ref 0)] : Lc)) (st1 := ([.int (b2i (hrdG g 0 (g 1 18) (g 1 38) n))] : List Value)) (w1 := (layM (ug v2 1 1 (0)) h)) (by rfl) ?_
      refine bv_if_eq (j := 46) C rfl rfl (fun h => absurd h (c1)) (fun _ => ?_)
      refine bv_blk C frk_X9 csk_X9 1 45 rfl (L1 := ([(2, .int (b2i (hrdG v1 1 (v1 1 18) (v1 1 38) n))), (1, .int (b2i (hrdG g 0 (g 1 18) (g 1 38) n))), (0, .ref 0)] : Lc)) (st1 := ([.int (b2i (hrdG v1 1 (v1 1 18) (v1 1 38) n))] : List Value)) (w1 := (layM (ug v2 1 1 (0)) h)) (by rfl) ?_
      refine bv_if_ne (j := 57) C rfl rfl (fun _ => ?_) (fun h => absurd h (c4))
      exact bv_vret C rfl hr ⟨by (rfl), by (subst ev1; subst ev2; unfold tlkG; rw [if_pos (show tka n g = true ∧ tkb n g = true from ⟨b2i_1 c1, b2i_1 c4⟩)]; try rfl)⟩
theorem kp_rcF {n : Nat} : ∀ (m b : Nat) (g g0 : Nat → Nat → Int32), b + m ≤ 3 → kept g0 g → kept g0 (rcF n m b g)
  | 0, b, g, g0, hb, h => kp_nte (kp_ug (by omega) h)
  | m + 1, b, g, g0, hb, h => by
    unfold rcF
    split
    · exact kp_nte (kp_rb (kp_tr h (kf_kp kf_rcT)))
    · exact kp_rcF m (b + 1) _ g0 (by omega) (kp_tr h (kf_kp (kf_snt (kf_rf g))))
theorem ev_rcF {n : Nat} : ∀ (m b : Nat) (g : Nat → Nat → Int32), evK g → evK (rcF n m b g)
  | 0, b, g, h => evK_nte (evK_at h (ug_ne (by omega)))
  | m + 1, b, g, h => by
    unfold rcF
    split
    · exact evK_nte (evK_at h ((kf_rb 14 (by omega) (by omega)).trans (kf_rcT (n := n) (b := b) 14 (by unfold frK; omega))))
    · exact ev_rcF m (b + 1) _ (evK_at h (kf_snt (kf_rf g) 14 (by unfold frK; omega)))
theorem kp_tlk {n : Nat} {g g0 : Nat → Nat → Int32} (hB : bkK g) (h : kept g0 g) : kept g0 (tlkG n g) := by
  have h2 : kept g0 (tk2 n g) := kp_tr h (kf_kp kf_tk2)
  unfold tlkG
  split
  · exact kp_ug (by omega) h2
  · unfold tkR
    split
    · exact kp_ug (by omega) h2
    · obtain ⟨b, h3, h4⟩ := hB
      rw [ug_ne (by omega), kf_tk2 13 (by unfold frK; omega), h3, nI_clamp (by omega)]
      exact kp_rcF b 0 _ g0 (by omega) (kp_ug (by omega) (kp_ug (by omega) h2))
theorem ev_tlk {n : Nat} {g : Nat → Nat → Int32} (h : evK g) : evK (tlkG n g) := by
  have h2 : evK (tk2 n g) := evK_at h (kf_tk2 14 (by unfold frK; omega))
  unfold tlkG
  split
  · exact evK_at h2 (ug_ne (by omega))
  · unfold tkR
    split
    · exact evK_at h2 (ug_ne (by omega))
    · exact ev_rcF _ _ _ (evK_at h2 ((ug_ne (by omega)).trans (ug_ne (by omega))))
theorem kf_tr3 {s n : Nat} {S : Nat → Nat} {g : Nat → Nat → Int32} : keptF g (tr3 s n S g) := kf_snt (kf_snt (kf_snt (kf_rf g)))
theorem kp_trk {s n : Nat} {S : Nat → Nat} {g g0 : Nat → Nat → Int32} (hs2 : s < 2) (h : kept g0 g) : kept g0 (trkG s n S g) := by
  have h2 : kept g0 (tr3 s n S g) := kp_tr h (kf_kp kf_tr3)
  have h3 : ∀ x, kept g0 (ug (tr3 s n S g) 1 (18 + 20 * s) x) := fun x => kp_ug (by omega) h2
  unfold trkG
  repeat' split
  all_goals first | exact h2 | exact kp_nte (h3 _)
theorem ev_trk {s n : Nat} {S : Nat → Nat} {g : Nat → Nat → Int32} (hs2 : s < 2) (h : evK g) : evK (trkG s n S g) := by
  have h2 : evK (tr3 s n S g) := evK_at h (kf_tr3 14 (by unfold frK; omega))
  have h3 : ∀ x, evK (ug (tr3 s n S g) 1 (18 + 20 * s) x) := fun x => evK_at h2 (ug_ne (by omega))
  unfold trkG
  repeat' split
  all_goals first | exact h2 | exact evK_nte (h3 _)
theorem nte_13 {g : Nat → Nat → Int32} {kd v : Int32} (k : Nat) (h1 : k < 112 ∨ 172 ≤ k) (h2 : k ≠ 14) (hE : evK g) : nteG g kd v 1 k = g 1 k := by
  obtain ⟨E, h3, h4⟩ := hE
  have q : ∀ (gg : Nat → Nat → Int32) (e : Nat), e < 20 → nte1 gg e kd v 1 k = gg 1 k := fun gg e h5 => by
    unfold nte1
    rw [ug_ne (by omega), ug_ne (by omega), ug_ne (by omega), ug_ne (by omega)]
  unfold nteG
  split
  · rw [q _ 19 (by omega), ug_ne (by omega)]
    unfold shE
    rw [if_neg (by omega)]
  · next h5 =>
    refine q g _ ?_
    rw [h3, nI_clamp (by omega)]
    rcases Nat.lt_or_ge E 20 with h6 | h6
    · exact h6
    · exact absurd (by rw [h3, show E = 20 by omega]; rfl) h5
theorem trk_at {s n : Nat} {S : Nat → Nat} {g : Nat → Nat → Int32} (hs2 : s < 2) (hE : evK g) (k : Nat) (hk : frK k) (h1 : k < 112 ∨ 172 ≤ k) (h2 : k ≠ 14) : trkG s n S g 1 k = g 1 k := by
  have e0 : tr3 s n S g 1 k = g 1 k := kf_tr3 k hk
  have e1 : evK (tr3 s n S g) := evK_at hE (kf_tr3 14 (by unfold frK; omega))
  have e2 : ∀ x kd v, nteG (ug (tr3 s n S g) 1 (18 + 20 * s) x) kd v 1 k = g 1 k := fun x kd v => by
    rw [nte_13 k h1 h2 (evK_at e1 (ug_ne (by omega))), ug_ne (by unfold frK at hk; omega)]
    exact e0
  unfold trkG
  repeat' split
  all_goals first | exact e0 | exact e2 _ _ _
