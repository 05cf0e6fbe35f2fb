/-! THE LAW: isSound answers true -/
section DQ
variable {g s : Nat → Nat → Int32} {ρ : Nat → Nat} {c9 n : Nat} {S : Nat → Nat} {b : Int32}
theorem hb_0 {m : Int32} {S9 : Nat} (hm : m = nI S9) (hS : S9 ≤ 16) (h : bmK S9 b) : ¬ hbC m b = 0 := by
  obtain ⟨j, hj, rfl⟩ := h
  unfold hbC
  rw [hm, if_neg (show ¬ nI j < 0 from nI_nlt (a := j) (b := 0) (by omega) (by omega)), show (6 : Int32) = nI 6 from rfl, pk_mul, if_neg (nI_ge (a := j) (b := 6 * S9) (by omega) (by omega))]
  decide
theorem dr_0 (hi : invK g n S) (h : bmK (S 0) b) : fc_direction0_r b g s ρ c9 = ptC (g 1 15) (g 1 16) b := by
  unfold fc_direction0_r
  exact if_neg (hb_0 (inv_sec hi).1 (inv_sec hi).2.2.2.1 h)
theorem dr_1 (hi : invK g n S) (h : bmK (S 1) b) : fc_direction1_r b g s ρ c9 = ptC (g 1 35) (g 1 36) b := by
  unfold fc_direction1_r
  exact if_neg (hb_0 (inv_sec hi).2.1 (inv_sec hi).2.2.2.2.2 h)
theorem bb_0 {bk q : Nat} : fc_backupBeam_r bk q 0 g s ρ c9 = g 1 (103 + 3 * q) := by
  unfold fc_backupBeam_r
  rw [if_neg (by decide), if_pos rfl]
theorem bb_1 {bk q : Nat} : fc_backupBeam_r bk q 1 g s ρ c9 = g 1 (103 + 3 * q + 1) := by
  unfold fc_backupBeam_r
  rw [if_neg (by decide), if_neg (by decide)]
theorem bm_lt {x : Int32} {S9 : Nat} (hS : S9 ≤ 16) (h : bmK S9 x) : x < nI (6 * S9) := by
  obtain ⟨j, hj, rfl⟩ := h
  exact nI_lt (a := j) (b := 6 * S9) (by omega) (by omega)
theorem pt_lo {m o x : Int32} : ¬ ptC m o x < 0 := by
  obtain ⟨k, hk, e⟩ := pt_64 m o x
  rw [e]
  exact nI_nlt (a := k) (b := 0) (by omega) (by omega)
theorem pt_hi {m o x : Int32} : ptC m o x ≤ 63 := by
  obtain ⟨k, hk, e⟩ := pt_64 m o x
  rw [e]
  exact nI_le (a := k) (b := 63) (by omega) (by omega)
end DQ
set_option maxRecDepth 100000 in
set_option maxHeartbeats 4000000 in
theorem lx_sound {l : Launch} {D : va_G} {cA : FieldType → ClassId} {z0 : Nat} {SK : Nat → Nat} {SV : Nat → Int32} {ad : Nat → Nat} (hE : aD (fun q => z0 ≤ q) ad 183) (g sv : Nat → Nat → Int32) (σ τ : Nat → Nat → Nat) (ρ : Nat → Nat) (c9 : Nat) (ev : Nat → Int32) (hσ : pmF σ τ) (n : Nat) (S : Nat → Nat) (hi : invK g n S) (he0 : ev 0 = nI (S 0)) (he1 : ev 1 = nI (S 1)) (hap : apK g (ev 2)) : bF l D cA z0 SK SV ad shZ 183 yL_isSound cL_isSound 5 (some .boolean) 3 [.ref 0, .ref 182] (layZ g sv σ τ ρ c9 ev) (some (.int 1)) (layZ g sv σ τ ρ c9 ev) := by
  refine bCT_intro (tb := tb_L_isSound) (own := RL) hE pn_L rfl tk_L_isSound rfl (Nat.le_of_ble_eq_true rfl) ?_
  intro p e s0 m args below meth c C hr
  obtain ⟨k1, k2, k3, k4, k5, k6⟩ := inv_sec hi
  obtain ⟨B, hB, hB3⟩ := inv_bk hi
  obtain ⟨E, hEv, hE2⟩ := inv_ev hi
  have hbk := hi.2.2.2.2.2.2.2.2.2 B hB
  have hbm := hi.2.2.2.2.2.2.2.1
  have hup := hi.2.2.2.2.2.2.2.2.1
  have lb : ∀ (n b : Nat), b + n = B → bV p l e (bR 3) s0 m args below meth c D cA shZ (adA ad 183) 5 tb_L_isSound (MQ below (bQ D cA ad shZ 183 (fun r w1 => r = (some (.int 1)) ∧ w1 = (layZ g sv σ τ ρ c9 ev))) args s0 0 0 (adA ad 183)) ad 183 0 0 (layZ g sv σ τ ρ c9 ev) 41 ([(2, .int (nI b)), (0, .ref 0), (1, .ref 182)] : Lc) ([] : List Value) := by
    intro n
    induction n with
    | zero =>
      intro b hb
      refine bv_blk C frk_L csk_L 2 43 rfl (L1 := ([(2, .int (nI b)), (0, .ref 0), (1, .ref 182)] : Lc)) (st1 := ([.ref 0, .int (nI b)] : List Value)) (w1 := (layZ g sv σ τ ρ c9 ev)) (by rfl) ?_
      refine bv_cE (As := ([] : List Value)) (rest := ([.int (nI b)] : List Value)) (v := .int (g 1 13)) C rfl (fc_backupCount (aD_E hE) g sv σ τ hσ ρ c9) ml_L_76 im_X8_backupCount sel_X8_backupCount ini_X8 cd_X8_backupCount ok_X8_backupCount rfl ⟨Nat.le_of_ble_eq_true rfl, Nat.le_of_ble_eq_true rfl⟩ ⟨Nat.zero_le _, Nat.zero_le _⟩ rfl (fun _ => rfl) (fun _ => rfl) (Nat.le_of_ble_eq_true rfl) ?_
      refine bv_icmp_ge (j := 125) C rfl rfl (fun _ => ?_) (fun h => absurd (by rw [show (g 1 13) = nI B from hB]; exact (nI_le (a := B) (b := b) (by omega) (by omega))) h)
      refine bv_blk C frk_L csk_L 1 126 rfl (L1 := ([(2, .int (nI b)), (0, .ref 0), (1, .ref 182)] : Lc)) (st1 := ([.ref 0] : List Value)) (w1 := (layZ g sv σ τ ρ c9 ev)) (by rfl) ?_
      refine bv_cE (As := ([] : List Value)) (rest := ([] : List Value)) (v := .int (g 1 13)) C rfl (fc_backupCount (aD_E hE) g sv σ τ hσ ρ c9) ml_L_76 im_X8_backupCount sel_X8_backupCount ini_X8 cd_X8_backupCount ok_X8_backupCount rfl ⟨Nat.le_of_ble_eq_true rfl, Nat.le_of_ble_eq_true rfl⟩ ⟨Nat.zero_le _, Nat.zero_le _⟩ rfl (fun _ => rfl) (fun _ => rfl) (Nat.le_of_ble_eq_true rfl) ?_
      refine bv_blk C frk_L csk_L 1 128 rfl (L1 := ([(2, .int (nI b)), (0, .ref 0), (1, .ref 182)] : Lc)) (st1 := ([.int (3), .int (g 1 13)] : List Value)) (w1 := (layZ g sv σ τ ρ c9 ev)) (by rfl) ?_
      refine bv_icmp_gt (j := 135) C rfl rfl (fun h => absurd h (by rw [show (g 1 13) = nI B from hB]; exact (nI_nlt (a := 3) (b := B) (by omega) (by omega)))) (fun _ => ?_)
      refine bv_blk C frk_L csk_L 1 130 rfl (L1 := ([(2, .int (nI b)), (0, .ref 0), (1, .ref 182)] : Lc)) (st1 := ([.ref 0] : List Value)) (w1 := (layZ g sv σ τ ρ c9 ev)) (by rfl) ?_
      refine bv_cE (As := ([] : List Value)) (rest := ([] : List Value)) (v := .int (g 1 14)) C rfl (fc_eventCount (aD_E hE) g sv σ τ hσ ρ c9) ml_L_88 im_X8_eventCount sel_X8_eventCount ini_X8 cd_X8_eventCount ok_X8_eventCount rfl ⟨Nat.le_of_ble_eq_true rfl, Nat.le_of_ble_eq_true rfl⟩ ⟨Nat.zero_le _, Nat.zero_le _⟩ rfl (fun _ => rfl) (fun _ => rfl) (Nat.le_of_ble_eq_true rfl) ?_
      refine bv_blk C frk_L csk_L 1 132 rfl (L1 := ([(2, .int (nI b)), (0, .ref 0), (1, .ref 182)] : Lc)) (st1 := ([.int (20), .int (g 1 14)] : List Value)) (w1 := (layZ g sv σ τ ρ c9 ev)) (by rfl) ?_
      refine bv_icmp_gt (j := 135) C rfl rfl (fun h => absurd h (by rw [show (g 1 14) = nI E from hEv]; exact (nI_nlt (a := 20) (b := E) (by omega) (by omega)))) (fun _ => ?_)
      refine bv_blk C frk_L csk_L 1 134 rfl (L1 := ([(2, .int (nI b)), (0, .ref 0), (1, .ref 182)] : Lc)) (st1 := ([.int (1)] : List Value)) (w1 := (layZ g sv σ τ ρ c9 ev)) (by rfl) ?_
      refine bv_goto (j := 136) C rfl rfl ?_
      exact bv_iret C rfl hr rfl ⟨rfl, rfl⟩
    | succ n ih =>
      intro b hb
      refine bv_blk C frk_L csk_L 2 43 rfl (L1 := ([(2, .int (nI b)), (0, .ref 0), (1, .ref 182)] : Lc)) (st1 := ([.ref 0, .int (nI b)] : List Value)) (w1 := (layZ g sv σ τ ρ c9 ev)) (by rfl) ?_
      refine bv_cE (As := ([] : List Value)) (rest := ([.int (nI b)] : List Value)) (v := .int (g 1 13)) C rfl (fc_backupCount (aD_E hE) g sv σ τ hσ ρ c9) ml_L_76 im_X8_backupCount sel_X8_backupCount ini_X8 cd_X8_backupCount ok_X8_backupCount rfl ⟨Nat.le_of_ble_eq_true rfl, Nat.le_of_ble_eq_true rfl⟩ ⟨Nat.zero_le _, Nat.zero_le _⟩ rfl (fun _ => rfl) (fun _ => rfl) (Nat.le_of_ble_eq_true rfl) ?_
      refine bv_icmp_ge (j := 125) C rfl rfl (fun h => absurd h (by rw [show (g 1 13) = nI B from hB]; exact (nI_ge (a := b) (b := B) (by omega) (by omega)))) (fun _ => ?_)
      refine bv_blk C frk_L csk_L 2 47 rfl (L1 := ([(3, .int (0)), (2, .int (nI b)), (0, .ref 0), (1, .ref 182)] : Lc)) (st1 := ([] : List Value)) (w1 := (layZ g sv σ τ ρ c9 ev)) (by rfl) ?_
      have lc : ∀ (n2 q : Nat), q + n2 = b → bV p l e (bR 3) s0 m args below meth c D cA shZ (adA ad 183) 5 tb_L_isSound (MQ below (bQ D cA ad shZ 183 (fun r w1 => r = (some (.int 1)) ∧ w1 = (layZ g sv σ τ ρ c9 ev))) args s0 0 0 (adA ad 183)) ad 183 0 0 (layZ g sv σ τ ρ c9 ev) 47 ([(3, .int (nI q)), (2, .int (nI b)), (0, .ref 0), (1, .ref 182)] : Lc) ([] : List Value) := by
        intro n2
        induction n2 with
        | zero =>
          intro q hc
          refine bv_blk C frk_L csk_L 2 49 rfl (L1 := ([(3, .int (nI q)), (2, .int (nI b)), (0, .ref 0), (1, .ref 182)] : Lc)) (st1 := ([.int (nI b), .int (nI q)] : List Value)) (w1 := (layZ g sv σ τ ρ c9 ev)) (by rfl) ?_
          refine bv_icmp_ge (j := 105) C rfl rfl (fun _ => ?_) (fun h => absurd (nI_le (a := b) (b := q) (by omega) (by omega)) h)
          refine bv_blk C frk_L csk_L 3 108 rfl (L1 := ([(3, .int (nI q)), (2, .int (nI b)), (0, .ref 0), (1, .ref 182)] : Lc)) (st1 := ([.int (0), .int (nI b), .ref 0] : List Value)) (w1 := (layZ g sv σ τ ρ c9 ev)) (by rfl) ?_
          refine bv_cE (As := ([.int (nI b), .int (0)] : List Value)) (rest := ([] : List Value)) (v := .int (g 1 (103 + 3 * b))) C rfl ((bb_0 ▸ fc_backupBeam (aD_E hE) g sv σ τ hσ ρ c9 B b (0) hB hB3 (by omega))) ml_L_79 im_X8_backupBeam sel_X8_backupBeam ini_X8 cd_X8_backupBeam ok_X8_backupBeam rfl ⟨Nat.le_of_ble_eq_true rfl, Nat.le_of_ble_eq_true rfl⟩ ⟨Nat.zero_le _, Nat.zero_le _⟩ rfl (fun _ => rfl) (fun _ => rfl) (Nat.le_of_ble_eq_true rfl) ?_
          refine bv_blk C frk_L csk_L 2 111 rfl (L1 := ([(3, .int (nI q)), (2, .int (nI b)), (0, .ref 0), (1, .ref 182)] : Lc)) (st1 := ([.int (0), .ref 182, .int (g 1 (103 + 3 * b))] : List Value)) (w1 := (layZ g sv σ τ ρ c9 ev)) (by rfl) ?_
          refine bv_iald C rfl rfl (by decide) (j := 0) (by exact rfl) (by first | decide | omega) (by decide) (y := (ev 0)) (by rfl) ?_
          refine bv_icmp_ge (j := 121) C rfl rfl (fun h => absurd h (by rw [show (ev 0) = nI (S 0) from he0]; exact ((let ⟨i, hi9, e9⟩ := (hbk b (by omega) hB3).1; by rw [e9]; exact nI_ge (a := i) (b := S 0) hi9 (by omega))))) (fun _ => ?_)
          refine bv_blk C frk_L csk_L 3 116 rfl (L1 := ([(3, .int (nI q)), (2, .int (nI b)), (0, .ref 0), (1, .ref 182)] : Lc)) (st1 := ([.int (1), .int (nI b), .ref 0] : List Value)) (w1 := (layZ g sv σ τ ρ c9 ev)) (by rfl) ?_
          refine bv_cE (As := ([.int (nI b), .int (1)] : List Value)) (rest := ([] : List Value)) (v := .int (g 1 (103 + 3 * b + 1))) C rfl ((bb_1 ▸ fc_backupBeam (aD_E hE) g sv σ τ hσ ρ c9 B b (1) hB hB3 (by omega))) ml_L_79 im_X8_backupBeam sel_X8_backupBeam ini_X8 cd_X8_backupBeam ok_X8_backupBeam rfl ⟨Nat.le_of_ble_eq_true rfl, Nat.le_of_ble_eq_true rfl⟩ ⟨Nat.zero_le _, Nat.zero_le _⟩ rfl (fun _ => rfl) (fun _ => rfl) (Nat.le_of_ble_eq_true rfl) ?_
          refine bv_blk C frk_L csk_L 2 119 rfl (L1 := ([(3, .int (nI q)), (2, .int (nI b)), (0, .ref 0), (1, .ref 182)] : Lc)) (st1 := ([.int (1), .ref 182, .int (g 1 (103 + 3 * b + 1))] : List Value)) (w1 := (layZ g sv σ τ ρ c9 ev)) (by rfl) ?_
          refine bv_iald C rfl rfl (by decide) (j := 1) (by exact rfl) (by first | decide | omega) (by decide) (y := (ev 1)) (by rfl) ?_
          refine bv_icmp_lt (j := 123) C rfl rfl (fun _ => ?_) (fun h => absurd (by rw [show (ev 1) = nI (S 1) from he1]; exact ((let ⟨i, hi9, e9⟩ := (hbk b (by omega) hB3).2; by rw [e9]; exact nI_lt (a := i) (b := S 1) hi9 (by omega)))) h)
          refine bv_blk C frk_L csk_L 1 124 rfl (L1 := ([(2, .int ((nI b) + Int32.ofInt 1)), (3, .int (nI q)), (0, .ref 0), (1, .ref 182)] : Lc)) (st1 := ([] : List Value)) (w1 := (layZ g sv σ τ ρ c9 ev)) (by rfl) ?_
          rw [show ((nI b) + Int32.ofInt 1) = nI (b + 1) from (nIi rfl)]
          refine bv_goto (j := 41) C rfl rfl ?_
          refine bv_sub [0, 2, 3] (by rfl) ?_
          exact ih (b + 1) (by omega)
        | succ n2 ih2 =>
          intro q hc
          refine bv_blk C frk_L csk_L 2 49 rfl (L1 := ([(3, .int (nI q)), (2, .int (nI b)), (0, .ref 0), (1, .ref 182)] : Lc)) (st1 := ([.int (nI b), .int (nI q)] : List Value)) (w1 := (layZ g sv σ τ ρ c9 ev)) (by rfl) ?_
          refine bv_icmp_ge (j := 105) C rfl rfl (fun h => absurd h (nI_ge (a := q) (b := b) (by omega) (by omega))) (fun _ => ?_)
          refine bv_blk C frk_L csk_L 5 55 rfl (L1 := ([(3, .int (nI q)), (2, .int (nI b)), (0, .ref 0), (1, .ref 182)] : Lc)) (st1 := ([.int (0), .int (nI b), .ref 0, .int (0), .ref 0] : List Value)) (w1 := (layZ g sv σ τ ρ c9 ev)) (by rfl) ?_
          refine bv_cE (As := ([.int (nI b), .int (0)] : List Value)) (rest := ([.int (0), .ref 0] : List Value)) (v := .int (g 1 (103 + 3 * b))) C rfl ((bb_0 ▸ fc_backupBeam (aD_E hE) g sv σ τ hσ ρ c9 B b (0) hB hB3 (by omega))) ml_L_79 im_X8_backupBeam sel_X8_backupBeam ini_X8 cd_X8_backupBeam ok_X8_backupBeam rfl ⟨Nat.le_of_ble_eq_true rfl, Nat.le_of_ble_eq_true rfl⟩ ⟨Nat.zero_le _, Nat.zero_le _⟩ rfl (fun _ => rfl) (fun _ => rfl) (Nat.le_of_ble_eq_true rfl) ?_
          refine bv_cE (As := ([.int (0), .int (g 1 (103 + 3 * b))] : List Value)) (rest := ([] : List Value)) (v := .int (bD0 g b)) C rfl ((dr_0 hi (let ⟨i, hi9, e9⟩ := (hbk b (by omega) hB3).1; (e9 ▸ bm_wide hi9 : bmK (S 0) (g 1 (103 + 3 * b)))) ▸ fc_direction0 (aD_E hE) g sv σ τ hσ ρ c9 (g 1 (103 + 3 * b)))) ml_L_73 im_X8_direction sel_X8_direction ini_X8 cd_X8_direction ok_X8_direction rfl ⟨Nat.le_of_ble_eq_true rfl, Nat.le_of_ble_eq_true rfl⟩ ⟨Nat.zero_le _, Nat.zero_le _⟩ rfl (fun _ => rfl) (fun _ => rfl) (Nat.le_of_ble_eq_true rfl) ?_
          refine bv_blk C frk_L csk_L 5 62 rfl (L1 := ([(3, .int (nI q)), (2, .int (nI b)), (0, .ref 0), (1, .ref 182)] : Lc)) (st1 := ([.int (0), .int (nI q), .ref 0, .int (0), .ref 0, .int (bD0 g b)] : List Value)) (w1 := (layZ g sv σ τ ρ c9 ev)) (by rfl) ?_
          refine bv_cE (As := ([.int (nI q), .int (0)] : List Value)) (rest := ([.int (0), .ref 0, .int (bD0 g b)] : List Value)) (v := .int (g 1 (103 + 3 * q))) C rfl ((bb_0 ▸ fc_backupBeam (aD_E hE) g sv σ τ hσ ρ c9 B q (0) hB hB3 (by omega))) ml_L_79 im_X8_backupBeam sel_X8_backupBeam ini_X8 cd_X8_backupBeam ok_X8_backupBeam rfl ⟨Nat.le_of_ble_eq_true rfl, Nat.le_of_ble_eq_true rfl⟩ ⟨Nat.zero_le _, Nat.zero_le _⟩ rfl (fun _ => rfl) (fun _ => rfl) (Nat.le_of_ble_eq_true rfl) ?_
          refine bv_cE (As := ([.int (0), .int (g 1 (103 + 3 * q))] : List Value)) (rest := ([.int (bD0 g b)] : List Value)) (v := .int (bD0 g q)) C rfl ((dr_0 hi (let ⟨i, hi9, e9⟩ := (hbk q (by omega) hB3).1; (e9 ▸ bm_wide hi9 : bmK (S 0) (g 1 (103 + 3 * q)))) ▸ fc_direction0 (aD_E hE) g sv σ τ hσ ρ c9 (g 1 (103 + 3 * q)))) ml_L_73 im_X8_direction sel_X8_direction ini_X8 cd_X8_direction ok_X8_direction rfl ⟨Nat.le_of_ble_eq_true rfl, Nat.le_of_ble_eq_true rfl⟩ ⟨Nat.zero_le _, Nat.zero_le _⟩ rfl (fun _ => rfl) (fun _ => rfl) (Nat.le_of_ble_eq_true rfl) ?_
          refine bv_fS1 (As := ([.int (bD0 g b), .int (bD0 g q)] : List Value)) (rest := ([] : List Value)) C rfl (lx_angle hE _ (bD0 g b) (bD0 g q)) ml_L_82 st_L_angle ini_L cd_L_angle ok_L_angle rfl ⟨Nat.le_of_ble_eq_true rfl, Nat.le_of_ble_eq_true rfl⟩ ⟨Nat.zero_le _, Nat.zero_le _⟩ rfl (Nat.le_of_ble_eq_true rfl) ?_
          refine bv_blk C frk_L csk_L 2 67 rfl (L1 := ([(3, .int (nI q)), (2, .int (nI b)), (0, .ref 0), (1, .ref 182)] : Lc)) (st1 := ([.int (2), .ref 182, .int (lgA (bD0 g b) (bD0 g q))] : List Value)) (w1 := (layZ g sv σ τ ρ c9 ev)) (by rfl) ?_
          refine bv_iald C rfl rfl (by decide) (j := 2) (by exact rfl) (by first | decide | omega) (by decide) (y := (ev 2)) (by rfl) ?_
          refine bv_icmp_lt (j := 88) C rfl rfl (fun h => absurd h ((hap B hB hB3 q b (by omega) (by omega)).1)) (fun _ => ?_)
          refine bv_blk C frk_L csk_L 5 74 rfl (L1 := ([(3, .int (nI q)), (2, .int (nI b)), (0, .ref 0), (1, .ref 182)] : Lc)) (st1 := ([.int (1), .int (nI b), .ref 0, .int (1), .ref 0] : List Value)) (w1 := (layZ g sv σ τ ρ c9 ev)) (by rfl) ?_
          refine bv_cE (As := ([.int (nI b), .int (1)] : List Value)) (rest := ([.int (1), .ref 0] : List Value)) (v := .int (g 1 (103 + 3 * b + 1))) C rfl ((bb_1 ▸ fc_backupBeam (aD_E hE) g sv σ τ hσ ρ c9 B b (1) hB hB3 (by omega))) ml_L_79 im_X8_backupBeam sel_X8_backupBeam ini_X8 cd_X8_backupBeam ok_X8_backupBeam rfl ⟨Nat.le_of_ble_eq_true rfl, Nat.le_of_ble_eq_true rfl⟩ ⟨Nat.zero_le _, Nat.zero_le _⟩ rfl (fun _ => rfl) (fun _ => rfl) (Nat.le_of_ble_eq_true rfl) ?_
          refine bv_cE (As := ([.int (1), .int (g 1 (103 + 3 * b + 1))] : List Value)) (rest := ([] : List Value)) (v := .int (bD1 g b)) C rfl ((dr_1 hi (let ⟨i, hi9, e9⟩ := (hbk b (by omega) hB3).2; (e9 ▸ bm_wide hi9 : bmK (S 1) (g 1 (103 + 3 * b + 1)))) ▸ fc_direction1 (aD_E hE) g sv σ τ hσ ρ c9 (g 1 (103 + 3 * b + 1)))) ml_L_73 im_X8_direction sel_X8_direction ini_X8 cd_X8_direction ok_X8_direction rfl ⟨Nat.le_of_ble_eq_true rfl, Nat.le_of_ble_eq_true rfl⟩ ⟨Nat.zero_le _, Nat.zero_le _⟩ rfl (fun _ => rfl) (fun _ => rfl) (Nat.le_of_ble_eq_true rfl) ?_
          refine bv_blk C frk_L csk_L 5 81 rfl (L1 := ([(3, .int (nI q)), (2, .int (nI b)), (0, .ref 0), (1, .ref 182)] : Lc)) (st1 := ([.int (1), .int (nI q), .ref 0, .int (1), .ref 0, .int (bD1 g b)] : List Value)) (w1 := (layZ g sv σ τ ρ c9 ev)) (by rfl) ?_
          refine bv_cE (As := ([.int (nI q), .int (1)] : List Value)) (rest := ([.int (1), .ref 0, .int (bD1 g b)] : List Value)) (v := .int (g 1 (103 + 3 * q + 1))) C rfl ((bb_1 ▸ fc_backupBeam (aD_E hE) g sv σ τ hσ ρ c9 B q (1) hB hB3 (by omega))) ml_L_79 im_X8_backupBeam sel_X8_backupBeam ini_X8 cd_X8_backupBeam ok_X8_backupBeam rfl ⟨Nat.le_of_ble_eq_true rfl, Nat.le_of_ble_eq_true rfl⟩ ⟨Nat.zero_le _, Nat.zero_le _⟩ rfl (fun _ => rfl) (fun _ => rfl) (Nat.le_of_ble_eq_true rfl) ?_
          refine bv_cE (As := ([.int (1), .int (g 1 (103 + 3 * q + 1))] : List Value)) (rest := ([.int (bD1 g b)] : List Value)) (v := .int (bD1 g q)) C rfl ((dr_1 hi (let ⟨i, hi9, e9⟩ := (hbk q (by omega) hB3).2; (e9 ▸ bm_wide hi9 : bmK (S 1) (g 1 (103 + 3 * q + 1)))) ▸ fc_direction1 (aD_E hE) g sv σ τ hσ ρ c9 (g 1 (103 + 3 * q + 1)))) ml_L_73 im_X8_direction sel_X8_direction ini_X8 cd_X8_direction ok_X8_direction rfl ⟨Nat.le_of_ble_eq_true rfl, Nat.le_of_ble_eq_true rfl⟩ ⟨Nat.zero_le _, Nat.zero_le _⟩ rfl (fun _ => rfl) (fun _ => rfl) (Nat.le_of_ble_eq_true rfl) ?_
          refine bv_fS1 (As := ([.int (bD1 g b), .int (bD1 g q)] : List Value)) (rest := ([] : List Value)) C rfl (lx_angle hE _ (bD1 g b) (bD1 g q)) ml_L_82 st_L_angle ini_L cd_L_angle ok_L_angle rfl ⟨Nat.le_of_ble_eq_true rfl, Nat.le_of_ble_eq_true rfl⟩ ⟨Nat.zero_le _, Nat.zero_le _⟩ rfl (Nat.le_of_ble_eq_true rfl) ?_
          refine bv_blk C frk_L csk_L 2 86 rfl (L1 := ([(3, .int (nI q)), (2, .int (nI b)), (0, .ref 0), (1, .ref 182)] : Lc)) (st1 := ([.int (2), .ref 182, .int (lgA (bD1 g b) (bD1 g q))] : List Value)) (w1 := (layZ g sv σ τ ρ c9 ev)) (by rfl) ?_
          refine bv_iald C rfl rfl (by decide) (j := 2) (by exact rfl) (by first | decide | omega) (by decide) (y := (ev 2)) (by rfl) ?_
          refine bv_icmp_ge (j := 90) C rfl rfl (fun _ => ?_) (fun h => absurd (Int32.not_lt.mp (hap B hB hB3 q b (by omega) (by omega)).2.1) h)
          refine bv_blk C frk_L csk_L 3 93 rfl (L1 := ([(4, .int (0)), (3, .int (nI q)), (2, .int (nI b)), (0, .ref 0), (1, .ref 182)] : Lc)) (st1 := ([.int (0)] : List Value)) (w1 := (layZ g sv σ τ ρ c9 ev)) (by rfl) ?_
          refine bv_if_ne (j := 101) C rfl rfl (fun h => absurd h (by decide)) (fun _ => ?_)
          refine bv_blk C frk_L csk_L 2 96 rfl (L1 := ([(4, .int (0)), (3, .int (nI q)), (2, .int (nI b)), (0, .ref 0), (1, .ref 182)] : Lc)) (st1 := ([.int (nI q), .ref 0] : List Value)) (w1 := (layZ g sv σ τ ρ c9 ev)) (by rfl) ?_
          refine bv_cE (As := ([.int (nI q)] : List Value)) (rest := ([] : List Value)) (v := .int (g 1 (103 + 3 * q + 2))) C rfl (fc_backupQuality (aD_E hE) g sv σ τ hσ ρ c9 B q hB hB3 (by omega)) ml_L_85 im_X8_backupQuality sel_X8_backupQuality ini_X8 cd_X8_backupQuality ok_X8_backupQuality rfl ⟨Nat.le_of_ble_eq_true rfl, Nat.le_of_ble_eq_true rfl⟩ ⟨Nat.zero_le _, Nat.zero_le _⟩ rfl (fun _ => rfl) (fun _ => rfl) (Nat.le_of_ble_eq_true rfl) ?_
          refine bv_blk C frk_L csk_L 2 99 rfl (L1 := ([(4, .int (0)), (3, .int (nI q)), (2, .int (nI b)), (0, .ref 0), (1, .ref 182)] : Lc)) (st1 := ([.int (nI b), .ref 0, .int (g 1 (103 + 3 * q + 2))] : List Value)) (w1 := (layZ g sv σ τ ρ c9 ev)) (by rfl) ?_
          refine bv_cE (As := ([.int (nI b)] : List Value)) (rest := ([.int (g 1 (103 + 3 * q + 2))] : List Value)) (v := .int (g 1 (103 + 3 * b + 2))) C rfl (fc_backupQuality (aD_E hE) g sv σ τ hσ ρ c9 B b hB hB3 (by omega)) ml_L_85 im_X8_backupQuality sel_X8_backupQuality ini_X8 cd_X8_backupQuality ok_X8_backupQuality rfl ⟨Nat.le_of_ble_eq_true rfl, Nat.le_of_ble_eq_true rfl⟩ ⟨Nat.zero_le _, Nat.zero_le _⟩ rfl (fun _ => rfl) (fun _ => rfl) (Nat.le_of_ble_eq_true rfl) ?_
          refine bv_icmp_ge (j := 103) C rfl rfl (fun _ => ?_) (fun h => absurd (Int32.not_lt.mp (hap B hB hB3 q b (by omega) (by omega)).2.2) h)
          refine bv_blk C frk_L csk_L 1 104 rfl (L1 := ([(3, .int ((nI q) + Int32.ofInt 1)), (4, .int (0)), (2, .int (nI b)), (0, .ref 0), (1, .ref 182)] : Lc)) (st1 := ([] : List Value)) (w1 := (layZ g sv σ τ ρ c9 ev)) (by rfl) ?_
          rw [show ((nI q) + Int32.ofInt 1) = nI (q + 1) from (nIi rfl)]
          refine bv_goto (j := 47) C rfl rfl ?_
          refine bv_sub [0, 2, 3, 4] (by rfl) ?_
          exact ih2 (q + 1) (by omega)
      refine bv_sub [0, 1, 2, 3] (by rfl) ?_
      exact lc b 0 (by omega)
  refine bv_blk C frk_L csk_L 4 4 rfl (L1 := ([(2, .int (0)), (0, .ref 0), (1, .ref 182)] : Lc)) (st1 := ([.int (2), .int (0)] : List Value)) (w1 := (layZ g sv σ τ ρ c9 ev)) (by rfl) ?_
  refine bv_icmp_ge (j := 39) C rfl rfl (fun h => absurd h (by decide)) (fun _ => ?_)
  refine bv_blk C frk_L csk_L 2 7 rfl (L1 := ([(2, .int (0)), (0, .ref 0), (1, .ref 182)] : Lc)) (st1 := ([.int (0), .ref 0] : List Value)) (w1 := (layZ g sv σ τ ρ c9 ev)) (by rfl) ?_
  refine bv_cE (As := ([.int (0)] : List Value)) (rest := ([] : List Value)) (v := .int (g 1 18)) C rfl (fc_beam0 (aD_E hE) g sv σ τ hσ ρ c9) ml_L_66 im_X8_beam sel_X8_beam ini_X8 cd_X8_beam ok_X8_beam rfl ⟨Nat.le_of_ble_eq_true rfl, Nat.le_of_ble_eq_true rfl⟩ ⟨Nat.zero_le _, Nat.zero_le _⟩ rfl (fun _ => rfl) (fun _ => rfl) (Nat.le_of_ble_eq_true rfl) ?_
  refine bv_blk C frk_L csk_L 3 11 rfl (L1 := ([(3, .int (g 1 18)), (2, .int (0)), (0, .ref 0), (1, .ref 182)] : Lc)) (st1 := ([.int (-100000), .int (g 1 18)] : List Value)) (w1 := (layZ g sv σ τ ρ c9 ev)) (by rfl) ?_
  by_cases cb0 : (g 1 18) = -100000
  · have hn0 : ¬ btI (g 1 0) = 1 := fun z => by
      have z2 := hup (by rw [← btI_b hi.2.2.2.2.1]; exact z)
      exact bm_ne z2.1 (by omega) cb0
    refine bv_icmp_ne (j := 17) C rfl rfl (fun h => absurd cb0 h) (fun _ => ?_)
    refine bv_blk C frk_L csk_L 1 13 rfl (L1 := ([(3, .int (g 1 18)), (2, .int (0)), (0, .ref 0), (1, .ref 182)] : Lc)) (st1 := ([.ref 0] : List Value)) (w1 := (layZ g sv σ τ ρ c9 ev)) (by rfl) ?_
    refine bv_cE (As := ([] : List Value)) (rest := ([] : List Value)) (v := .int (btI (g 1 0))) C rfl (fc_isUp (aD_E hE) g sv σ τ hσ ρ c9) ml_L_69 im_X8_isUp sel_X8_isUp ini_X8 cd_X8_isUp ok_X8_isUp rfl ⟨Nat.le_of_ble_eq_true rfl, Nat.le_of_ble_eq_true rfl⟩ ⟨Nat.zero_le _, Nat.zero_le _⟩ rfl (fun _ => rfl) (fun _ => rfl) (Nat.le_of_ble_eq_true rfl) ?_
    refine bv_blk C frk_L csk_L 1 15 rfl (L1 := ([(3, .int (g 1 18)), (2, .int (0)), (0, .ref 0), (1, .ref 182)] : Lc)) (st1 := ([.int (1), .int (btI (g 1 0))] : List Value)) (w1 := (layZ g sv σ τ ρ c9 ev)) (by rfl) ?_
    refine bv_icmp_ne (j := 37) C rfl rfl (fun _ => ?_) (fun h => absurd h (fun z => (hn0 z)))
    refine bv_blk C frk_L csk_L 1 38 rfl (L1 := ([(2, .int ((0) + Int32.ofInt 1)), (3, .int (g 1 18)), (0, .ref 0), (1, .ref 182)] : Lc)) (st1 := ([] : List Value)) (w1 := (layZ g sv σ τ ρ c9 ev)) (by rfl) ?_
    rw [show ((0) + Int32.ofInt 1) = (1) from by decide]
    refine bv_goto (j := 2) C rfl rfl ?_
    refine bv_blk C frk_L csk_L 2 4 rfl (L1 := ([(2, .int (1)), (3, .int (g 1 18)), (0, .ref 0), (1, .ref 182)] : Lc)) (st1 := ([.int (2), .int (1)] : List Value)) (w1 := (layZ g sv σ τ ρ c9 ev)) (by rfl) ?_
    refine bv_icmp_ge (j := 39) C rfl rfl (fun h => absurd h (by decide)) (fun _ => ?_)
    refine bv_blk C frk_L csk_L 2 7 rfl (L1 := ([(2, .int (1)), (3, .int (g 1 18)), (0, .ref 0), (1, .ref 182)] : Lc)) (st1 := ([.int (1), .ref 0] : List Value)) (w1 := (layZ g sv σ τ ρ c9 ev)) (by rfl) ?_
    refine bv_cE (As := ([.int (1)] : List Value)) (rest := ([] : List Value)) (v := .int (g 1 38)) C rfl (fc_beam1 (aD_E hE) g sv σ τ hσ ρ c9) ml_L_66 im_X8_beam sel_X8_beam ini_X8 cd_X8_beam ok_X8_beam rfl ⟨Nat.le_of_ble_eq_true rfl, Nat.le_of_ble_eq_true rfl⟩ ⟨Nat.zero_le _, Nat.zero_le _⟩ rfl (fun _ => rfl) (fun _ => rfl) (Nat.le_of_ble_eq_true rfl) ?_
    refine bv_blk C frk_L csk_L 3 11 rfl (L1 := ([(3, .int (g 1 38)), (2, .int (1)), (0, .ref 0), (1, .ref 182)] : Lc)) (st1 := ([.int (-100000), .int (g 1 38)] : List Value)) (w1 := (layZ g sv σ τ ρ c9 ev)) (by rfl) ?_
    by_cases cb1 : (g 1 38) = -100000
    · have hn1 : ¬ btI (g 1 0) = 1 := fun z => by
        have z2 := hup (by rw [← btI_b hi.2.2.2.2.1]; exact z)
        exact bm_ne z2.2 (by omega) cb1
      refine bv_icmp_ne (j := 17) C rfl rfl (fun h => absurd cb1 h) (fun _ => ?_)
      refine bv_blk C frk_L csk_L 1 13 rfl (L1 := ([(3, .int (g 1 38)), (2, .int (1)), (0, .ref 0), (1, .ref 182)] : Lc)) (st1 := ([.ref 0] : List Value)) (w1 := (layZ g sv σ τ ρ c9 ev)) (by rfl) ?_
      refine bv_cE (As := ([] : List Value)) (rest := ([] : List Value)) (v := .int (btI (g 1 0))) C rfl (fc_isUp (aD_E hE) g sv σ τ hσ ρ c9) ml_L_69 im_X8_isUp sel_X8_isUp ini_X8 cd_X8_isUp ok_X8_isUp rfl ⟨Nat.le_of_ble_eq_true rfl, Nat.le_of_ble_eq_true rfl⟩ ⟨Nat.zero_le _, Nat.zero_le _⟩ rfl (fun _ => rfl) (fun _ => rfl) (Nat.le_of_ble_eq_true rfl) ?_
      refine bv_blk C frk_L csk_L 1 15 rfl (L1 := ([(3, .int (g 1 38)), (2, .int (1)), (0, .ref 0), (1, .ref 182)] : Lc)) (st1 := ([.int (1), .int (btI (g 1 0))] : List Value)) (w1 := (layZ g sv σ τ ρ c9 ev)) (by rfl) ?_
      refine bv_icmp_ne (j := 37) C rfl rfl (fun _ => ?_) (fun h => absurd h (fun z => (hn1 z)))
      refine bv_blk C frk_L csk_L 1 38 rfl (L1 := ([(2, .int ((1) + Int32.ofInt 1)), (3, .int (g 1 38)), (0, .ref 0), (1, .ref 182)] : Lc)) (st1 := ([] : List Value)) (w1 := (layZ g sv σ τ ρ c9 ev)) (by rfl) ?_
      rw [show ((1) + Int32.ofInt 1) = (2) from by decide]
      refine bv_goto (j := 2) C rfl rfl ?_
      refine bv_blk C frk_L csk_L 2 4 rfl (L1 := ([(2, .int (2)), (3, .int (g 1 38)), (0, .ref 0), (1, .ref 182)] : Lc)) (st1 := ([.int (2), .int (2)] : List Value)) (w1 := (layZ g sv σ τ ρ c9 ev)) (by rfl) ?_
      refine bv_icmp_ge (j := 39) C rfl rfl (fun _ => ?_) (fun h => absurd h (by decide))
      refine bv_blk C frk_L csk_L 2 41 rfl (L1 := ([(2, .int (0)), (3, .int (g 1 38)), (0, .ref 0), (1, .ref 182)] : Lc)) (st1 := ([] : List Value)) (w1 := (layZ g sv σ τ ρ c9 ev)) (by rfl) ?_
      refine bv_sub [0, 2, 3] (by rfl) ?_
      exact lb B 0 (by omega)
    · have hb1 : bmK (S 1) (g 1 38) := hbm.2.resolve_left cb1
      refine bv_icmp_ne (j := 17) C rfl rfl (fun _ => ?_) (fun h => absurd h cb1)
      refine bv_blk C frk_L csk_L 3 20 rfl (L1 := ([(3, .int (g 1 38)), (2, .int (1)), (0, .ref 0), (1, .ref 182)] : Lc)) (st1 := ([.int (g 1 38), .int (1), .ref 0] : List Value)) (w1 := (layZ g sv σ τ ρ c9 ev)) (by rfl) ?_
      refine bv_cE (As := ([.int (1), .int (g 1 38)] : List Value)) (rest := ([] : List Value)) (v := .int (ptC (g 1 35) (g 1 36) (g 1 38))) C rfl ((dr_1 hi hb1 ▸ fc_direction1 (aD_E hE) g sv σ τ hσ ρ c9 (g 1 38))) ml_L_73 im_X8_direction sel_X8_direction ini_X8 cd_X8_direction ok_X8_direction rfl ⟨Nat.le_of_ble_eq_true rfl, Nat.le_of_ble_eq_true rfl⟩ ⟨Nat.zero_le _, Nat.zero_le _⟩ rfl (fun _ => rfl) (fun _ => rfl) (Nat.le_of_ble_eq_true rfl) ?_
      refine bv_if_lt (j := 35) C rfl rfl (fun h => absurd h (pt_lo)) (fun _ => ?_)
      refine bv_blk C frk_L csk_L 3 25 rfl (L1 := ([(3, .int (g 1 38)), (2, .int (1)), (0, .ref 0), (1, .ref 182)] : Lc)) (st1 := ([.int (g 1 38), .int (1), .ref 0] : List Value)) (w1 := (layZ g sv σ τ ρ c9 ev)) (by rfl) ?_
      refine bv_cE (As := ([.int (1), .int (g 1 38)] : List Value)) (rest := ([] : List Value)) (v := .int (ptC (g 1 35) (g 1 36) (g 1 38))) C rfl ((dr_1 hi hb1 ▸ fc_direction1 (aD_E hE) g sv σ τ hσ ρ c9 (g 1 38))) ml_L_73 im_X8_direction sel_X8_direction ini_X8 cd_X8_direction ok_X8_direction rfl ⟨Nat.le_of_ble_eq_true rfl, Nat.le_of_ble_eq_true rfl⟩ ⟨Nat.zero_le _, Nat.zero_le _⟩ rfl (fun _ => rfl) (fun _ => rfl) (Nat.le_of_ble_eq_true rfl) ?_
      refine bv_blk C frk_L csk_L 1 27 rfl (L1 := ([(3, .int (g 1 38)), (2, .int (1)), (0, .ref 0), (1, .ref 182)] : Lc)) (st1 := ([.int (63), .int (ptC (g 1 35) (g 1 36) (g 1 38))] : List Value)) (w1 := (layZ g sv σ τ ρ c9 ev)) (by rfl) ?_
      refine bv_icmp_gt (j := 35) C rfl rfl (fun h => absurd h (Int32.not_lt.mpr pt_hi)) (fun _ => ?_)
      refine bv_blk C frk_L csk_L 4 32 rfl (L1 := ([(3, .int (g 1 38)), (2, .int (1)), (0, .ref 0), (1, .ref 182)] : Lc)) (st1 := ([.int (1), .ref 182, .int (6), .int (g 1 38)] : List Value)) (w1 := (layZ g sv σ τ ρ c9 ev)) (by rfl) ?_
      refine bv_iald C rfl rfl (by decide) (j := 1) (by exact rfl) (by first | decide | omega) (by decide) (y := (ev 1)) (by rfl) ?_
      refine bv_blk C frk_L csk_L 1 34 rfl (L1 := ([(3, .int (g 1 38)), (2, .int (1)), (0, .ref 0), (1, .ref 182)] : Lc)) (st1 := ([.int ((6) * (ev 1)), .int (g 1 38)] : List Value)) (w1 := (layZ g sv σ τ ρ c9 ev)) (by rfl) ?_
      refine bv_icmp_lt (j := 37) C rfl rfl (fun _ => ?_) (fun h => absurd (by rw [show ((6) * (ev 1)) = nI (6 * (S 1)) from (nIm rfl he1)]; exact (bm_lt (by omega) hb1)) h)
      refine bv_blk C frk_L csk_L 1 38 rfl (L1 := ([(2, .int ((1) + Int32.ofInt 1)), (3, .int (g 1 38)), (0, .ref 0), (1, .ref 182)] : Lc)) (st1 := ([] : List Value)) (w1 := (layZ g sv σ τ ρ c9 ev)) (by rfl) ?_
      rw [show ((1) + Int32.ofInt 1) = (2) from by decide]
      refine bv_goto (j := 2) C rfl rfl ?_
      refine bv_blk C frk_L csk_L 2 4 rfl (L1 := ([(2, .int (2)), (3, .int (g 1 38)), (0, .ref 0), (1, .ref 182)] : Lc)) (st1 := ([.int (2), .int (2)] : List Value)) (w1 := (layZ g sv σ τ ρ c9 ev)) (by rfl) ?_
      refine bv_icmp_ge (j := 39) C rfl rfl (fun _ => ?_) (fun h => absurd h (by decide))
      refine bv_blk C frk_L csk_L 2 41 rfl (L1 := ([(2, .int (0)), (3, .int (g 1 38)), (0, .ref 0), (1, .ref 182)] : Lc)) (st1 := ([] : List Value)) (w1 := (layZ g sv σ τ ρ c9 ev)) (by rfl) ?_
      refine bv_sub [0, 2, 3] (by rfl) ?_
      exact lb B 0 (by omega)
  · have hb0 : bmK (S 0) (g 1 18) := hbm.1.resolve_left cb0
    refine bv_icmp_ne (j := 17) C rfl rfl (fun _ => ?_) (fun h => absurd h cb0)
    refine bv_blk C frk_L csk_L 3 20 rfl (L1 := ([(3, .int (g 1 18)), (2, .int (0)), (0, .ref 0), (1, .ref 182)] : Lc)) (st1 := ([.int (g 1 18), .int (0), .ref 0] : List Value)) (w1 := (layZ g sv σ τ ρ c9 ev)) (by rfl) ?_
    refine bv_cE (As := ([.int (0), .int (g 1 18)] : List Value)) (rest := ([] : List Value)) (v := .int (ptC (g 1 15) (g 1 16) (g 1 18))) C rfl ((dr_0 hi hb0 ▸ fc_direction0 (aD_E hE) g sv σ τ hσ ρ c9 (g 1 18))) ml_L_73 im_X8_direction sel_X8_direction ini_X8 cd_X8_direction ok_X8_direction rfl ⟨Nat.le_of_ble_eq_true rfl, Nat.le_of_ble_eq_true rfl⟩ ⟨Nat.zero_le _, Nat.zero_le _⟩ rfl (fun _ => rfl) (fun _ => rfl) (Nat.le_of_ble_eq_true rfl) ?_
    refine bv_if_lt (j := 35) C rfl rfl (fun h => absurd h (pt_lo)) (fun _ => ?_)
    refine bv_blk C frk_L csk_L 3 25 rfl (L1 := ([(3, .int (g 1 18)), (2, .int (0)), (0, .ref 0), (1, .ref 182)] : Lc)) (st1 := ([.int (g 1 18), .int (0), .ref 0] : List Value)) (w1 := (layZ g sv σ τ ρ c9 ev)) (by rfl) ?_
    refine bv_cE (As := ([.int (0), .int (g 1 18)] : List Value)) (rest := ([] : List Value)) (v := .int (ptC (g 1 15) (g 1 16) (g 1 18))) C rfl ((dr_0 hi hb0 ▸ fc_direction0 (aD_E hE) g sv σ τ hσ ρ c9 (g 1 18))) ml_L_73 im_X8_direction sel_X8_direction ini_X8 cd_X8_direction ok_X8_direction rfl ⟨Nat.le_of_ble_eq_true rfl, Nat.le_of_ble_eq_true rfl⟩ ⟨Nat.zero_le _, Nat.zero_le _⟩ rfl (fun _ => rfl) (fun _ => rfl) (Nat.le_of_ble_eq_true rfl) ?_
    refine bv_blk C frk_L csk_L 1 27 rfl (L1 := ([(3, .int (g 1 18)), (2, .int (0)), (0, .ref 0), (1, .ref 182)] : Lc)) (st1 := ([.int (63), .int (ptC (g 1 15) (g 1 16) (g 1 18))] : List Value)) (w1 := (layZ g sv σ τ ρ c9 ev)) (by rfl) ?_
    refine bv_icmp_gt (j := 35) C rfl rfl (fun h => absurd h (Int32.not_lt.mpr pt_hi)) (fun _ => ?_)
    refine bv_blk C frk_L csk_L 4 32 rfl (L1 := ([(3, .int (g 1 18)), (2, .int (0)), (0, .ref 0), (1, .ref 182)] : Lc)) (st1 := ([.int (0), .ref 182, .int (6), .int (g 1 18)] : List Value)) (w1 := (layZ g sv σ τ ρ c9 ev)) (by rfl) ?_
    refine bv_iald C rfl rfl (by decide) (j := 0) (by exact rfl) (by first | decide | omega) (by decide) (y := (ev 0)) (by rfl) ?_
    refine bv_blk C frk_L csk_L 1 34 rfl (L1 := ([(3, .int (g 1 18)), (2, .int (0)), (0, .ref 0), (1, .ref 182)] : Lc)) (st1 := ([.int ((6) * (ev 0)), .int (g 1 18)] : List Value)) (w1 := (layZ g sv σ τ ρ c9 ev)) (by rfl) ?_
    refine bv_icmp_lt (j := 37) C rfl rfl (fun _ => ?_) (fun h => absurd (by rw [show ((6) * (ev 0)) = nI (6 * (S 0)) from (nIm rfl he0)]; exact (bm_lt (by omega) hb0)) h)
    refine bv_blk C frk_L csk_L 1 38 rfl (L1 := ([(2, .int ((0) + Int32.ofInt 1)), (3, .int (g 1 18)), (0, .ref 0), (1, .ref 182)] : Lc)) (st1 := ([] : List Value)) (w1 := (layZ g sv σ τ ρ c9 ev)) (by rfl) ?_
    rw [show ((0) + Int32.ofInt 1) = (1) from by decide]
    refine bv_goto (j := 2) C rfl rfl ?_
    refine bv_blk C frk_L csk_L 2 4 rfl (L1 := ([(2, .int (1)), (3, .int (g 1 18)), (0, .ref 0), (1, .ref 182)] : Lc)) (st1 := ([.int (2), .int (1)] : List Value)) (w1 := (layZ g sv σ τ ρ c9 ev)) (by rfl) ?_
    refine bv_icmp_ge (j := 39) C rfl rfl (fun h => absurd h (by decide)) (fun _ => ?_)
    refine bv_blk C frk_L csk_L 2 7 rfl (L1 := ([(2, .int (1)), (3, .int (g 1 18)), (0, .ref 0), (1, .ref 182)] : Lc)) (st1 := ([.int (1), .ref 0] : List Value)) (w1 := (layZ g sv σ τ ρ c9 ev)) (by rfl) ?_
    refine bv_cE (As := ([.int (1)] : List Value)) (rest := ([] : List Value)) (v := .int (g 1 38)) C rfl (fc_beam1 (aD_E hE) g sv σ τ hσ ρ c9) ml_L_66 im_X8_beam sel_X8_beam ini_X8 cd_X8_beam ok_X8_beam rfl ⟨Nat.le_of_ble_eq_true rfl, Nat.le_of_ble_eq_true rfl⟩ ⟨Nat.zero_le _, Nat.zero_le _⟩ rfl (fun _ => rfl) (fun _ => rfl) (Nat.le_of_ble_eq_true rfl) ?_
    refine bv_blk C frk_L csk_L 3 11 rfl (L1 := ([(3, .int (g 1 38)), (2, .int (1)), (0, .ref 0), (1, .ref 182)] : Lc)) (st1 := ([.int (-100000), .int (g 1 38)] : List Value)) (w1 := (layZ g sv σ τ ρ c9 ev)) (by rfl) ?_
    by_cases cb1 : (g 1 38) = -100000
    · have hn1 : ¬ btI (g 1 0) = 1 := fun z => by
        have z2 := hup (by rw [← btI_b hi.2.2.2.2.1]; exact z)
        exact bm_ne z2.2 (by omega) cb1
      refine bv_icmp_ne (j := 17) C rfl rfl (fun h => absurd cb1 h) (fun _ => ?_)
      refine bv_blk C frk_L csk_L 1 13 rfl (L1 := ([(3, .int (g 1 38)), (2, .int (1)), (0, .ref 0), (1, .ref 182)] : Lc)) (st1 := ([.ref 0] : List Value)) (w1 := (layZ g sv σ τ ρ c9 ev)) (by rfl) ?_
      refine bv_cE (As := ([] : List Value)) (rest := ([] : List Value)) (v := .int (btI (g 1 0))) C rfl (fc_isUp (aD_E hE) g sv σ τ hσ ρ c9) ml_L_69 im_X8_isUp sel_X8_isUp ini_X8 cd_X8_isUp ok_X8_isUp rfl ⟨Nat.le_of_ble_eq_true rfl, Nat.le_of_ble_eq_true rfl⟩ ⟨Nat.zero_le _, Nat.zero_le _⟩ rfl (fun _ => rfl) (fun _ => rfl) (Nat.le_of_ble_eq_true rfl) ?_
      refine bv_blk C frk_L csk_L 1 15 rfl (L1 := ([(3, .int (g 1 38)), (2, .int (1)), (0, .ref 0), (1, .ref 182)] : Lc)) (st1 := ([.int (1), .int (btI (g 1 0))] : List Value)) (w1 := (layZ g sv σ τ ρ c9 ev)) (by rfl) ?_
      refine bv_icmp_ne (j := 37) C rfl rfl (fun _ => ?_) (fun h => absurd h (fun z => (hn1 z)))
      refine bv_blk C frk_L csk_L 1 38 rfl (L1 := ([(2, .int ((1) + Int32.ofInt 1)), (3, .int (g 1 38)), (0, .ref 0), (1, .ref 182)] : Lc)) (st1 := ([] : List Value)) (w1 := (layZ g sv σ τ ρ c9 ev)) (by rfl) ?_
      rw [show ((1) + Int32.ofInt 1) = (2) from by decide]
      refine bv_goto (j := 2) C rfl rfl ?_
      refine bv_blk C frk_L csk_L 2 4 rfl (L1 := ([(2, .int (2)), (3, .int (g 1 38)), (0, .ref 0), (1, .ref 182)] : Lc)) (st1 := ([.int (2), .int (2)] : List Value)) (w1 := (layZ g sv σ τ ρ c9 ev)) (by rfl) ?_
      refine bv_icmp_ge (j := 39) C rfl rfl (fun _ => ?_) (fun h => absurd h (by decide))
      refine bv_blk C frk_L csk_L 2 41 rfl (L1 := ([(2, .int (0)), (3, .int (g 1 38)), (0, .ref 0), (1, .ref 182)] : Lc)) (st1 := ([] : List Value)) (w1 := (layZ g sv σ τ ρ c9 ev)) (by rfl) ?_
      refine bv_sub [0, 2, 3] (by rfl) ?_
      exact lb B 0 (by omega)
    · have hb1 : bmK (S 1) (g 1 38) := hbm.2.resolve_left cb1
      refine bv_icmp_ne (j := 17) C rfl rfl (fun _ => ?_) (fun h => absurd h cb1)
      refine bv_blk C frk_L csk_L 3 20 rfl (L1 := ([(3, .int (g 1 38)), (2, .int (1)), (0, .ref 0), (1, .ref 182)] : Lc)) (st1 := ([.int (g 1 38), .int (1), .ref 0] : List Value)) (w1 := (layZ g sv σ τ ρ c9 ev)) (by rfl) ?_
      refine bv_cE (As := ([.int (1), .int (g 1 38)] : List Value)) (rest := ([] : List Value)) (v := .int (ptC (g 1 35) (g 1 36) (g 1 38))) C rfl ((dr_1 hi hb1 ▸ fc_direction1 (aD_E hE) g sv σ τ hσ ρ c9 (g 1 38))) ml_L_73 im_X8_direction sel_X8_direction ini_X8 cd_X8_direction ok_X8_direction rfl ⟨Nat.le_of_ble_eq_true rfl, Nat.le_of_ble_eq_true rfl⟩ ⟨Nat.zero_le _, Nat.zero_le _⟩ rfl (fun _ => rfl) (fun _ => rfl) (Nat.le_of_ble_eq_true rfl) ?_
      refine bv_if_lt (j := 35) C rfl rfl (fun h => absurd h (pt_lo)) (fun _ => ?_)
      refine bv_blk C frk_L csk_L 3 25 rfl (L1 := ([(3, .int (g 1 38)), (2, .int (1)), (0, .ref 0), (1, .ref 182)] : Lc)) (st1 := ([.int (g 1 38), .int (1), .ref 0] : List Value)) (w1 := (layZ g sv σ τ ρ c9 ev)) (by rfl) ?_
      refine bv_cE (As := ([.int (1), .int (g 1 38)] : List Value)) (rest := ([] : List Value)) (v := .int (ptC (g 1 35) (g 1 36) (g 1 38))) C rfl ((dr_1 hi hb1 ▸ fc_direction1 (aD_E hE) g sv σ τ hσ ρ c9 (g 1 38))) ml_L_73 im_X8_direction sel_X8_direction ini_X8 cd_X8_direction ok_X8_direction rfl ⟨Nat.le_of_ble_eq_true rfl, Nat.le_of_ble_eq_true rfl⟩ ⟨Nat.zero_le _, Nat.zero_le _⟩ rfl (fun _ => rfl) (fun _ => rfl) (Nat.le_of_ble_eq_true rfl) ?_
      refine bv_blk C frk_L csk_L 1 27 rfl (L1 := ([(3, .int (g 1 38)), (2, .int (1)), (0, .ref 0), (1, .ref 182)] : Lc)) (st1 := ([.int (63), .int (ptC (g 1 35) (g 1 36) (g 1 38))] : List Value)) (w1 := (layZ g sv σ τ ρ c9 ev)) (by rfl) ?_
      refine bv_icmp_gt (j := 35) C rfl rfl (fun h => absurd h (Int32.not_lt.mpr pt_hi)) (fun _ => ?_)
      refine bv_blk C frk_L csk_L 4 32 rfl (L1 := ([(3, .int (g 1 38)), (2, .int (1)), (0, .ref 0), (1, .ref 182)] : Lc)) (st1 := ([.int (1), .ref 182, .int (6), .int (g 1 38)] : List Value)) (w1 := (layZ g sv σ τ ρ c9 ev)) (by rfl) ?_
      refine bv_iald C rfl rfl (by decide) (j := 1) (by exact rfl) (by first | decide | omega) (by decide) (y := (ev 1)) (by rfl) ?_
      refine bv_blk C frk_L csk_L 1 34 rfl (L1 := ([(3, .int (g 1 38)), (2, .int (1)), (0, .ref 0), (1, .ref 182)] : Lc)) (st1 := ([.int ((6) * (ev 1)), .int (g 1 38)] : List Value)) (w1 := (layZ g sv σ τ ρ c9 ev)) (by rfl) ?_
      refine bv_icmp_lt (j := 37) C rfl rfl (fun _ => ?_) (fun h => absurd (by rw [show ((6) * (ev 1)) = nI (6 * (S 1)) from (nIm rfl he1)]; exact (bm_lt (by omega) hb1)) h)
      refine bv_blk C frk_L csk_L 1 38 rfl (L1 := ([(2, .int ((1) + Int32.ofInt 1)), (3, .int (g 1 38)), (0, .ref 0), (1, .ref 182)] : Lc)) (st1 := ([] : List Value)) (w1 := (layZ g sv σ τ ρ c9 ev)) (by rfl) ?_
      rw [show ((1) + Int32.ofInt 1) = (2) from by decide]
      refine bv_goto (j := 2) C rfl rfl ?_
      refine bv_blk C frk_L csk_L 2 4 rfl (L1 := ([(2, .int (2)), (3, .int (g 1 38)), (0, .ref 0), (1, .ref 182)] : Lc)) (st1 := ([.int (2), .int (2)] : List Value)) (w1 := (layZ g sv σ τ ρ c9 ev)) (by rfl) ?_
      refine bv_icmp_ge (j := 39) C rfl rfl (fun _ => ?_) (fun h => absurd h (by decide))
      refine bv_blk C frk_L csk_L 2 41 rfl (L1 := ([(2, .int (0)), (3, .int (g 1 38)), (0, .ref 0), (1, .ref 182)] : Lc)) (st1 := ([] : List Value)) (w1 := (layZ g sv σ τ ρ c9 ev)) (by rfl) ?_
      refine bv_sub [0, 2, 3] (by rfl) ?_
      exact lb B 0 (by omega)
