/-! THE LAW: the best sector by a table; whether the latest interval had another event -/
set_option maxRecDepth 100000 in
set_option maxHeartbeats 4000000 in
theorem lx_best0 {l : Launch} {D : va_G} {cA : FieldType → ClassId} {z0 : Nat} {SK : Nat → Nat} {SV : Nat → Int32} {ad : Nat → Nat} (hE : aD (fun q => z0 ≤ q) ad 183) (g sv : Nat → Nat → Int32) (σ τ : Nat → Nat → Nat) (ρ : Nat → Nat) (c9 : Nat) (ev : Nat → Int32) (hσ : pmF σ τ) (S : Nat → Nat) (hS : g 1 15 = nI (S 0)) (hS2 : S 0 ≤ 16) (he : ev 0 = nI (S 0)) : bF l D cA z0 SK SV ad shZ 183 yL_best cL_best 6 (some .int) 2 [.ref 0, .ref 182, .int (0)] (layZ g sv σ τ ρ c9 ev) (some (.int (bsL (fun k => g 1 (39 + k)) (S 0)))) (layZ g sv σ τ ρ c9 ev) := by
  refine bCT_intro (tb := tb_L_best) (own := RL) hE pn_L rfl tk_L_best rfl (Nat.le_of_ble_eq_true rfl) ?_
  intro p e s0 m args below meth c C hr
  refine bv_blk C frk_L csk_L 4 4 rfl (L1 := ([(4, .int (0)), (3, .int (-1)), (0, .ref 0), (1, .ref 182), (2, .int (0))] : Lc)) (st1 := ([] : List Value)) (w1 := (layZ g sv σ τ ρ c9 ev)) (by rfl) ?_
  have lp : ∀ (n k : Nat) (o : Option Nat), k + n = S 0 → (∀ b, o = some b → b < k) → bstF (fun k => g 1 (39 + k)) (S 0) 0 none = bstF (fun k => g 1 (39 + k)) n k o → bV p l e (bR 2) s0 m args below meth c D cA shZ (adA ad 183) 6 tb_L_best (MQ below (bQ D cA ad shZ 183 (fun r w1 => r = (some (.int (bsL (fun k => g 1 (39 + k)) (S 0)))) ∧ w1 = (layZ g sv σ τ ρ c9 ev))) args s0 0 0 (adA ad 183)) ad 183 0 0 (layZ g sv σ τ ρ c9 ev) 4 ([(3, .int (bi o)), (4, .int (nI k)), (0, .ref 0), (1, .ref 182), (2, .int (0))] : Lc) ([] : List Value) := by
    intro n
    induction n with
    | zero =>
      intro k o hk ho h9
      refine bv_blk C frk_L csk_L 3 7 rfl (L1 := ([(3, .int (bi o)), (4, .int (nI k)), (0, .ref 0), (1, .ref 182), (2, .int (0))] : Lc)) (st1 := ([.int (0), .ref 182, .int (nI k)] : List Value)) (w1 := (layZ g sv σ τ ρ c9 ev)) (by rfl) ?_
      refine bv_iald C rfl rfl (by decide) (j := 0) (by exact rfl) (by first | decide | omega) (by decide) (y := (ev 0)) (by rfl) ?_
      refine bv_icmp_ge (j := 35) C rfl rfl (fun _ => ?_) (fun h => absurd (by rw [show (ev 0) = nI (S 0) from he]; exact (nI_le (a := (S 0)) (b := k) (by omega) (by omega))) h)
      refine bv_blk C frk_L csk_L 1 36 rfl (L1 := ([(3, .int (bi o)), (4, .int (nI k)), (0, .ref 0), (1, .ref 182), (2, .int (0))] : Lc)) (st1 := ([.int (bi o)] : List Value)) (w1 := (layZ g sv σ τ ρ c9 ev)) (by rfl) ?_
      exact bv_iret C rfl hr rfl ⟨by rw [show bsL (fun k => g 1 (39 + k)) (S 0) = bi o from congrArg bi h9], rfl⟩
    | succ n ih =>
      intro k o hk ho h9
      rcases o with _ | b
      · refine bv_blk C frk_L csk_L 3 7 rfl (L1 := ([(3, .int (-1)), (4, .int (nI k)), (0, .ref 0), (1, .ref 182), (2, .int (0))] : Lc)) (st1 := ([.int (0), .ref 182, .int (nI k)] : List Value)) (w1 := (layZ g sv σ τ ρ c9 ev)) (by rfl) ?_
        refine bv_iald C rfl rfl (by decide) (j := 0) (by exact rfl) (by first | decide | omega) (by decide) (y := (ev 0)) (by rfl) ?_
        refine bv_icmp_ge (j := 35) C rfl rfl (fun h => absurd h (by rw [show (ev 0) = nI (S 0) from he]; exact (nI_ge (a := k) (b := (S 0)) (by omega) (by omega)))) (fun _ => ?_)
        refine bv_blk C frk_L csk_L 5 14 rfl (L1 := ([(3, .int (-1)), (4, .int (nI k)), (0, .ref 0), (1, .ref 182), (2, .int (0))] : Lc)) (st1 := ([.int (nI k), .int (1), .ref 0] : List Value)) (w1 := (layZ g sv σ τ ρ c9 ev)) (by rfl) ?_
        refine bv_cE (As := ([.int (1), .int (nI k)] : List Value)) (rest := ([] : List Value)) (v := .int (g 1 (39 + k))) C rfl (fc_heard1 (aD_E hE) g sv σ τ hσ ρ c9 (S 0) k hS hS2 (by omega)) ml_L_62 im_X8_heard sel_X8_heard ini_X8 cd_X8_heard ok_X8_heard rfl ⟨Nat.le_of_ble_eq_true rfl, Nat.le_of_ble_eq_true rfl⟩ ⟨Nat.zero_le _, Nat.zero_le _⟩ rfl (fun _ => rfl) (fun _ => rfl) (Nat.le_of_ble_eq_true rfl) ?_
        refine bv_blk C frk_L csk_L 3 18 rfl (L1 := ([(5, .int (g 1 (39 + k))), (3, .int (-1)), (4, .int (nI k)), (0, .ref 0), (1, .ref 182), (2, .int (0))] : Lc)) (st1 := ([.int (-100000), .int (g 1 (39 + k))] : List Value)) (w1 := (layZ g sv σ τ ρ c9 ev)) (by rfl) ?_
        refine bv_icmp_eq (j := 31) C rfl rfl (fun c3 => ?_) (fun c3 => ?_)
        · refine bv_blk C frk_L csk_L 3 34 rfl (L1 := ([(4, .int ((nI k) + Int32.ofInt 1)), (3, .int (-1)), (5, .int (g 1 (39 + k))), (0, .ref 0), (1, .ref 182), (2, .int (0))] : Lc)) (st1 := ([] : List Value)) (w1 := (layZ g sv σ τ ρ c9 ev)) (by rfl) ?_
          rw [show ((nI k) + Int32.ofInt 1) = nI (k + 1) from (nIi rfl)]
          refine bv_goto (j := 4) C rfl rfl ?_
          refine bv_sub [1, 0, 3, 4, 5] (by rfl) ?_
          exact ih (k + 1) none (by omega) (fun b z => by cases z) (h9.trans (congrArg (fun o => bstF (fun k => g 1 (39 + k)) n (k + 1) o) (show bstS (fun k => g 1 (39 + k)) k none = none from if_pos c3)))
        · refine bv_blk C frk_L csk_L 1 20 rfl (L1 := ([(5, .int (g 1 (39 + k))), (3, .int (-1)), (4, .int (nI k)), (0, .ref 0), (1, .ref 182), (2, .int (0))] : Lc)) (st1 := ([.int (-1)] : List Value)) (w1 := (layZ g sv σ τ ρ c9 ev)) (by rfl) ?_
          refine bv_if_lt (j := 29) C rfl rfl (fun _ => ?_) (fun h => absurd h (by decide))
          refine bv_blk C frk_L csk_L 1 30 rfl (L1 := ([(5, .int (g 1 (39 + k))), (3, .int (-1)), (4, .int (nI k)), (0, .ref 0), (1, .ref 182), (2, .int (0))] : Lc)) (st1 := ([.int (nI k)] : List Value)) (w1 := (layZ g sv σ τ ρ c9 ev)) (by rfl) ?_
          refine bv_goto (j := 32) C rfl rfl ?_
          refine bv_blk C frk_L csk_L 2 34 rfl (L1 := ([(4, .int ((nI k) + Int32.ofInt 1)), (3, .int (nI k)), (5, .int (g 1 (39 + k))), (0, .ref 0), (1, .ref 182), (2, .int (0))] : Lc)) (st1 := ([] : List Value)) (w1 := (layZ g sv σ τ ρ c9 ev)) (by rfl) ?_
          rw [show ((nI k) + Int32.ofInt 1) = nI (k + 1) from (nIi rfl)]
          refine bv_goto (j := 4) C rfl rfl ?_
          refine bv_sub [1, 0, 3, 4, 5] (by rfl) ?_
          exact ih (k + 1) (some k) (by omega) (fun b z => by cases z; omega) (h9.trans (congrArg (fun o => bstF (fun k => g 1 (39 + k)) n (k + 1) o) (show bstS (fun k => g 1 (39 + k)) k none = (some k) from (if_neg c3))))
      · refine bv_blk C frk_L csk_L 3 7 rfl (L1 := ([(3, .int (nI b)), (4, .int (nI k)), (0, .ref 0), (1, .ref 182), (2, .int (0))] : Lc)) (st1 := ([.int (0), .ref 182, .int (nI k)] : List Value)) (w1 := (layZ g sv σ τ ρ c9 ev)) (by rfl) ?_
        refine bv_iald C rfl rfl (by decide) (j := 0) (by exact rfl) (by first | decide | omega) (by decide) (y := (ev 0)) (by rfl) ?_
        refine bv_icmp_ge (j := 35) C rfl rfl (fun h => absurd h (by rw [show (ev 0) = nI (S 0) from he]; exact (nI_ge (a := k) (b := (S 0)) (by omega) (by omega)))) (fun _ => ?_)
        refine bv_blk C frk_L csk_L 5 14 rfl (L1 := ([(3, .int (nI b)), (4, .int (nI k)), (0, .ref 0), (1, .ref 182), (2, .int (0))] : Lc)) (st1 := ([.int (nI k), .int (1), .ref 0] : List Value)) (w1 := (layZ g sv σ τ ρ c9 ev)) (by rfl) ?_
        refine bv_cE (As := ([.int (1), .int (nI k)] : List Value)) (rest := ([] : List Value)) (v := .int (g 1 (39 + k))) C rfl (fc_heard1 (aD_E hE) g sv σ τ hσ ρ c9 (S 0) k hS hS2 (by omega)) ml_L_62 im_X8_heard sel_X8_heard ini_X8 cd_X8_heard ok_X8_heard rfl ⟨Nat.le_of_ble_eq_true rfl, Nat.le_of_ble_eq_true rfl⟩ ⟨Nat.zero_le _, Nat.zero_le _⟩ rfl (fun _ => rfl) (fun _ => rfl) (Nat.le_of_ble_eq_true rfl) ?_
        refine bv_blk C frk_L csk_L 3 18 rfl (L1 := ([(5, .int (g 1 (39 + k))), (3, .int (nI b)), (4, .int (nI k)), (0, .ref 0), (1, .ref 182), (2, .int (0))] : Lc)) (st1 := ([.int (-100000), .int (g 1 (39 + k))] : List Value)) (w1 := (layZ g sv σ τ ρ c9 ev)) (by rfl) ?_
        refine bv_icmp_eq (j := 31) C rfl rfl (fun c6 => ?_) (fun c6 => ?_)
        · refine bv_blk C frk_L csk_L 3 34 rfl (L1 := ([(4, .int ((nI k) + Int32.ofInt 1)), (3, .int (nI b)), (5, .int (g 1 (39 + k))), (0, .ref 0), (1, .ref 182), (2, .int (0))] : Lc)) (st1 := ([] : List Value)) (w1 := (layZ g sv σ τ ρ c9 ev)) (by rfl) ?_
          rw [show ((nI k) + Int32.ofInt 1) = nI (k + 1) from (nIi rfl)]
          refine bv_goto (j := 4) C rfl rfl ?_
          refine bv_sub [1, 0, 3, 4, 5] (by rfl) ?_
          exact ih (k + 1) (some b) (by omega) (fun b2 z => by cases z; have := ho b rfl; omega) (h9.trans (congrArg (fun o => bstF (fun k => g 1 (39 + k)) n (k + 1) o) (show bstS (fun k => g 1 (39 + k)) k (some b) = (some b) from if_pos c6)))
        · refine bv_blk C frk_L csk_L 1 20 rfl (L1 := ([(5, .int (g 1 (39 + k))), (3, .int (nI b)), (4, .int (nI k)), (0, .ref 0), (1, .ref 182), (2, .int (0))] : Lc)) (st1 := ([.int (nI b)] : List Value)) (w1 := (layZ g sv σ τ ρ c9 ev)) (by rfl) ?_
          refine bv_if_lt (j := 29) C rfl rfl (fun h => absurd h (nI_nlt (a := b) (b := 0) (by have := ho b rfl; omega) (by have := ho b rfl; omega))) (fun _ => ?_)
          refine bv_blk C frk_L csk_L 6 27 rfl (L1 := ([(5, .int (g 1 (39 + k))), (3, .int (nI b)), (4, .int (nI k)), (0, .ref 0), (1, .ref 182), (2, .int (0))] : Lc)) (st1 := ([.int (nI b), .int (1), .ref 0, .int (g 1 (39 + k))] : List Value)) (w1 := (layZ g sv σ τ ρ c9 ev)) (by rfl) ?_
          refine bv_cE (As := ([.int (1), .int (nI b)] : List Value)) (rest := ([.int (g 1 (39 + k))] : List Value)) (v := .int (g 1 (39 + b))) C rfl (fc_heard1 (aD_E hE) g sv σ τ hσ ρ c9 (S 0) b hS hS2 (by have := ho b rfl; omega)) ml_L_62 im_X8_heard sel_X8_heard ini_X8 cd_X8_heard ok_X8_heard rfl ⟨Nat.le_of_ble_eq_true rfl, Nat.le_of_ble_eq_true rfl⟩ ⟨Nat.zero_le _, Nat.zero_le _⟩ rfl (fun _ => rfl) (fun _ => rfl) (Nat.le_of_ble_eq_true rfl) ?_
          refine bv_icmp_lt (j := 31) C rfl rfl (fun c8 => ?_) (fun c8 => ?_)
          · refine bv_blk C frk_L csk_L 3 34 rfl (L1 := ([(4, .int ((nI k) + Int32.ofInt 1)), (3, .int (nI b)), (5, .int (g 1 (39 + k))), (0, .ref 0), (1, .ref 182), (2, .int (0))] : Lc)) (st1 := ([] : List Value)) (w1 := (layZ g sv σ τ ρ c9 ev)) (by rfl) ?_
            rw [show ((nI k) + Int32.ofInt 1) = nI (k + 1) from (nIi rfl)]
            refine bv_goto (j := 4) C rfl rfl ?_
            refine bv_sub [1, 0, 3, 4, 5] (by rfl) ?_
            exact ih (k + 1) (some b) (by omega) (fun b2 z => by cases z; have := ho b rfl; omega) (h9.trans (congrArg (fun o => bstF (fun k => g 1 (39 + k)) n (k + 1) o) (show bstS (fun k => g 1 (39 + k)) k (some b) = (some b) from ((if_neg c6)).trans (if_pos c8))))
          · refine bv_blk C frk_L csk_L 1 30 rfl (L1 := ([(5, .int (g 1 (39 + k))), (3, .int (nI b)), (4, .int (nI k)), (0, .ref 0), (1, .ref 182), (2, .int (0))] : Lc)) (st1 := ([.int (nI k)] : List Value)) (w1 := (layZ g sv σ τ ρ c9 ev)) (by rfl) ?_
            refine bv_goto (j := 32) C rfl rfl ?_
            refine bv_blk C frk_L csk_L 2 34 rfl (L1 := ([(4, .int ((nI k) + Int32.ofInt 1)), (3, .int (nI k)), (5, .int (g 1 (39 + k))), (0, .ref 0), (1, .ref 182), (2, .int (0))] : Lc)) (st1 := ([] : List Value)) (w1 := (layZ g sv σ τ ρ c9 ev)) (by rfl) ?_
            rw [show ((nI k) + Int32.ofInt 1) = nI (k + 1) from (nIi rfl)]
            refine bv_goto (j := 4) C rfl rfl ?_
            refine bv_sub [1, 0, 3, 4, 5] (by rfl) ?_
            exact ih (k + 1) (some k) (by omega) (fun b z => by cases z; omega) (h9.trans (congrArg (fun o => bstF (fun k => g 1 (39 + k)) n (k + 1) o) (show bstS (fun k => g 1 (39 + k)) k (some b) = (some k) from ((if_neg c6)).trans (if_neg c8))))
  refine bv_sub [1, 0, 2, 3, 4] (by rfl) ?_
  exact lp (S 0) 0 none (by omega) (fun b z => by cases z) rfl
set_option maxRecDepth 100000 in
set_option maxHeartbeats 4000000 in
theorem lx_best1 {l : Launch} {D : va_G} {cA : FieldType → ClassId} {z0 : Nat} {SK : Nat → Nat} {SV : Nat → Int32} {ad : Nat → Nat} (hE : aD (fun q => z0 ≤ q) ad 183) (g sv : Nat → Nat → Int32) (σ τ : Nat → Nat → Nat) (ρ : Nat → Nat) (c9 : Nat) (ev : Nat → Int32) (hσ : pmF σ τ) (S : Nat → Nat) (hS : g 1 35 = nI (S 1)) (hS2 : S 1 ≤ 16) (he : ev 1 = nI (S 1)) : bF l D cA z0 SK SV ad shZ 183 yL_best cL_best 6 (some .int) 2 [.ref 0, .ref 182, .int (1)] (layZ g sv σ τ ρ c9 ev) (some (.int (bsL (fun k => g 1 (19 + k)) (S 1)))) (layZ g sv σ τ ρ c9 ev) := by
  refine bCT_intro (tb := tb_L_best) (own := RL) hE pn_L rfl tk_L_best rfl (Nat.le_of_ble_eq_true rfl) ?_
  intro p e s0 m args below meth c C hr
  refine bv_blk C frk_L csk_L 4 4 rfl (L1 := ([(4, .int (0)), (3, .int (-1)), (0, .ref 0), (1, .ref 182), (2, .int (1))] : Lc)) (st1 := ([] : List Value)) (w1 := (layZ g sv σ τ ρ c9 ev)) (by rfl) ?_
  have lp : ∀ (n k : Nat) (o : Option Nat), k + n = S 1 → (∀ b, o = some b → b < k) → bstF (fun k => g 1 (19 + k)) (S 1) 0 none = bstF (fun k => g 1 (19 + k)) n k o → bV p l e (bR 2) s0 m args below meth c D cA shZ (adA ad 183) 6 tb_L_best (MQ below (bQ D cA ad shZ 183 (fun r w1 => r = (some (.int (bsL (fun k => g 1 (19 + k)) (S 1)))) ∧ w1 = (layZ g sv σ τ ρ c9 ev))) args s0 0 0 (adA ad 183)) ad 183 0 0 (layZ g sv σ τ ρ c9 ev) 4 ([(3, .int (bi o)), (4, .int (nI k)), (0, .ref 0), (1, .ref 182), (2, .int (1))] : Lc) ([] : List Value) := by
    intro n
    induction n with
    | zero =>
      intro k o hk ho h9
      refine bv_blk C frk_L csk_L 3 7 rfl (L1 := ([(3, .int (bi o)), (4, .int (nI k)), (0, .ref 0), (1, .ref 182), (2, .int (1))] : Lc)) (st1 := ([.int (1), .ref 182, .int (nI k)] : List Value)) (w1 := (layZ g sv σ τ ρ c9 ev)) (by rfl) ?_
      refine bv_iald C rfl rfl (by decide) (j := 1) (by exact rfl) (by first | decide | omega) (by decide) (y := (ev 1)) (by rfl) ?_
      refine bv_icmp_ge (j := 35) C rfl rfl (fun _ => ?_) (fun h => absurd (by rw [show (ev 1) = nI (S 1) from he]; exact (nI_le (a := (S 1)) (b := k) (by omega) (by omega))) h)
      refine bv_blk C frk_L csk_L 1 36 rfl (L1 := ([(3, .int (bi o)), (4, .int (nI k)), (0, .ref 0), (1, .ref 182), (2, .int (1))] : Lc)) (st1 := ([.int (bi o)] : List Value)) (w1 := (layZ g sv σ τ ρ c9 ev)) (by rfl) ?_
      exact bv_iret C rfl hr rfl ⟨by rw [show bsL (fun k => g 1 (19 + k)) (S 1) = bi o from congrArg bi h9], rfl⟩
    | succ n ih =>
      intro k o hk ho h9
      rcases o with _ | b
      · refine bv_blk C frk_L csk_L 3 7 rfl (L1 := ([(3, .int (-1)), (4, .int (nI k)), (0, .ref 0), (1, .ref 182), (2, .int (1))] : Lc)) (st1 := ([.int (1), .ref 182, .int (nI k)] : List Value)) (w1 := (layZ g sv σ τ ρ c9 ev)) (by rfl) ?_
        refine bv_iald C rfl rfl (by decide) (j := 1) (by exact rfl) (by first | decide | omega) (by decide) (y := (ev 1)) (by rfl) ?_
        refine bv_icmp_ge (j := 35) C rfl rfl (fun h => absurd h (by rw [show (ev 1) = nI (S 1) from he]; exact (nI_ge (a := k) (b := (S 1)) (by omega) (by omega)))) (fun _ => ?_)
        refine bv_blk C frk_L csk_L 5 14 rfl (L1 := ([(3, .int (-1)), (4, .int (nI k)), (0, .ref 0), (1, .ref 182), (2, .int (1))] : Lc)) (st1 := ([.int (nI k), .int (0), .ref 0] : List Value)) (w1 := (layZ g sv σ τ ρ c9 ev)) (by rfl) ?_
        refine bv_cE (As := ([.int (0), .int (nI k)] : List Value)) (rest := ([] : List Value)) (v := .int (g 1 (19 + k))) C rfl (fc_heard0 (aD_E hE) g sv σ τ hσ ρ c9 (S 1) k hS hS2 (by omega)) ml_L_62 im_X8_heard sel_X8_heard ini_X8 cd_X8_heard ok_X8_heard rfl ⟨Nat.le_of_ble_eq_true rfl, Nat.le_of_ble_eq_true rfl⟩ ⟨Nat.zero_le _, Nat.zero_le _⟩ rfl (fun _ => rfl) (fun _ => rfl) (Nat.le_of_ble_eq_true rfl) ?_
        refine bv_blk C frk_L csk_L 3 18 rfl (L1 := ([(5, .int (g 1 (19 + k))), (3, .int (-1)), (4, .int (nI k)), (0, .ref 0), (1, .ref 182), (2, .int (1))] : Lc)) (st1 := ([.int (-100000), .int (g 1 (19 + k))] : List Value)) (w1 := (layZ g sv σ τ ρ c9 ev)) (by rfl) ?_
        refine bv_icmp_eq (j := 31) C rfl rfl (fun c3 => ?_) (fun c3 => ?_)
        · refine bv_blk C frk_L csk_L 3 34 rfl (L1 := ([(4, .int ((nI k) + Int32.ofInt 1)), (3, .int (-1)), (5, .int (g 1 (19 + k))), (0, .ref 0), (1, .ref 182), (2, .int (1))] : Lc)) (st1 := ([] : List Value)) (w1 := (layZ g sv σ τ ρ c9 ev)) (by rfl) ?_
          rw [show ((nI k) + Int32.ofInt 1) = nI (k + 1) from (nIi rfl)]
          refine bv_goto (j := 4) C rfl rfl ?_
          refine bv_sub [1, 0, 3, 4, 5] (by rfl) ?_
          exact ih (k + 1) none (by omega) (fun b z => by cases z) (h9.trans (congrArg (fun o => bstF (fun k => g 1 (19 + k)) n (k + 1) o) (show bstS (fun k => g 1 (19 + k)) k none = none from if_pos c3)))
        · refine bv_blk C frk_L csk_L 1 20 rfl (L1 := ([(5, .int (g 1 (19 + k))), (3, .int (-1)), (4, .int (nI k)), (0, .ref 0), (1, .ref 182), (2, .int (1))] : Lc)) (st1 := ([.int (-1)] : List Value)) (w1 := (layZ g sv σ τ ρ c9 ev)) (by rfl) ?_
          refine bv_if_lt (j := 29) C rfl rfl (fun _ => ?_) (fun h => absurd h (by decide))
          refine bv_blk C frk_L csk_L 1 30 rfl (L1 := ([(5, .int (g 1 (19 + k))), (3, .int (-1)), (4, .int (nI k)), (0, .ref 0), (1, .ref 182), (2, .int (1))] : Lc)) (st1 := ([.int (nI k)] : List Value)) (w1 := (layZ g sv σ τ ρ c9 ev)) (by rfl) ?_
          refine bv_goto (j := 32) C rfl rfl ?_
          refine bv_blk C frk_L csk_L 2 34 rfl (L1 := ([(4, .int ((nI k) + Int32.ofInt 1)), (3, .int (nI k)), (5, .int (g 1 (19 + k))), (0, .ref 0), (1, .ref 182), (2, .int (1))] : Lc)) (st1 := ([] : List Value)) (w1 := (layZ g sv σ τ ρ c9 ev)) (by rfl) ?_
          rw [show ((nI k) + Int32.ofInt 1) = nI (k + 1) from (nIi rfl)]
          refine bv_goto (j := 4) C rfl rfl ?_
          refine bv_sub [1, 0, 3, 4, 5] (by rfl) ?_
          exact ih (k + 1) (some k) (by omega) (fun b z => by cases z; omega) (h9.trans (congrArg (fun o => bstF (fun k => g 1 (19 + k)) n (k + 1) o) (show bstS (fun k => g 1 (19 + k)) k none = (some k) from (if_neg c3))))
      · refine bv_blk C frk_L csk_L 3 7 rfl (L1 := ([(3, .int (nI b)), (4, .int (nI k)), (0, .ref 0), (1, .ref 182), (2, .int (1))] : Lc)) (st1 := ([.int (1), .ref 182, .int (nI k)] : List Value)) (w1 := (layZ g sv σ τ ρ c9 ev)) (by rfl) ?_
        refine bv_iald C rfl rfl (by decide) (j := 1) (by exact rfl) (by first | decide | omega) (by decide) (y := (ev 1)) (by rfl) ?_
        refine bv_icmp_ge (j := 35) C rfl rfl (fun h => absurd h (by rw [show (ev 1) = nI (S 1) from he]; exact (nI_ge (a := k) (b := (S 1)) (by omega) (by omega)))) (fun _ => ?_)
        refine bv_blk C frk_L csk_L 5 14 rfl (L1 := ([(3, .int (nI b)), (4, .int (nI k)), (0, .ref 0), (1, .ref 182), (2, .int (1))] : Lc)) (st1 := ([.int (nI k), .int (0), .ref 0] : List Value)) (w1 := (layZ g sv σ τ ρ c9 ev)) (by rfl) ?_
        refine bv_cE (As := ([.int (0), .int (nI k)] : List Value)) (rest := ([] : List Value)) (v := .int (g 1 (19 + k))) C rfl (fc_heard0 (aD_E hE) g sv σ τ hσ ρ c9 (S 1) k hS hS2 (by omega)) ml_L_62 im_X8_heard sel_X8_heard ini_X8 cd_X8_heard ok_X8_heard rfl ⟨Nat.le_of_ble_eq_true rfl, Nat.le_of_ble_eq_true rfl⟩ ⟨Nat.zero_le _, Nat.zero_le _⟩ rfl (fun _ => rfl) (fun _ => rfl) (Nat.le_of_ble_eq_true rfl) ?_
        refine bv_blk C frk_L csk_L 3 18 rfl (L1 := ([(5, .int (g 1 (19 + k))), (3, .int (nI b)), (4, .int (nI k)), (0, .ref 0), (1, .ref 182), (2, .int (1))] : Lc)) (st1 := ([.int (-100000), .int (g 1 (19 + k))] : List Value)) (w1 := (layZ g sv σ τ ρ c9 ev)) (by rfl) ?_
        refine bv_icmp_eq (j := 31) C rfl rfl (fun c6 => ?_) (fun c6 => ?_)
        · refine bv_blk C frk_L csk_L 3 34 rfl (L1 := ([(4, .int ((nI k) + Int32.ofInt 1)), (3, .int (nI b)), (5, .int (g 1 (19 + k))), (0, .ref 0), (1, .ref 182), (2, .int (1))] : Lc)) (st1 := ([] : List Value)) (w1 := (layZ g sv σ τ ρ c9 ev)) (by rfl) ?_
          rw [show ((nI k) + Int32.ofInt 1) = nI (k + 1) from (nIi rfl)]
          refine bv_goto (j := 4) C rfl rfl ?_
          refine bv_sub [1, 0, 3, 4, 5] (by rfl) ?_
          exact ih (k + 1) (some b) (by omega) (fun b2 z => by cases z; have := ho b rfl; omega) (h9.trans (congrArg (fun o => bstF (fun k => g 1 (19 + k)) n (k + 1) o) (show bstS (fun k => g 1 (19 + k)) k (some b) = (some b) from if_pos c6)))
        · refine bv_blk C frk_L csk_L 1 20 rfl (L1 := ([(5, .int (g 1 (19 + k))), (3, .int (nI b)), (4, .int (nI k)), (0, .ref 0), (1, .ref 182), (2, .int (1))] : Lc)) (st1 := ([.int (nI b)] : List Value)) (w1 := (layZ g sv σ τ ρ c9 ev)) (by rfl) ?_
          refine bv_if_lt (j := 29) C rfl rfl (fun h => absurd h (nI_nlt (a := b) (b := 0) (by have := ho b rfl; omega) (by have := ho b rfl; omega))) (fun _ => ?_)
          refine bv_blk C frk_L csk_L 6 27 rfl (L1 := ([(5, .int (g 1 (19 + k))), (3, .int (nI b)), (4, .int (nI k)), (0, .ref 0), (1, .ref 182), (2, .int (1))] : Lc)) (st1 := ([.int (nI b), .int (0), .ref 0, .int (g 1 (19 + k))] : List Value)) (w1 := (layZ g sv σ τ ρ c9 ev)) (by rfl) ?_
          refine bv_cE (As := ([.int (0), .int (nI b)] : List Value)) (rest := ([.int (g 1 (19 + k))] : List Value)) (v := .int (g 1 (19 + b))) C rfl (fc_heard0 (aD_E hE) g sv σ τ hσ ρ c9 (S 1) b hS hS2 (by have := ho b rfl; omega)) ml_L_62 im_X8_heard sel_X8_heard ini_X8 cd_X8_heard ok_X8_heard rfl ⟨Nat.le_of_ble_eq_true rfl, Nat.le_of_ble_eq_true rfl⟩ ⟨Nat.zero_le _, Nat.zero_le _⟩ rfl (fun _ => rfl) (fun _ => rfl) (Nat.le_of_ble_eq_true rfl) ?_
          refine bv_icmp_lt (j := 31) C rfl rfl (fun c8 => ?_) (fun c8 => ?_)
          · refine bv_blk C frk_L csk_L 3 34 rfl (L1 := ([(4, .int ((nI k) + Int32.ofInt 1)), (3, .int (nI b)), (5, .int (g 1 (19 + k))), (0, .ref 0), (1, .ref 182), (2, .int (1))] : Lc)) (st1 := ([] : List Value)) (w1 := (layZ g sv σ τ ρ c9 ev)) (by rfl) ?_
            rw [show ((nI k) + Int32.ofInt 1) = nI (k + 1) from (nIi rfl)]
            refine bv_goto (j := 4) C rfl rfl ?_
            refine bv_sub [1, 0, 3, 4, 5] (by rfl) ?_
            exact ih (k + 1) (some b) (by omega) (fun b2 z => by cases z; have := ho b rfl; omega) (h9.trans (congrArg (fun o => bstF (fun k => g 1 (19 + k)) n (k + 1) o) (show bstS (fun k => g 1 (19 + k)) k (some b) = (some b) from ((if_neg c6)).trans (if_pos c8))))
          · refine bv_blk C frk_L csk_L 1 30 rfl (L1 := ([(5, .int (g 1 (19 + k))), (3, .int (nI b)), (4, .int (nI k)), (0, .ref 0), (1, .ref 182), (2, .int (1))] : Lc)) (st1 := ([.int (nI k)] : List Value)) (w1 := (layZ g sv σ τ ρ c9 ev)) (by rfl) ?_
            refine bv_goto (j := 32) C rfl rfl ?_
            refine bv_blk C frk_L csk_L 2 34 rfl (L1 := ([(4, .int ((nI k) + Int32.ofInt 1)), (3, .int (nI k)), (5, .int (g 1 (19 + k))), (0, .ref 0), (1, .ref 182), (2, .int (1))] : Lc)) (st1 := ([] : List Value)) (w1 := (layZ g sv σ τ ρ c9 ev)) (by rfl) ?_
            rw [show ((nI k) + Int32.ofInt 1) = nI (k + 1) from (nIi rfl)]
            refine bv_goto (j := 4) C rfl rfl ?_
            refine bv_sub [1, 0, 3, 4, 5] (by rfl) ?_
            exact ih (k + 1) (some k) (by omega) (fun b z => by cases z; omega) (h9.trans (congrArg (fun o => bstF (fun k => g 1 (19 + k)) n (k + 1) o) (show bstS (fun k => g 1 (19 + k)) k (some b) = (some k) from ((if_neg c6)).trans (if_neg c8))))
  refine bv_sub [1, 0, 2, 3, 4] (by rfl) ?_
  exact lp (S 1) 0 none (by omega) (fun b z => by cases z) rfl
/-- the latest event is another one than tracking's or a lost link's, of the present interval -/
def oth (g : Nat → Nat → Int32) : Prop := ∃ E : Nat, E < 20 ∧ g 1 14 = nI (E + 1) ∧ g 1 (112 + 3 * E + 2) = g 1 2 ∧ g 1 (112 + 3 * E) ≠ 4 ∧ g 1 (112 + 3 * E) ≠ 2
theorem oth_0 {g : Nat → Nat → Int32} {E k : Nat} (hE : g 1 14 = nI E) (hE2 : E ≤ 20) (hk : k = 0) (h : oth g) : 0 < E ∧ g 1 (112 + 3 * (E - 1 - k) + 2) = g 1 2 ∧ g 1 (112 + 3 * (E - 1 - k)) ≠ 4 ∧ g 1 (112 + 3 * (E - 1 - k)) ≠ 2 := by
  obtain ⟨F, h1, h2, h3, h4, h5⟩ := h
  have e : E = F + 1 := nIij (by omega) (by omega) (hE.symm.trans h2)
  subst e
  subst hk
  rw [show F + 1 - 1 - 0 = F by omega]
  exact ⟨by omega, h3, h4, h5⟩
def hoP (g : Nat → Nat → Int32) (w : Wd) : Option Value → Wd → Prop := fun r w1 => (∃ b : Int32, b01 b ∧ (oth g → b = 1) ∧ r = some (.int b)) ∧ w1 = w
set_option maxRecDepth 100000 in
set_option maxHeartbeats 4000000 in
theorem lx_hasOther {l : Launch} {D : va_G} {cA : FieldType → ClassId} {z0 : Nat} {SK : Nat → Nat} {SV : Nat → Int32} {ad : Nat → Nat} (hE : aD (fun q => z0 ≤ q) ad 183) (g sv : Nat → Nat → Int32) (σ τ : Nat → Nat → Nat) (ρ : Nat → Nat) (c9 : Nat) (ev : Nat → Int32) (hσ : pmF σ τ) (E : Nat) (hEv : g 1 14 = nI E) (hE2 : E ≤ 20) : bCT l D cA z0 SK SV ad shZ 183 yL_hasOther cL_hasOther 3 (some .boolean) 2 [.ref 0] (layZ g sv σ τ ρ c9 ev) (hoP g (layZ g sv σ τ ρ c9 ev)) := by
  refine bCT_intro (tb := tb_L_hasOther) (own := RL) hE pn_L rfl tk_L_hasOther rfl (Nat.le_of_ble_eq_true rfl) ?_
  intro p e s0 m args below meth c C hr
  refine bv_blk C frk_L csk_L 4 4 rfl (L1 := ([(2, .int (0)), (1, .int (0)), (0, .ref 0)] : Lc)) (st1 := ([] : List Value)) (w1 := (layZ g sv σ τ ρ c9 ev)) (by rfl) ?_
  have lp : ∀ (n k : Nat) (b : Int32), k + n = 4 → b01 b → (1 ≤ k → oth g → b = 1) → bV p l e (bR 2) s0 m args below meth c D cA shZ (adA ad 183) 3 tb_L_hasOther (MQ below (bQ D cA ad shZ 183 (hoP g (layZ g sv σ τ ρ c9 ev))) args s0 0 0 (adA ad 183)) ad 183 0 0 (layZ g sv σ τ ρ c9 ev) 4 ([(1, .int b), (2, .int (nI k)), (0, .ref 0)] : Lc) ([] : List Value) := by
    intro n
    induction n with
    | zero =>
      intro k b hk hb h1
      refine bv_blk C frk_L csk_L 2 6 rfl (L1 := ([(1, .int b), (2, .int (nI k)), (0, .ref 0)] : Lc)) (st1 := ([.int (4), .int (nI k)] : List Value)) (w1 := (layZ g sv σ τ ρ c9 ev)) (by rfl) ?_
      refine bv_icmp_ge (j := 35) C rfl rfl (fun _ => ?_) (fun h => absurd (nI_le (a := 4) (b := k) (by omega) (by omega)) h)
      refine bv_blk C frk_L csk_L 1 36 rfl (L1 := ([(1, .int b), (2, .int (nI k)), (0, .ref 0)] : Lc)) (st1 := ([.int b] : List Value)) (w1 := (layZ g sv σ τ ρ c9 ev)) (by rfl) ?_
      exact bv_iret C rfl hr (nar_01 hb (fun a => a)) ⟨⟨b, hb, h1 (by omega), rfl⟩, rfl⟩
    | succ n ih =>
      intro k b hk hb h1
      by_cases hkE : k < E
      · rcases hb with rfl | rfl
        · refine bv_blk C frk_L csk_L 2 6 rfl (L1 := ([(1, .int (0)), (2, .int (nI k)), (0, .ref 0)] : Lc)) (st1 := ([.int (4), .int (nI k)] : List Value)) (w1 := (layZ g sv σ τ ρ c9 ev)) (by rfl) ?_
          refine bv_icmp_ge (j := 35) C rfl rfl (fun h => absurd h (nI_ge (a := k) (b := 4) (by omega) (by omega))) (fun _ => ?_)
          refine bv_blk C frk_L csk_L 2 9 rfl (L1 := ([(1, .int (0)), (2, .int (nI k)), (0, .ref 0)] : Lc)) (st1 := ([.ref 0, .int (nI k)] : List Value)) (w1 := (layZ g sv σ τ ρ c9 ev)) (by rfl) ?_
          refine bv_cE (As := ([] : List Value)) (rest := ([.int (nI k)] : List Value)) (v := .int (g 1 14)) C rfl (fc_eventCount (aD_E hE) g sv σ τ hσ ρ c9) ml_L_88 im_X8_eventCount sel_X8_eventCount ini_X8 cd_X8_eventCount ok_X8_eventCount rfl ⟨Nat.le_of_ble_eq_true rfl, Nat.le_of_ble_eq_true rfl⟩ ⟨Nat.zero_le _, Nat.zero_le _⟩ rfl (fun _ => rfl) (fun _ => rfl) (Nat.le_of_ble_eq_true rfl) ?_
          refine bv_icmp_ge (j := 35) C rfl rfl (fun h => absurd h (by rw [show (g 1 14) = nI E from hEv]; exact (nI_ge (a := k) (b := E) (by omega) (by omega)))) (fun _ => ?_)
          refine bv_blk C frk_L csk_L 1 12 rfl (L1 := ([(1, .int (0)), (2, .int (nI k)), (0, .ref 0)] : Lc)) (st1 := ([.int (0)] : List Value)) (w1 := (layZ g sv σ τ ρ c9 ev)) (by rfl) ?_
          refine bv_if_ne (j := 29) C rfl rfl (fun h => absurd h (by decide)) (fun _ => ?_)
          refine bv_blk C frk_L csk_L 2 15 rfl (L1 := ([(1, .int (0)), (2, .int (nI k)), (0, .ref 0)] : Lc)) (st1 := ([.int (nI k), .ref 0] : List Value)) (w1 := (layZ g sv σ τ ρ c9 ev)) (by rfl) ?_
          refine bv_cE (As := ([.int (nI k)] : List Value)) (rest := ([] : List Value)) (v := .int (g 1 (112 + 3 * (E - 1 - k) + 2))) C rfl (fc_eventInterval (aD_E hE) g sv σ τ hσ ρ c9 E k hEv hE2 hkE) ml_L_91 im_X8_eventInterval sel_X8_eventInterval ini_X8 cd_X8_eventInterval ok_X8_eventInterval rfl ⟨Nat.le_of_ble_eq_true rfl, Nat.le_of_ble_eq_true rfl⟩ ⟨Nat.zero_le _, Nat.zero_le _⟩ rfl (fun _ => rfl) (fun _ => rfl) (Nat.le_of_ble_eq_true rfl) ?_
          refine bv_blk C frk_L csk_L 1 17 rfl (L1 := ([(1, .int (0)), (2, .int (nI k)), (0, .ref 0)] : Lc)) (st1 := ([.ref 0, .int (g 1 (112 + 3 * (E - 1 - k) + 2))] : List Value)) (w1 := (layZ g sv σ τ ρ c9 ev)) (by rfl) ?_
          refine bv_cE (As := ([] : List Value)) (rest := ([.int (g 1 (112 + 3 * (E - 1 - k) + 2))] : List Value)) (v := .int (g 1 2)) C rfl (fc_interval (aD_E hE) g sv σ τ hσ ρ c9) ml_L_94 im_X8_interval sel_X8_interval ini_X8 cd_X8_interval ok_X8_interval rfl ⟨Nat.le_of_ble_eq_true rfl, Nat.le_of_ble_eq_true rfl⟩ ⟨Nat.zero_le _, Nat.zero_le _⟩ rfl (fun _ => rfl) (fun _ => rfl) (Nat.le_of_ble_eq_true rfl) ?_
          refine bv_icmp_ne (j := 31) C rfl rfl (fun c5 => ?_) (fun c5 => ?_)
          · refine bv_blk C frk_L csk_L 3 34 rfl (L1 := ([(2, .int ((nI k) + Int32.ofInt 1)), (1, .int (0)), (0, .ref 0)] : Lc)) (st1 := ([] : List Value)) (w1 := (layZ g sv σ τ ρ c9 ev)) (by rfl) ?_
            rw [show ((nI k) + Int32.ofInt 1) = nI (k + 1) from (nIi rfl)]
            refine bv_goto (j := 4) C rfl rfl ?_
            refine bv_sub [1, 0, 2] (by rfl) ?_
            exact ih (k + 1) 0 (by omega) (Or.inl rfl) (fun _ o => (Nat.eq_zero_or_pos k).elim (fun z => absurd (oth_0 hEv hE2 z o).2.1 c5) (fun z => absurd (h1 z o) (by decide)))
          · refine bv_blk C frk_L csk_L 2 21 rfl (L1 := ([(1, .int (0)), (2, .int (nI k)), (0, .ref 0)] : Lc)) (st1 := ([.int (nI k), .ref 0] : List Value)) (w1 := (layZ g sv σ τ ρ c9 ev)) (by rfl) ?_
            refine bv_cE (As := ([.int (nI k)] : List Value)) (rest := ([] : List Value)) (v := .int (g 1 (112 + 3 * (E - 1 - k)))) C rfl (fc_eventKind (aD_E hE) g sv σ τ hσ ρ c9 E k hEv hE2 hkE) ml_L_97 im_X8_eventKind sel_X8_eventKind ini_X8 cd_X8_eventKind ok_X8_eventKind rfl ⟨Nat.le_of_ble_eq_true rfl, Nat.le_of_ble_eq_true rfl⟩ ⟨Nat.zero_le _, Nat.zero_le _⟩ rfl (fun _ => rfl) (fun _ => rfl) (Nat.le_of_ble_eq_true rfl) ?_
            refine bv_blk C frk_L csk_L 1 23 rfl (L1 := ([(1, .int (0)), (2, .int (nI k)), (0, .ref 0)] : Lc)) (st1 := ([.int (4), .int (g 1 (112 + 3 * (E - 1 - k)))] : List Value)) (w1 := (layZ g sv σ τ ρ c9 ev)) (by rfl) ?_
            refine bv_icmp_eq (j := 31) C rfl rfl (fun c6 => ?_) (fun c6 => ?_)
            · refine bv_blk C frk_L csk_L 3 34 rfl (L1 := ([(2, .int ((nI k) + Int32.ofInt 1)), (1, .int (0)), (0, .ref 0)] : Lc)) (st1 := ([] : List Value)) (w1 := (layZ g sv σ τ ρ c9 ev)) (by rfl) ?_
              rw [show ((nI k) + Int32.ofInt 1) = nI (k + 1) from (nIi rfl)]
              refine bv_goto (j := 4) C rfl rfl ?_
              refine bv_sub [1, 0, 2] (by rfl) ?_
              exact ih (k + 1) 0 (by omega) (Or.inl rfl) (fun _ o => (Nat.eq_zero_or_pos k).elim (fun z => absurd c6 (oth_0 hEv hE2 z o).2.2.1) (fun z => absurd (h1 z o) (by decide)))
            · refine bv_blk C frk_L csk_L 2 26 rfl (L1 := ([(1, .int (0)), (2, .int (nI k)), (0, .ref 0)] : Lc)) (st1 := ([.int (nI k), .ref 0] : List Value)) (w1 := (layZ g sv σ τ ρ c9 ev)) (by rfl) ?_
              refine bv_cE (As := ([.int (nI k)] : List Value)) (rest := ([] : List Value)) (v := .int (g 1 (112 + 3 * (E - 1 - k)))) C rfl (fc_eventKind (aD_E hE) g sv σ τ hσ ρ c9 E k hEv hE2 hkE) ml_L_97 im_X8_eventKind sel_X8_eventKind ini_X8 cd_X8_eventKind ok_X8_eventKind rfl ⟨Nat.le_of_ble_eq_true rfl, Nat.le_of_ble_eq_true rfl⟩ ⟨Nat.zero_le _, Nat.zero_le _⟩ rfl (fun _ => rfl) (fun _ => rfl) (Nat.le_of_ble_eq_true rfl) ?_
              refine bv_blk C frk_L csk_L 1 28 rfl (L1 := ([(1, .int (0)), (2, .int (nI k)), (0, .ref 0)] : Lc)) (st1 := ([.int (2), .int (g 1 (112 + 3 * (E - 1 - k)))] : List Value)) (w1 := (layZ g sv σ τ ρ c9 ev)) (by rfl) ?_
              refine bv_icmp_eq (j := 31) C rfl rfl (fun c7 => ?_) (fun c7 => ?_)
              · refine bv_blk C frk_L csk_L 3 34 rfl (L1 := ([(2, .int ((nI k) + Int32.ofInt 1)), (1, .int (0)), (0, .ref 0)] : Lc)) (st1 := ([] : List Value)) (w1 := (layZ g sv σ τ ρ c9 ev)) (by rfl) ?_
                rw [show ((nI k) + Int32.ofInt 1) = nI (k + 1) from (nIi rfl)]
                refine bv_goto (j := 4) C rfl rfl ?_
                refine bv_sub [1, 0, 2] (by rfl) ?_
                exact ih (k + 1) 0 (by omega) (Or.inl rfl) (fun _ o => (Nat.eq_zero_or_pos k).elim (fun z => absurd c7 (oth_0 hEv hE2 z o).2.2.2) (fun z => absurd (h1 z o) (by decide)))
              · refine bv_blk C frk_L csk_L 1 30 rfl (L1 := ([(1, .int (0)), (2, .int (nI k)), (0, .ref 0)] : Lc)) (st1 := ([.int (1)] : List Value)) (w1 := (layZ g sv σ τ ρ c9 ev)) (by rfl) ?_
                refine bv_goto (j := 32) C rfl rfl ?_
                refine bv_blk C frk_L csk_L 2 34 rfl (L1 := ([(2, .int ((nI k) + Int32.ofInt 1)), (1, .int (1)), (0, .ref 0)] : Lc)) (st1 := ([] : List Value)) (w1 := (layZ g sv σ τ ρ c9 ev)) (by rfl) ?_
                rw [show ((nI k) + Int32.ofInt 1) = nI (k + 1) from (nIi rfl)]
                refine bv_goto (j := 4) C rfl rfl ?_
                refine bv_sub [1, 0, 2] (by rfl) ?_
                exact ih (k + 1) 1 (by omega) (Or.inr rfl) (fun _ _ => rfl)
        · refine bv_blk C frk_L csk_L 2 6 rfl (L1 := ([(1, .int (1)), (2, .int (nI k)), (0, .ref 0)] : Lc)) (st1 := ([.int (4), .int (nI k)] : List Value)) (w1 := (layZ g sv σ τ ρ c9 ev)) (by rfl) ?_
          refine bv_icmp_ge (j := 35) C rfl rfl (fun h => absurd h (nI_ge (a := k) (b := 4) (by omega) (by omega))) (fun _ => ?_)
          refine bv_blk C frk_L csk_L 2 9 rfl (L1 := ([(1, .int (1)), (2, .int (nI k)), (0, .ref 0)] : Lc)) (st1 := ([.ref 0, .int (nI k)] : List Value)) (w1 := (layZ g sv σ τ ρ c9 ev)) (by rfl) ?_
          refine bv_cE (As := ([] : List Value)) (rest := ([.int (nI k)] : List Value)) (v := .int (g 1 14)) C rfl (fc_eventCount (aD_E hE) g sv σ τ hσ ρ c9) ml_L_88 im_X8_eventCount sel_X8_eventCount ini_X8 cd_X8_eventCount ok_X8_eventCount rfl ⟨Nat.le_of_ble_eq_true rfl, Nat.le_of_ble_eq_true rfl⟩ ⟨Nat.zero_le _, Nat.zero_le _⟩ rfl (fun _ => rfl) (fun _ => rfl) (Nat.le_of_ble_eq_true rfl) ?_
          refine bv_icmp_ge (j := 35) C rfl rfl (fun h => absurd h (by rw [show (g 1 14) = nI E from hEv]; exact (nI_ge (a := k) (b := E) (by omega) (by omega)))) (fun _ => ?_)
          refine bv_blk C frk_L csk_L 1 12 rfl (L1 := ([(1, .int (1)), (2, .int (nI k)), (0, .ref 0)] : Lc)) (st1 := ([.int (1)] : List Value)) (w1 := (layZ g sv σ τ ρ c9 ev)) (by rfl) ?_
          refine bv_if_ne (j := 29) C rfl rfl (fun _ => ?_) (fun h => absurd h (by decide))
          refine bv_blk C frk_L csk_L 1 30 rfl (L1 := ([(1, .int (1)), (2, .int (nI k)), (0, .ref 0)] : Lc)) (st1 := ([.int (1)] : List Value)) (w1 := (layZ g sv σ τ ρ c9 ev)) (by rfl) ?_
          refine bv_goto (j := 32) C rfl rfl ?_
          refine bv_blk C frk_L csk_L 2 34 rfl (L1 := ([(2, .int ((nI k) + Int32.ofInt 1)), (1, .int (1)), (0, .ref 0)] : Lc)) (st1 := ([] : List Value)) (w1 := (layZ g sv σ τ ρ c9 ev)) (by rfl) ?_
          rw [show ((nI k) + Int32.ofInt 1) = nI (k + 1) from (nIi rfl)]
          refine bv_goto (j := 4) C rfl rfl ?_
          refine bv_sub [1, 0, 2] (by rfl) ?_
          exact ih (k + 1) 1 (by omega) (Or.inr rfl) (fun _ _ => rfl)
      · refine bv_blk C frk_L csk_L 2 6 rfl (L1 := ([(1, .int b), (2, .int (nI k)), (0, .ref 0)] : Lc)) (st1 := ([.int (4), .int (nI k)] : List Value)) (w1 := (layZ g sv σ τ ρ c9 ev)) (by rfl) ?_
        refine bv_icmp_ge (j := 35) C rfl rfl (fun h => absurd h (nI_ge (a := k) (b := 4) (by omega) (by omega))) (fun _ => ?_)
        refine bv_blk C frk_L csk_L 2 9 rfl (L1 := ([(1, .int b), (2, .int (nI k)), (0, .ref 0)] : Lc)) (st1 := ([.ref 0, .int (nI k)] : List Value)) (w1 := (layZ g sv σ τ ρ c9 ev)) (by rfl) ?_
        refine bv_cE (As := ([] : List Value)) (rest := ([.int (nI k)] : List Value)) (v := .int (g 1 14)) C rfl (fc_eventCount (aD_E hE) g sv σ τ hσ ρ c9) ml_L_88 im_X8_eventCount sel_X8_eventCount ini_X8 cd_X8_eventCount ok_X8_eventCount rfl ⟨Nat.le_of_ble_eq_true rfl, Nat.le_of_ble_eq_true rfl⟩ ⟨Nat.zero_le _, Nat.zero_le _⟩ rfl (fun _ => rfl) (fun _ => rfl) (Nat.le_of_ble_eq_true rfl) ?_
        refine bv_icmp_ge (j := 35) C rfl rfl (fun _ => ?_) (fun h => absurd (by rw [show (g 1 14) = nI E from hEv]; exact (nI_le (a := E) (b := k) (by omega) (by omega))) h)
        refine bv_blk C frk_L csk_L 1 36 rfl (L1 := ([(1, .int b), (2, .int (nI k)), (0, .ref 0)] : Lc)) (st1 := ([.int b] : List Value)) (w1 := (layZ g sv σ τ ρ c9 ev)) (by rfl) ?_
        exact bv_iret C rfl hr (nar_01 hb (fun a => a)) ⟨⟨b, hb, fun o => h1 (by have := (oth_0 (k := 0) hEv hE2 rfl o).1; omega) o, rfl⟩, rfl⟩
  refine bv_sub [1, 0, 2] (by rfl) ?_
  exact lp 4 0 0 rfl (Or.inl rfl) (fun z => absurd z (by omega))
