theorem emb_F0 {g s : Nat → Nat → Int32} {σ τ : Nat → Nat → Nat} {ρ : Nat → Nat} {c : Nat} (hσ : pmF σ τ) : bEmb (io 0) 26 shB (layB g (σ 0) (τ 0)) 182 shF (layF g s σ τ ρ c) := emb_F (b := 0) (by decide)
/-- what is saved where -/
def rtS (ρ : Nat → Nat) : Nat → Nat := fun j => if j < 5 then ρ (j + 1) else ρ 0
def svb (ρ : Nat → Nat) (c : Nat) : Nat := if c = 6 then ρ 0 else ρ c
def svr (ρ : Nat → Nat) (c : Nat) : Nat → Nat := if c = 6 then rtS ρ else ρ
def svc (c : Nat) : Nat := if c = 6 then 6 else c + 1
def svs (g s : Nat → Nat → Int32) (ρ : Nat → Nat) (c : Nat) : Nat → Nat → Int32 := sS s (2 + svb ρ c) (g 1)
def bo3 (f : Nat → Int32) : Prop := ∀ k, (k = 0 ∨ k = 8 ∨ k = 11) → (f k = 0 ∨ f k = 1)
theorem rf_eq {x : Nat} {A : Nat} (h : A = 2 + x) : 50 + 22 * x = io2 A 0 0 := by
  rw [h, io2_a (by omega)]
  omega
theorem st_sh {x : Nat} (h : x < 6) : shF (50 + 22 * x) = .inr (5, 18) ∧ 50 + 22 * x < 182 := by
  refine ⟨?_, by omega⟩
  rw [show 50 + 22 * x = (44 + 22 * x) + 6 by omega, shF_n, show (44 + 22 * x) % 22 = 0 by omega]
  rfl
theorem rt_eq {ρ : Nat → Nat} : ∀ j, j < 6 → upN (upN (upN (upN (upN (upN ρ 0 (ρ 1)) 1 (ρ 2)) 2 (ρ 3)) 3 (ρ 4)) 4 (ρ 5)) 5 (ρ 0) j = rtS ρ j := by
  intro j hj
  rcases (by omega : j = 0 ∨ j = 1 ∨ j = 2 ∨ j = 3 ∨ j = 4 ∨ j = 5) with rfl | rfl | rfl | rfl | rfl | rfl <;> rfl
set_option maxRecDepth 100000 in
set_option maxHeartbeats 8000000 in
theorem fc_save0 {l : Launch} {D : va_G} {cA : FieldType → ClassId} {z0 : Nat} {SK : Nat → Nat} {SV : Nat → Int32} {ad : Nat → Nat} (hE : aD (fun q => z0 ≤ q) ad 182) (g s : Nat → Nat → Int32) (σ τ : Nat → Nat → Nat) (hσ : pmF σ τ) (ρ : Nat → Nat) (c9 : Nat)  (hb : bo3 (g 1)) (hρ : ∀ k, k < 6 → ρ k < 6) (hc : c9 < 6) : bF l D cA z0 SK SV ad shF 182 yX8_save cX8_save 3 none 2 [.ref 0] (layF g s σ τ ρ c9) none (layF g (sS s (2 + ρ c9) (g 1)) σ τ ρ (c9 + 1)) := by
  refine bCT_intro (tb := tb_X8_save) (own := RX8) hE pn_X8 rfl tk_X8_save rfl (Nat.le_of_ble_eq_true rfl) ?_
  intro p e s0 m args below meth c C hr
  refine bv_blk C frk_X8 csk_X8 4 4 rfl (L1 := ([(0, .ref 0)] : Lc)) (st1 := ([.ref 1, .int (nI c9)] : List Value)) (w1 := (layF g s σ τ ρ c9)) (by rfl) ?_
  refine bv_alen C 3 rfl rfl rfl (by decide) ?_
  refine bv_icmp_lt (j := 46) C rfl rfl (fun _ => ?_) (fun h => absurd (nI_lt (a := c9) (b := 6) (by omega) (by omega)) h)
  refine bv_blk C frk_X8 csk_X8 2 48 rfl (L1 := ([(0, .ref 0)] : Lc)) (st1 := ([.int (nI c9)] : List Value)) (w1 := (layF g s σ τ ρ c9)) (by rfl) ?_
  refine bv_if_ge (j := 50) C rfl rfl (fun _ => ?_) (fun h => absurd (nI_le (a := 0) (b := c9) (by omega) (by omega)) h)
  refine bv_blk C frk_X8 csk_X8 4 54 rfl (L1 := ([(0, .ref 0)] : Lc)) (st1 := ([.int (nI c9), .ref 1] : List Value)) (w1 := (layF g s σ τ ρ c9)) (by rfl) ?_
  refine bv_aaldState (y := 50 + 22 * ρ c9) C rfl rfl (by decide) (j := c9) (by exact rfl) (by first | decide | omega) (by decide) (by rfl) ?_
  refine bv_blk C frk_X8 csk_X8 2 57 rfl (L1 := ([(0, .ref 0)] : Lc)) (st1 := ([.ref 6, .ref (50 + 22 * ρ c9)] : List Value)) (w1 := (layF g s σ τ ρ c9)) (by rfl) ?_
  have h8 : ρ c9 < 6 := hρ _ (by omega)
  rw [show 50 + 22 * ρ c9 = io2 (2 + ρ c9) 0 0 from rf_eq rfl]
  refine bv_eV0 (io := io2 (2 + ρ c9) 0) (N' := 44) (o0 := 0) (w2 := (layF g (sS s (2 + ρ c9) (g 1)) σ τ ρ c9)) C rfl (ct2_state (io2_aD (by omega) (by decide) (by omega) hE) (fr g s (2 + ρ c9)) (fr g s 0) (σ (2 + ρ c9)) (τ (2 + ρ c9)) (σ 0) (τ 0) (hσ _ (by omega)) (hσ 0 (by decide)) hb) ml_X8_62 im_X6_copyFrom sel_X6_copyFrom ini_X6 cd_X6_copyFrom ok_X6_copyFrom rfl ⟨Nat.le_of_ble_eq_true rfl, Nat.le_of_ble_eq_true rfl⟩ ⟨Nat.zero_le _, Nat.zero_le _⟩ (by decide) rfl rfl rfl (rest := ([] : List Value)) rfl (Nat.le_of_ble_eq_true rfl) (emb_2 hσ (by omega) (by decide) (by omega)) (aft_2s hσ (by omega) (by omega)) ?_
  refine bv_blk C frk_X8 csk_X8 5 63 rfl (L1 := ([(0, .ref 0)] : Lc)) (st1 := ([.int ((nI c9) + (1)), .ref 0] : List Value)) (w1 := (layF g (sS s (2 + ρ c9) (g 1)) σ τ ρ c9)) (by rfl) ?_
  rw [show ((nI c9) + (1)) = nI (c9 + 1) from (nIa rfl rfl)]
  refine bv_put (ty := .int) C rfl cl_X8 fl_X8_23 (by decide) rfl (by decide +kernel) rfl rfl rfl (by decide) (by decide) ?_
  rw [lf_cnt]
  exact bv_vret C rfl hr ⟨by (rfl), by (rfl)⟩
set_option maxRecDepth 100000 in
set_option maxHeartbeats 8000000 in
theorem fc_save1 {l : Launch} {D : va_G} {cA : FieldType → ClassId} {z0 : Nat} {SK : Nat → Nat} {SV : Nat → Int32} {ad : Nat → Nat} (hE : aD (fun q => z0 ≤ q) ad 182) (g s : Nat → Nat → Int32) (σ τ : Nat → Nat → Nat) (hσ : pmF σ τ) (ρ : Nat → Nat) (c9 : Nat)  (hb : bo3 (g 1)) (hρ : ∀ k, k < 6 → ρ k < 6) (hc : c9 = 6) : bF l D cA z0 SK SV ad shF 182 yX8_save cX8_save 3 none 2 [.ref 0] (layF g s σ τ ρ c9) none (layF g (sS s (2 + ρ 0) (g 1)) σ τ (rtS ρ) 6) := by
  refine bCT_intro (tb := tb_X8_save) (own := RX8) hE pn_X8 rfl tk_X8_save rfl (Nat.le_of_ble_eq_true rfl) ?_
  intro p e s0 m args below meth c C hr
  subst hc
  refine bv_blk C frk_X8 csk_X8 4 4 rfl (L1 := ([(0, .ref 0)] : Lc)) (st1 := ([.ref 1, .int (nI 6)] : List Value)) (w1 := (layF g s σ τ ρ 6)) (by rfl) ?_
  refine bv_alen C 3 rfl rfl rfl (by decide) ?_
  refine bv_icmp_lt (j := 46) C rfl rfl (fun h => absurd h (nI_nlt (a := 6) (b := 6) (by omega) (by omega))) (fun _ => ?_)
  refine bv_blk C frk_X8 csk_X8 3 9 rfl (L1 := ([(0, .ref 0)] : Lc)) (st1 := ([.int (0), .ref 1] : List Value)) (w1 := (layF g s σ τ ρ 6)) (by rfl) ?_
  refine bv_aaldState (y := 50 + 22 * (ρ 0)) C rfl rfl (by decide) (j := 0) (by exact rfl) (by first | decide | omega) (by decide) (by rfl) ?_
  refine bv_blk C frk_X8 csk_X8 6 16 rfl (L1 := ([(2, .int (1)), (1, .ref (50 + 22 * (ρ 0))), (0, .ref 0)] : Lc)) (st1 := ([.ref 1, .int (1)] : List Value)) (w1 := (layF g s σ τ ρ 6)) (by rfl) ?_
  refine bv_alen C 3 rfl rfl rfl (by decide) ?_
  refine bv_icmp_ge (j := 30) C rfl rfl (fun h => absurd h (nI_ge (a := 1) (b := 6) (by omega) (by omega))) (fun _ => ?_)
  refine bv_blk C frk_X8 csk_X8 8 26 rfl (L1 := ([(2, .int (1)), (1, .ref (50 + 22 * (ρ 0))), (0, .ref 0)] : Lc)) (st1 := ([.int (1), .ref 1, .int ((1) - (1)), .ref 1] : List Value)) (w1 := (layF g s σ τ ρ 6)) (by rfl) ?_
  refine bv_aaldState (y := 50 + 22 * (ρ 1)) C rfl rfl (by decide) (j := 1) (by exact rfl) (by first | decide | omega) (by decide) (by rfl) ?_
  refine bv_aastState (y := 50 + 22 * (ρ 1)) C rfl rfl (by decide) (j := 0) (by exact rfl) (by first | decide | omega) (by decide) (st_sh (hρ _ (by omega))).1 (st_sh (hρ _ (by omega))).2 ?_
  rw [lf_sav]
  refine bv_blk C frk_X8 csk_X8 1 29 rfl (L1 := ([(2, .int ((1) + Int32.ofInt 1)), (1, .ref (50 + 22 * (ρ 0))), (0, .ref 0)] : Lc)) (st1 := ([] : List Value)) (w1 := (layF g s σ τ (upN ρ 0 (ρ 1)) 6)) (by rfl) ?_
  rw [show ((1) + Int32.ofInt 1) = (2) from by decide]
  refine bv_goto (j := 13) C rfl rfl ?_
  refine bv_blk C frk_X8 csk_X8 3 16 rfl (L1 := ([(2, .int (2)), (1, .ref (50 + 22 * (ρ 0))), (0, .ref 0)] : Lc)) (st1 := ([.ref 1, .int (2)] : List Value)) (w1 := (layF g s σ τ (upN ρ 0 (ρ 1)) 6)) (by rfl) ?_
  refine bv_alen C 3 rfl rfl rfl (by decide) ?_
  refine bv_icmp_ge (j := 30) C rfl rfl (fun h => absurd h (nI_ge (a := 2) (b := 6) (by omega) (by omega))) (fun _ => ?_)
  refine bv_blk C frk_X8 csk_X8 8 26 rfl (L1 := ([(2, .int (2)), (1, .ref (50 + 22 * (ρ 0))), (0, .ref 0)] : Lc)) (st1 := ([.int (2), .ref 1, .int ((2) - (1)), .ref 1] : List Value)) (w1 := (layF g s σ τ (upN ρ 0 (ρ 1)) 6)) (by rfl) ?_
  refine bv_aaldState (y := 50 + 22 * (ρ 2)) C rfl rfl (by decide) (j := 2) (by exact rfl) (by first | decide | omega) (by decide) (by rfl) ?_
  refine bv_aastState (y := 50 + 22 * (ρ 2)) C rfl rfl (by decide) (j := 1) (by exact rfl) (by first | decide | omega) (by decide) (st_sh (hρ _ (by omega))).1 (st_sh (hρ _ (by omega))).2 ?_
  rw [lf_sav]
  refine bv_blk C frk_X8 csk_X8 1 29 rfl (L1 := ([(2, .int ((2) + Int32.ofInt 1)), (1, .ref (50 + 22 * (ρ 0))), (0, .ref 0)] : Lc)) (st1 := ([] : List Value)) (w1 := (layF g s σ τ (upN (upN ρ 0 (ρ 1)) 1 (ρ 2)) 6)) (by rfl) ?_
  rw [show ((2) + Int32.ofInt 1) = (3) from by decide]
  refine bv_goto (j := 13) C rfl rfl ?_
  refine bv_blk C frk_X8 csk_X8 3 16 rfl (L1 := ([(2, .int (3)), (1, .ref (50 + 22 * (ρ 0))), (0, .ref 0)] : Lc)) (st1 := ([.ref 1, .int (3)] : List Value)) (w1 := (layF g s σ τ (upN (upN ρ 0 (ρ 1)) 1 (ρ 2)) 6)) (by rfl) ?_
  refine bv_alen C 3 rfl rfl rfl (by decide) ?_
  refine bv_icmp_ge (j := 30) C rfl rfl (fun h => absurd h (nI_ge (a := 3) (b := 6) (by omega) (by omega))) (fun _ => ?_)
  refine bv_blk C frk_X8 csk_X8 8 26 rfl (L1 := ([(2, .int (3)), (1, .ref (50 + 22 * (ρ 0))), (0, .ref 0)] : Lc)) (st1 := ([.int (3), .ref 1, .int ((3) - (1)), .ref 1] : List Value)) (w1 := (layF g s σ τ (upN (upN ρ 0 (ρ 1)) 1 (ρ 2)) 6)) (by rfl) ?_
  refine bv_aaldState (y := 50 + 22 * (ρ 3)) C rfl rfl (by decide) (j := 3) (by exact rfl) (by first | decide | omega) (by decide) (by rfl) ?_
  refine bv_aastState (y := 50 + 22 * (ρ 3)) C rfl rfl (by decide) (j := 2) (by exact rfl) (by first | decide | omega) (by decide) (st_sh (hρ _ (by omega))).1 (st_sh (hρ _ (by omega))).2 ?_
  rw [lf_sav]
  refine bv_blk C frk_X8 csk_X8 1 29 rfl (L1 := ([(2, .int ((3) + Int32.ofInt 1)), (1, .ref (50 + 22 * (ρ 0))), (0, .ref 0)] : Lc)) (st1 := ([] : List Value)) (w1 := (layF g s σ τ (upN (upN (upN ρ 0 (ρ 1)) 1 (ρ 2)) 2 (ρ 3)) 6)) (by rfl) ?_
  rw [show ((3) + Int32.ofInt 1) = (4) from by decide]
  refine bv_goto (j := 13) C rfl rfl ?_
  refine bv_blk C frk_X8 csk_X8 3 16 rfl (L1 := ([(2, .int (4)), (1, .ref (50 + 22 * (ρ 0))), (0, .ref 0)] : Lc)) (st1 := ([.ref 1, .int (4)] : List Value)) (w1 := (layF g s σ τ (upN (upN (upN ρ 0 (ρ 1)) 1 (ρ 2)) 2 (ρ 3)) 6)) (by rfl) ?_
  refine bv_alen C 3 rfl rfl rfl (by decide) ?_
  refine bv_icmp_ge (j := 30) C rfl rfl (fun h => absurd h (nI_ge (a := 4) (b := 6) (by omega) (by omega))) (fun _ => ?_)
  refine bv_blk C frk_X8 csk_X8 8 26 rfl (L1 := ([(2, .int (4)), (1, .ref (50 + 22 * (ρ 0))), (0, .ref 0)] : Lc)) (st1 := ([.int (4), .ref 1, .int ((4) - (1)), .ref 1] : List Value)) (w1 := (layF g s σ τ (upN (upN (upN ρ 0 (ρ 1)) 1 (ρ 2)) 2 (ρ 3)) 6)) (by rfl) ?_
  refine bv_aaldState (y := 50 + 22 * (ρ 4)) C rfl rfl (by decide) (j := 4) (by exact rfl) (by first | decide | omega) (by decide) (by rfl) ?_
  refine bv_aastState (y := 50 + 22 * (ρ 4)) C rfl rfl (by decide) (j := 3) (by exact rfl) (by first | decide | omega) (by decide) (st_sh (hρ _ (by omega))).1 (st_sh (hρ _ (by omega))).2 ?_
  rw [lf_sav]
  refine bv_blk C frk_X8 csk_X8 1 29 rfl (L1 := ([(2, .int ((4) + Int32.ofInt 1)), (1, .ref (50 + 22 * (ρ 0))), (0, .ref 0)] : Lc)) (st1 := ([] : List Value)) (w1 := (layF g s σ τ (upN (upN (upN (upN ρ 0 (ρ 1)) 1 (ρ 2)) 2 (ρ 3)) 3 (ρ 4)) 6)) (by rfl) ?_
  rw [show ((4) + Int32.ofInt 1) = (5) from by decide]
  refine bv_goto (j := 13) C rfl rfl ?_
  refine bv_blk C frk_X8 csk_X8 3 16 rfl (L1 := ([(2, .int (5)), (1, .ref (50 + 22 * (ρ 0))), (0, .ref 0)] : Lc)) (st1 := ([.ref 1, .int (5)] : List Value)) (w1 := (layF g s σ τ (upN (upN (upN (upN ρ 0 (ρ 1)) 1 (ρ 2)) 2 (ρ 3)) 3 (ρ 4)) 6)) (by rfl) ?_
  refine bv_alen C 3 rfl rfl rfl (by decide) ?_
  refine bv_icmp_ge (j := 30) C rfl rfl (fun h => absurd h (nI_ge (a := 5) (b := 6) (by omega) (by omega))) (fun _ => ?_)
  refine bv_blk C frk_X8 csk_X8 8 26 rfl (L1 := ([(2, .int (5)), (1, .ref (50 + 22 * (ρ 0))), (0, .ref 0)] : Lc)) (st1 := ([.int (5), .ref 1, .int ((5) - (1)), .ref 1] : List Value)) (w1 := (layF g s σ τ (upN (upN (upN (upN ρ 0 (ρ 1)) 1 (ρ 2)) 2 (ρ 3)) 3 (ρ 4)) 6)) (by rfl) ?_
  refine bv_aaldState (y := 50 + 22 * (ρ 5)) C rfl rfl (by decide) (j := 5) (by exact rfl) (by first | decide | omega) (by decide) (by rfl) ?_
  refine bv_aastState (y := 50 + 22 * (ρ 5)) C rfl rfl (by decide) (j := 4) (by exact rfl) (by first | decide | omega) (by decide) (st_sh (hρ _ (by omega))).1 (st_sh (hρ _ (by omega))).2 ?_
  rw [lf_sav]
  refine bv_blk C frk_X8 csk_X8 1 29 rfl (L1 := ([(2, .int ((5) + Int32.ofInt 1)), (1, .ref (50 + 22 * (ρ 0))), (0, .ref 0)] : Lc)) (st1 := ([] : List Value)) (w1 := (layF g s σ τ (upN (upN (upN (upN (upN ρ 0 (ρ 1)) 1 (ρ 2)) 2 (ρ 3)) 3 (ρ 4)) 4 (ρ 5)) 6)) (by rfl) ?_
  rw [show ((5) + Int32.ofInt 1) = (6) from by decide]
  refine bv_goto (j := 13) C rfl rfl ?_
  refine bv_blk C frk_X8 csk_X8 3 16 rfl (L1 := ([(2, .int (6)), (1, .ref (50 + 22 * (ρ 0))), (0, .ref 0)] : Lc)) (st1 := ([.ref 1, .int (6)] : List Value)) (w1 := (layF g s σ τ (upN (upN (upN (upN (upN ρ 0 (ρ 1)) 1 (ρ 2)) 2 (ρ 3)) 3 (ρ 4)) 4 (ρ 5)) 6)) (by rfl) ?_
  refine bv_alen C 3 rfl rfl rfl (by decide) ?_
  refine bv_icmp_ge (j := 30) C rfl rfl (fun _ => ?_) (fun h => absurd (nI_le (a := 6) (b := 6) (by omega) (by omega)) h)
  refine bv_blk C frk_X8 csk_X8 4 34 rfl (L1 := ([(2, .int (6)), (1, .ref (50 + 22 * (ρ 0))), (0, .ref 0)] : Lc)) (st1 := ([.ref 1, .ref 1] : List Value)) (w1 := (layF g s σ τ (upN (upN (upN (upN (upN ρ 0 (ρ 1)) 1 (ρ 2)) 2 (ρ 3)) 3 (ρ 4)) 4 (ρ 5)) 6)) (by rfl) ?_
  refine bv_alen C 3 rfl rfl rfl (by decide) ?_
  refine bv_blk C frk_X8 csk_X8 3 38 rfl (L1 := ([(2, .int (6)), (1, .ref (50 + 22 * (ρ 0))), (0, .ref 0)] : Lc)) (st1 := ([.ref (50 + 22 * (ρ 0)), .int ((nI 6) - (1)), .ref 1] : List Value)) (w1 := (layF g s σ τ (upN (upN (upN (upN (upN ρ 0 (ρ 1)) 1 (ρ 2)) 2 (ρ 3)) 3 (ρ 4)) 4 (ρ 5)) 6)) (by rfl) ?_
  refine bv_aastState (y := 50 + 22 * (ρ 0)) C rfl rfl (by decide) (j := (6 - 1)) (by exact (nIs rfl rfl (by omega))) (by first | decide | omega) (by decide) (st_sh (hρ _ (by omega))).1 (st_sh (hρ _ (by omega))).2 ?_
  rw [lf_sav]
  refine bv_blk C frk_X8 csk_X8 3 42 rfl (L1 := ([(2, .int (6)), (1, .ref (50 + 22 * (ρ 0))), (0, .ref 0)] : Lc)) (st1 := ([.ref 1, .ref 0] : List Value)) (w1 := (layF g s σ τ (upN (upN (upN (upN (upN (upN ρ 0 (ρ 1)) 1 (ρ 2)) 2 (ρ 3)) 3 (ρ 4)) 4 (ρ 5)) (6 - 1) (ρ 0)) 6)) (by rfl) ?_
  refine bv_alen C 3 rfl rfl rfl (by decide) ?_
  refine bv_blk C frk_X8 csk_X8 2 45 rfl (L1 := ([(2, .int (6)), (1, .ref (50 + 22 * (ρ 0))), (0, .ref 0)] : Lc)) (st1 := ([.int ((nI 6) - (1)), .ref 0] : List Value)) (w1 := (layF g s σ τ (upN (upN (upN (upN (upN (upN ρ 0 (ρ 1)) 1 (ρ 2)) 2 (ρ 3)) 3 (ρ 4)) 4 (ρ 5)) (6 - 1) (ρ 0)) 6)) (by rfl) ?_
  rw [show ((nI 6) - (1)) = nI (6 - 1) from (nIs rfl rfl (by omega))]
  refine bv_put (ty := .int) C rfl cl_X8 fl_X8_23 (by decide) rfl (by decide +kernel) rfl rfl rfl (by decide) (by decide) ?_
  rw [lf_cnt]
  refine bv_w (lf_rho (ρ' := rtS ρ) rt_eq) ?_
  refine bv_blk C frk_X8 csk_X8 2 48 rfl (L1 := ([(2, .int (6)), (1, .ref (50 + 22 * (ρ 0))), (0, .ref 0)] : Lc)) (st1 := ([.int (nI (6 - 1))] : List Value)) (w1 := (layF g s σ τ (rtS ρ) (6 - 1))) (by rfl) ?_
  refine bv_if_ge (j := 50) C rfl rfl (fun _ => ?_) (fun h => absurd (nI_le (a := 0) (b := (6 - 1)) (by omega) (by omega)) h)
  refine bv_blk C frk_X8 csk_X8 4 54 rfl (L1 := ([(2, .int (6)), (1, .ref (50 + 22 * (ρ 0))), (0, .ref 0)] : Lc)) (st1 := ([.int (nI (6 - 1)), .ref 1] : List Value)) (w1 := (layF g s σ τ (rtS ρ) (6 - 1))) (by rfl) ?_
  refine bv_aaldState (y := 50 + 22 * (ρ 0)) C rfl rfl (by decide) (j := (6 - 1)) (by exact rfl) (by first | decide | omega) (by decide) (by rfl) ?_
  refine bv_blk C frk_X8 csk_X8 2 57 rfl (L1 := ([(2, .int (6)), (1, .ref (50 + 22 * (ρ 0))), (0, .ref 0)] : Lc)) (st1 := ([.ref 6, .ref (50 + 22 * (ρ 0))] : List Value)) (w1 := (layF g s σ τ (rtS ρ) (6 - 1))) (by rfl) ?_
  refine bv_sub [2] (by rfl) ?_
  have h8 : (ρ 0) < 6 := hρ _ (by omega)
  rw [show 50 + 22 * (ρ 0) = io2 (2 + (ρ 0)) 0 0 from rf_eq rfl]
  refine bv_eV0 (io := io2 (2 + (ρ 0)) 0) (N' := 44) (o0 := 0) (w2 := (layF g (sS s (2 + (ρ 0)) (g 1)) σ τ (rtS ρ) (6 - 1))) C rfl (ct2_state (io2_aD (by omega) (by decide) (by omega) hE) (fr g s (2 + (ρ 0))) (fr g s 0) (σ (2 + (ρ 0))) (τ (2 + (ρ 0))) (σ 0) (τ 0) (hσ _ (by omega)) (hσ 0 (by decide)) hb) ml_X8_62 im_X6_copyFrom sel_X6_copyFrom ini_X6 cd_X6_copyFrom ok_X6_copyFrom rfl ⟨Nat.le_of_ble_eq_true rfl, Nat.le_of_ble_eq_true rfl⟩ ⟨Nat.zero_le _, Nat.zero_le _⟩ (by decide) rfl rfl rfl (rest := ([] : List Value)) rfl (Nat.le_of_ble_eq_true rfl) (emb_2 hσ (by omega) (by decide) (by omega)) (aft_2s hσ (by omega) (by omega)) ?_
  refine bv_blk C frk_X8 csk_X8 5 63 rfl (L1 := ([(0, .ref 0)] : Lc)) (st1 := ([.int ((nI (6 - 1)) + (1)), .ref 0] : List Value)) (w1 := (layF g (sS s (2 + (ρ 0)) (g 1)) σ τ (rtS ρ) (6 - 1))) (by rfl) ?_
  rw [show ((nI (6 - 1)) + (1)) = nI ((6 - 1) + 1) from (nIa rfl rfl)]
  refine bv_put (ty := .int) C rfl cl_X8 fl_X8_23 (by decide) rfl (by decide +kernel) rfl rfl rfl (by decide) (by decide) ?_
  rw [lf_cnt]
  exact bv_vret C rfl hr ⟨by (rfl), by (rfl)⟩
