set_option maxRecDepth 100000 in
set_option maxHeartbeats 8000000 in
theorem fc_undo0 {l : Launch} {D : va_G} {cA : FieldType → ClassId} {z0 : Nat} {SK : Nat → Nat} {SV : Nat → Int32} {ad : Nat → Nat} (hE : aD (fun q => z0 ≤ q) ad 182) (g s : Nat → Nat → Int32) (σ τ : Nat → Nat → Nat) (hσ : pmF σ τ) (ρ : Nat → Nat) (c9 : Nat)  (hc : c9 = 0) : bF l D cA z0 SK SV ad shF 182 yX8_undo cX8_undo 1 (some .int) 2 [.ref 0] (layF g s σ τ ρ c9) (some (.int (-100003))) (layF g s σ τ ρ 0) := by
  refine bCT_intro (tb := tb_X8_undo) (own := RX8) hE pn_X8 rfl tk_X8_undo rfl (Nat.le_of_ble_eq_true rfl) ?_
  intro p e s0 m args below meth c C hr
  subst hc
  refine bv_blk C frk_X8 csk_X8 3 3 rfl (L1 := ([(0, .ref 0)] : Lc)) (st1 := ([.int (1), .int (nI 0)] : List Value)) (w1 := (layF g s σ τ ρ 0)) (by rfl) ?_
  refine bv_icmp_lt (j := 10) C rfl rfl (fun _ => ?_) (fun h => absurd (nI_lt (a := 0) (b := 1) (by omega) (by omega)) h)
  refine bv_blk C frk_X8 csk_X8 1 11 rfl (L1 := ([(0, .ref 0)] : Lc)) (st1 := ([.int (-100003)] : List Value)) (w1 := (layF g s σ τ ρ 0)) (by rfl) ?_
  exact bv_iret C rfl hr rfl ⟨by (rfl), by (rfl)⟩
theorem rf_eq2 {x : Nat} : 50 + 22 * x = io2 0 (2 + x) 22 := by
  have e : io2 0 (2 + x) (22 + 0) = (22 * (2 + x) + 0) + 6 := io2_b (by omega)
  show _ = io2 0 (2 + x) (22 + 0)
  rw [e]
  omega
set_option maxRecDepth 100000 in
set_option maxHeartbeats 8000000 in
theorem fc_undo1 {l : Launch} {D : va_G} {cA : FieldType → ClassId} {z0 : Nat} {SK : Nat → Nat} {SV : Nat → Int32} {ad : Nat → Nat} (hE : aD (fun q => z0 ≤ q) ad 182) (g s : Nat → Nat → Int32) (σ τ : Nat → Nat → Nat) (hσ : pmF σ τ) (ρ : Nat → Nat) (c9 : Nat) (k9 : Nat) (hc : c9 = k9 + 1) (hk : k9 < 6) (hρ : ∀ k, k < 6 → ρ k < 6) (hb : bo3 (s (2 + ρ k9))) : bF l D cA z0 SK SV ad shF 182 yX8_undo cX8_undo 1 (some .int) 2 [.ref 0] (layF g s σ τ ρ c9) (some (.int (nI k9))) (layF (rN (s (2 + ρ k9)) g) s σ τ ρ k9) := by
  refine bCT_intro (tb := tb_X8_undo) (own := RX8) hE pn_X8 rfl tk_X8_undo rfl (Nat.le_of_ble_eq_true rfl) ?_
  intro p e s0 m args below meth c C hr
  subst hc
  have h8 := hρ k9 hk
  refine bv_blk C frk_X8 csk_X8 3 3 rfl (L1 := ([(0, .ref 0)] : Lc)) (st1 := ([.int (1), .int (nI (k9 + 1))] : List Value)) (w1 := (layF g s σ τ ρ (k9 + 1))) (by rfl) ?_
  refine bv_icmp_lt (j := 10) C rfl rfl (fun h => absurd h (nI_nlt (a := (k9 + 1)) (b := 1) (by omega) (by omega))) (fun _ => ?_)
  refine bv_blk C frk_X8 csk_X8 4 8 rfl (L1 := ([(0, .ref 0)] : Lc)) (st1 := ([.ref 1, .int (nI (k9 + 1))] : List Value)) (w1 := (layF g s σ τ ρ (k9 + 1))) (by rfl) ?_
  refine bv_alen C 3 rfl rfl rfl (by decide) ?_
  refine bv_icmp_le (j := 12) C rfl rfl (fun _ => ?_) (fun h => absurd (nI_le (a := (k9 + 1)) (b := 6) (by omega) (by omega)) h)
  refine bv_blk C frk_X8 csk_X8 5 17 rfl (L1 := ([(0, .ref 0)] : Lc)) (st1 := ([.int ((nI (k9 + 1)) - (1)), .ref 0] : List Value)) (w1 := (layF g s σ τ ρ (k9 + 1))) (by rfl) ?_
  rw [show ((nI (k9 + 1)) - (1)) = nI k9 from (nIs (a := k9 + 1) (b := 1) rfl rfl (by omega)).trans (by rw [Nat.add_sub_cancel])]
  refine bv_put (ty := .int) C rfl cl_X8 fl_X8_23 (by decide) rfl (by decide +kernel) rfl rfl rfl (by decide) (by decide) ?_
  rw [lf_cnt]
  refine bv_blk C frk_X8 csk_X8 6 24 rfl (L1 := ([(0, .ref 0)] : Lc)) (st1 := ([.int (nI k9), .ref 1, .ref 6] : List Value)) (w1 := (layF g s σ τ ρ k9)) (by rfl) ?_
  refine bv_aaldState (y := 50 + 22 * ρ k9) C rfl rfl (by decide) (j := k9) (by exact rfl) (by first | decide | omega) (by decide) (by rfl) ?_
  have hb9 : ∀ k, (k = 0 ∨ k = 8 ∨ k = 11) → (fr g s (2 + ρ k9) 1 k = 0 ∨ fr g s (2 + ρ k9) 1 k = 1) := (fun k hk => by rw [fr_s (by omega)]; exact hb k hk)
  rw [show 50 + 22 * ρ k9 = io2 0 (2 + ρ k9) 22 from rf_eq2]
  refine bv_eV0 (io := io2 0 (2 + ρ k9)) (N' := 44) (o0 := 0) (w2 := (layF (rN (s (2 + ρ k9)) g) s σ τ ρ k9)) C rfl (ct2_state (io2_aD (by decide) (by omega) (by omega) hE) (fr g s 0) (fr g s (2 + ρ k9)) (σ 0) (τ 0) (σ (2 + ρ k9)) (τ (2 + ρ k9)) (hσ 0 (by decide)) (hσ _ (by omega)) hb9) ml_X8_62 im_X6_copyFrom sel_X6_copyFrom ini_X6 cd_X6_copyFrom ok_X6_copyFrom rfl ⟨Nat.le_of_ble_eq_true rfl, Nat.le_of_ble_eq_true rfl⟩ ⟨Nat.zero_le _, Nat.zero_le _⟩ (by decide) rfl rfl rfl (rest := ([] : List Value)) rfl (Nat.le_of_ble_eq_true rfl) (emb_2 hσ (by decide) (by omega) (by omega)) (aft_2n hσ (by omega) (by omega)) ?_
  refine bv_blk C frk_X8 csk_X8 2 28 rfl (L1 := ([(0, .ref 0)] : Lc)) (st1 := ([.int (nI k9)] : List Value)) (w1 := (layF (rN (s (2 + ρ k9)) g) s σ τ ρ k9)) (by rfl) ?_
  exact bv_iret C rfl hr rfl ⟨by (rfl), by (rfl)⟩
def fc_backupBeam_r (bk q : Nat) (x : Int32) (g s : Nat → Nat → Int32) (ρ : Nat → Nat) (c9 : Nat) : Int32 := (if (isI x) = 0 then (-100001) else (if x = 0 then (g 1 (103 + 3 * q)) else (g 1 (103 + 3 * q + 1))))
set_option maxRecDepth 100000 in
set_option maxHeartbeats 8000000 in
theorem fc_backupBeam {l : Launch} {D : va_G} {cA : FieldType → ClassId} {z0 : Nat} {SK : Nat → Nat} {SV : Nat → Int32} {ad : Nat → Nat} (hE : aD (fun q => z0 ≤ q) ad 182) (g s : Nat → Nat → Int32) (σ τ : Nat → Nat → Nat) (hσ : pmF σ τ) (ρ : Nat → Nat) (c9 : Nat) (bk q : Nat) (x : Int32) (hB : g 1 13 = nI bk) (hB3 : bk ≤ 3) (hq : q < bk) : bF l D cA z0 SK SV ad shF 182 yX8_backupBeam cX8_backupBeam 3 (some .int) 1 [.ref 0, .int (nI q), .int x] (layF g s σ τ ρ c9) (some (.int (fc_backupBeam_r bk q x g s ρ c9))) (layF g s σ τ ρ c9) := by
  refine bCT_intro (tb := tb_X8_backupBeam) (own := RX8) hE pn_X8 rfl tk_X8_backupBeam rfl (Nat.le_of_ble_eq_true rfl) ?_
  intro p e s0 m args below meth c C hr
  refine bv_blk C frk_X8 csk_X8 4 4 rfl (L1 := ([(0, .ref 0), (1, .int (nI q)), (2, .int x)] : Lc)) (st1 := ([.int (nI q), .ref 20] : List Value)) (w1 := (layF g s σ τ ρ c9)) (by rfl) ?_
  refine bv_eV1 (io := io 0) (N' := 26) (w2 := (layF g s σ τ ρ c9)) C rfl (cs_bhas (io_aD (b := 0) (by decide) hE) g (σ 0) (τ 0) (hσ 0 (by decide)) (nI q)) ml_X8_240 im_X0_has sel_X0_has ini_X0 cd_X0_has ok_X0_has rfl ⟨Nat.le_of_ble_eq_true rfl, Nat.le_of_ble_eq_true rfl⟩ ⟨Nat.zero_le _, Nat.zero_le _⟩ (by decide) rfl rfl rfl (rest := ([] : List Value)) rfl (Nat.le_of_ble_eq_true rfl) (emb_F0 hσ) (aft_F0i hσ) rfl ?_
  refine bv_if_eq (j := 9) C rfl rfl (fun h => absurd h ((bh_in hB hq hB3))) (fun _ => ?_)
  refine bv_blk C frk_X8 csk_X8 1 7 rfl (L1 := ([(0, .ref 0), (1, .int (nI q)), (2, .int x)] : Lc)) (st1 := ([.int x] : List Value)) (w1 := (layF g s σ τ ρ c9)) (by rfl) ?_
  refine bv_fS1 C rfl (cs_isStation hE _ x) ml_X8_69 st_X8_isStation ini_X8 cd_X8_isStation ok_X8_isStation rfl ⟨Nat.le_of_ble_eq_true rfl, Nat.le_of_ble_eq_true rfl⟩ ⟨Nat.zero_le _, Nat.zero_le _⟩ (rest := ([] : List Value)) rfl (Nat.le_of_ble_eq_true rfl) ?_
  refine bv_if_ne (j := 11) C rfl rfl (fun c2 => ?_) (fun c2 => ?_)
  · refine bv_blk C frk_X8 csk_X8 1 12 rfl (L1 := ([(0, .ref 0), (1, .int (nI q)), (2, .int x)] : Lc)) (st1 := ([.int x] : List Value)) (w1 := (layF g s σ τ ρ c9)) (by rfl) ?_
    refine bv_if_ne (j := 20) C rfl rfl (fun c3 => ?_) (fun c3 => ?_)
    · refine bv_blk C frk_X8 csk_X8 5 25 rfl (L1 := ([(0, .ref 0), (1, .int (nI q)), (2, .int x)] : Lc)) (st1 := ([.int (nI q), .ref 22] : List Value)) (w1 := (layF g s σ τ ρ c9)) (by rfl) ?_
      refine bv_iald C rfl rfl (by decide) (j := q) (by exact rfl) (by first | decide | omega) (by decide) (y := (g 1 (103 + 3 * q + 1))) (by rfl) ?_
      exact bv_iret C rfl hr rfl ⟨by (exact congrArg (fun x => some (Value.int x)) (((if_neg c2).trans ((if_neg c3).trans rfl))).symm), by (exact congrArg (fun x => x) (rfl).symm)⟩
    · refine bv_blk C frk_X8 csk_X8 5 18 rfl (L1 := ([(0, .ref 0), (1, .int (nI q)), (2, .int x)] : Lc)) (st1 := ([.int (nI q), .ref 21] : List Value)) (w1 := (layF g s σ τ ρ c9)) (by rfl) ?_
      refine bv_iald C rfl rfl (by decide) (j := q) (by exact rfl) (by first | decide | omega) (by decide) (y := (g 1 (103 + 3 * q))) (by rfl) ?_
      refine bv_goto (j := 26) C rfl rfl ?_
      exact bv_iret C rfl hr rfl ⟨by (exact congrArg (fun x => some (Value.int x)) (((if_neg c2).trans ((if_pos c3).trans rfl))).symm), by (exact congrArg (fun x => x) (rfl).symm)⟩
  · refine bv_blk C frk_X8 csk_X8 1 10 rfl (L1 := ([(0, .ref 0), (1, .int (nI q)), (2, .int x)] : Lc)) (st1 := ([.int (-100001)] : List Value)) (w1 := (layF g s σ τ ρ c9)) (by rfl) ?_
    exact bv_iret C rfl hr rfl ⟨by (exact congrArg (fun x => some (Value.int x)) (((if_pos c2).trans rfl)).symm), by (exact congrArg (fun x => x) (rfl).symm)⟩
def fc_backupBeamx_r (x y : Int32) (g s : Nat → Nat → Int32) (ρ : Nat → Nat) (c9 : Nat) : Int32 := (-100001)
set_option maxRecDepth 100000 in
set_option maxHeartbeats 8000000 in
theorem fc_backupBeamx {l : Launch} {D : va_G} {cA : FieldType → ClassId} {z0 : Nat} {SK : Nat → Nat} {SV : Nat → Int32} {ad : Nat → Nat} (hE : aD (fun q => z0 ≤ q) ad 182) (g s : Nat → Nat → Int32) (σ τ : Nat → Nat → Nat) (hσ : pmF σ τ) (ρ : Nat → Nat) (c9 : Nat) (x y : Int32) (hx : cs_bhas_r x g = 0) : bF l D cA z0 SK SV ad shF 182 yX8_backupBeam cX8_backupBeam 3 (some .int) 1 [.ref 0, .int x, .int y] (layF g s σ τ ρ c9) (some (.int (fc_backupBeamx_r x y g s ρ c9))) (layF g s σ τ ρ c9) := by
  refine bCT_intro (tb := tb_X8_backupBeam) (own := RX8) hE pn_X8 rfl tk_X8_backupBeam rfl (Nat.le_of_ble_eq_true rfl) ?_
  intro p e s0 m args below meth c C hr
  refine bv_blk C frk_X8 csk_X8 4 4 rfl (L1 := ([(0, .ref 0), (1, .int x), (2, .int y)] : Lc)) (st1 := ([.int x, .ref 20] : List Value)) (w1 := (layF g s σ τ ρ c9)) (by rfl) ?_
  refine bv_eV1 (io := io 0) (N' := 26) (w2 := (layF g s σ τ ρ c9)) C rfl (cs_bhas (io_aD (b := 0) (by decide) hE) g (σ 0) (τ 0) (hσ 0 (by decide)) x) ml_X8_240 im_X0_has sel_X0_has ini_X0 cd_X0_has ok_X0_has rfl ⟨Nat.le_of_ble_eq_true rfl, Nat.le_of_ble_eq_true rfl⟩ ⟨Nat.zero_le _, Nat.zero_le _⟩ (by decide) rfl rfl rfl (rest := ([] : List Value)) rfl (Nat.le_of_ble_eq_true rfl) (emb_F0 hσ) (aft_F0i hσ) rfl ?_
  refine bv_if_eq (j := 9) C rfl rfl (fun _ => ?_) (fun h => absurd (hx) h)
  refine bv_blk C frk_X8 csk_X8 1 10 rfl (L1 := ([(0, .ref 0), (1, .int x), (2, .int y)] : Lc)) (st1 := ([.int (-100001)] : List Value)) (w1 := (layF g s σ τ ρ c9)) (by rfl) ?_
  exact bv_iret C rfl hr rfl ⟨by (rfl), by (rfl)⟩
def fc_backupQuality_r (bk q : Nat) (g s : Nat → Nat → Int32) (ρ : Nat → Nat) (c9 : Nat) : Int32 := (g 1 (103 + 3 * q + 2))
set_option maxRecDepth 100000 in
set_option maxHeartbeats 8000000 in
theorem fc_backupQuality {l : Launch} {D : va_G} {cA : FieldType → ClassId} {z0 : Nat} {SK : Nat → Nat} {SV : Nat → Int32} {ad : Nat → Nat} (hE : aD (fun q => z0 ≤ q) ad 182) (g s : Nat → Nat → Int32) (σ τ : Nat → Nat → Nat) (hσ : pmF σ τ) (ρ : Nat → Nat) (c9 : Nat) (bk q : Nat) (hB : g 1 13 = nI bk) (hB3 : bk ≤ 3) (hq : q < bk) : bF l D cA z0 SK SV ad shF 182 yX8_backupQuality cX8_backupQuality 2 (some .int) 1 [.ref 0, .int (nI q)] (layF g s σ τ ρ c9) (some (.int (fc_backupQuality_r bk q g s ρ c9))) (layF g s σ τ ρ c9) := by
  refine bCT_intro (tb := tb_X8_backupQuality) (own := RX8) hE pn_X8 rfl tk_X8_backupQuality rfl (Nat.le_of_ble_eq_true rfl) ?_
  intro p e s0 m args below meth c C hr
  refine bv_blk C frk_X8 csk_X8 4 4 rfl (L1 := ([(0, .ref 0), (1, .int (nI q))] : Lc)) (st1 := ([.int (nI q), .ref 20] : List Value)) (w1 := (layF g s σ τ ρ c9)) (by rfl) ?_
  refine bv_eV1 (io := io 0) (N' := 26) (w2 := (layF g s σ τ ρ c9)) C rfl (cs_bhas (io_aD (b := 0) (by decide) hE) g (σ 0) (τ 0) (hσ 0 (by decide)) (nI q)) ml_X8_240 im_X0_has sel_X0_has ini_X0 cd_X0_has ok_X0_has rfl ⟨Nat.le_of_ble_eq_true rfl, Nat.le_of_ble_eq_true rfl⟩ ⟨Nat.zero_le _, Nat.zero_le _⟩ (by decide) rfl rfl rfl (rest := ([] : List Value)) rfl (Nat.le_of_ble_eq_true rfl) (emb_F0 hσ) (aft_F0i hσ) rfl ?_
  refine bv_if_eq (j := 13) C rfl rfl (fun h => absurd h ((bh_in hB hq hB3))) (fun _ => ?_)
  refine bv_blk C frk_X8 csk_X8 5 11 rfl (L1 := ([(0, .ref 0), (1, .int (nI q))] : Lc)) (st1 := ([.int (nI q), .ref 23] : List Value)) (w1 := (layF g s σ τ ρ c9)) (by rfl) ?_
  refine bv_iald C rfl rfl (by decide) (j := q) (by exact rfl) (by first | decide | omega) (by decide) (y := (g 1 (103 + 3 * q + 2))) (by rfl) ?_
  refine bv_goto (j := 14) C rfl rfl ?_
  exact bv_iret C rfl hr rfl ⟨by (rfl), by (rfl)⟩
def fc_eventKind_r (E q : Nat) (g s : Nat → Nat → Int32) (ρ : Nat → Nat) (c9 : Nat) : Int32 := (g 1 (112 + 3 * (E - 1 - q)))
set_option maxRecDepth 100000 in
set_option maxHeartbeats 8000000 in
theorem fc_eventKind {l : Launch} {D : va_G} {cA : FieldType → ClassId} {z0 : Nat} {SK : Nat → Nat} {SV : Nat → Int32} {ad : Nat → Nat} (hE : aD (fun q => z0 ≤ q) ad 182) (g s : Nat → Nat → Int32) (σ τ : Nat → Nat → Nat) (hσ : pmF σ τ) (ρ : Nat → Nat) (c9 : Nat) (E q : Nat) (hEv : g 1 14 = nI E) (hE2 : E ≤ 20) (hq : q < E) : bF l D cA z0 SK SV ad shF 182 yX8_eventKind cX8_eventKind 2 (some .int) 1 [.ref 0, .int (nI q)] (layF g s σ τ ρ c9) (some (.int (fc_eventKind_r E q g s ρ c9))) (layF g s σ τ ρ c9) := by
  refine bCT_intro (tb := tb_X8_eventKind) (own := RX8) hE pn_X8 rfl tk_X8_eventKind rfl (Nat.le_of_ble_eq_true rfl) ?_
  intro p e s0 m args below meth c C hr
  refine bv_blk C frk_X8 csk_X8 4 4 rfl (L1 := ([(0, .ref 0), (1, .int (nI q))] : Lc)) (st1 := ([.int (nI q), .ref 24] : List Value)) (w1 := (layF g s σ τ ρ c9)) (by rfl) ?_
  refine bv_eV1 (io := io 0) (N' := 26) (w2 := (layF g s σ τ ρ c9)) C rfl (cs_ehas (io_aD (b := 0) (by decide) hE) g (σ 0) (τ 0) (hσ 0 (by decide)) (nI q)) ml_X8_260 im_X1_has sel_X1_has ini_X1 cd_X1_has ok_X1_has rfl ⟨Nat.le_of_ble_eq_true rfl, Nat.le_of_ble_eq_true rfl⟩ ⟨Nat.zero_le _, Nat.zero_le _⟩ (by decide) rfl rfl rfl (rest := ([] : List Value)) rfl (Nat.le_of_ble_eq_true rfl) (emb_F0 hσ) (aft_F0i hσ) rfl ?_
  refine bv_if_eq (j := 17) C rfl rfl (fun h => absurd h ((eh_in hEv hq hE2))) (fun _ => ?_)
  refine bv_blk C frk_X8 csk_X8 8 14 rfl (L1 := ([(0, .ref 0), (1, .int (nI q))] : Lc)) (st1 := ([.int (nI q), .ref 24, .ref 25] : List Value)) (w1 := (layF g s σ τ ρ c9)) (by rfl) ?_
  refine bv_eV1 (io := io 0) (N' := 26) (w2 := (layF g s σ τ ρ c9)) C rfl (cs_eplace (io_aD (b := 0) (by decide) hE) g (σ 0) (τ 0) (hσ 0 (by decide)) (nI q)) ml_X8_264 im_X1_placeOf sel_X1_placeOf ini_X1 cd_X1_placeOf ok_X1_placeOf rfl ⟨Nat.le_of_ble_eq_true rfl, Nat.le_of_ble_eq_true rfl⟩ ⟨Nat.zero_le _, Nat.zero_le _⟩ (by decide) rfl rfl rfl (rest := ([.ref 25] : List Value)) rfl (Nat.le_of_ble_eq_true rfl) (emb_F0 hσ) (aft_F0i hσ) rfl ?_
  refine bv_iald C rfl rfl (by decide) (j := (E - 1 - q)) (by exact (ep_in hEv hq hE2)) (by first | decide | omega) (by decide) (y := (g 1 (112 + 3 * (E - 1 - q)))) (by rfl) ?_
  refine bv_goto (j := 18) C rfl rfl ?_
  exact bv_iret C rfl hr rfl ⟨by (rfl), by (rfl)⟩
def fc_eventValue_r (E q : Nat) (g s : Nat → Nat → Int32) (ρ : Nat → Nat) (c9 : Nat) : Int32 := (g 1 (112 + 3 * (E - 1 - q) + 1))
set_option maxRecDepth 100000 in
set_option maxHeartbeats 8000000 in
theorem fc_eventValue {l : Launch} {D : va_G} {cA : FieldType → ClassId} {z0 : Nat} {SK : Nat → Nat} {SV : Nat → Int32} {ad : Nat → Nat} (hE : aD (fun q => z0 ≤ q) ad 182) (g s : Nat → Nat → Int32) (σ τ : Nat → Nat → Nat) (hσ : pmF σ τ) (ρ : Nat → Nat) (c9 : Nat) (E q : Nat) (hEv : g 1 14 = nI E) (hE2 : E ≤ 20) (hq : q < E) : bF l D cA z0 SK SV ad shF 182 yX8_eventValue cX8_eventValue 2 (some .int) 1 [.ref 0, .int (nI q)] (layF g s σ τ ρ c9) (some (.int (fc_eventValue_r E q g s ρ c9))) (layF g s σ τ ρ c9) := by
  refine bCT_intro (tb := tb_X8_eventValue) (own := RX8) hE pn_X8 rfl tk_X8_eventValue rfl (Nat.le_of_ble_eq_true rfl) ?_
  intro p e s0 m args below meth c C hr
  refine bv_blk C frk_X8 csk_X8 4 4 rfl (L1 := ([(0, .ref 0), (1, .int (nI q))] : Lc)) (st1 := ([.int (nI q), .ref 24] : List Value)) (w1 := (layF g s σ τ ρ c9)) (by rfl) ?_
  refine bv_eV1 (io := io 0) (N' := 26) (w2 := (layF g s σ τ ρ c9)) C rfl (cs_ehas (io_aD (b := 0) (by decide) hE) g (σ 0) (τ 0) (hσ 0 (by decide)) (nI q)) ml_X8_260 im_X1_has sel_X1_has ini_X1 cd_X1_has ok_X1_has rfl ⟨Nat.le_of_ble_eq_true rfl, Nat.le_of_ble_eq_true rfl⟩ ⟨Nat.zero_le _, Nat.zero_le _⟩ (by decide) rfl rfl rfl (rest := ([] : List Value)) rfl (Nat.le_of_ble_eq_true rfl) (emb_F0 hσ) (aft_F0i hσ) rfl ?_
  refine bv_if_eq (j := 17) C rfl rfl (fun h => absurd h ((eh_in hEv hq hE2))) (fun _ => ?_)
  refine bv_blk C frk_X8 csk_X8 8 14 rfl (L1 := ([(0, .ref 0), (1, .int (nI q))] : Lc)) (st1 := ([.int (nI q), .ref 24, .ref 26] : List Value)) (w1 := (layF g s σ τ ρ c9)) (by rfl) ?_
  refine bv_eV1 (io := io 0) (N' := 26) (w2 := (layF g s σ τ ρ c9)) C rfl (cs_eplace (io_aD (b := 0) (by decide) hE) g (σ 0) (τ 0) (hσ 0 (by decide)) (nI q)) ml_X8_264 im_X1_placeOf sel_X1_placeOf ini_X1 cd_X1_placeOf ok_X1_placeOf rfl ⟨Nat.le_of_ble_eq_true rfl, Nat.le_of_ble_eq_true rfl⟩ ⟨Nat.zero_le _, Nat.zero_le _⟩ (by decide) rfl rfl rfl (rest := ([.ref 26] : List Value)) rfl (Nat.le_of_ble_eq_true rfl) (emb_F0 hσ) (aft_F0i hσ) rfl ?_
  refine bv_iald C rfl rfl (by decide) (j := (E - 1 - q)) (by exact (ep_in hEv hq hE2)) (by first | decide | omega) (by decide) (y := (g 1 (112 + 3 * (E - 1 - q) + 1))) (by rfl) ?_
  refine bv_goto (j := 18) C rfl rfl ?_
  exact bv_iret C rfl hr rfl ⟨by (rfl), by (rfl)⟩
def fc_eventInterval_r (E q : Nat) (g s : Nat → Nat → Int32) (ρ : Nat → Nat) (c9 : Nat) : Int32 := (g 1 (112 + 3 * (E - 1 - q) + 2))
set_option maxRecDepth 100000 in
set_option maxHeartbeats 8000000 in
theorem fc_eventInterval {l : Launch} {D : va_G} {cA : FieldType → ClassId} {z0 : Nat} {SK : Nat → Nat} {SV : Nat → Int32} {ad : Nat → Nat} (hE : aD (fun q => z0 ≤ q) ad 182) (g s : Nat → Nat → Int32) (σ τ : Nat → Nat → Nat) (hσ : pmF σ τ) (ρ : Nat → Nat) (c9 : Nat) (E q : Nat) (hEv : g 1 14 = nI E) (hE2 : E ≤ 20) (hq : q < E) : bF l D cA z0 SK SV ad shF 182 yX8_eventInterval cX8_eventInterval 2 (some .int) 1 [.ref 0, .int (nI q)] (layF g s σ τ ρ c9) (some (.int (fc_eventInterval_r E q g s ρ c9))) (layF g s σ τ ρ c9) := by
  refine bCT_intro (tb := tb_X8_eventInterval) (own := RX8) hE pn_X8 rfl tk_X8_eventInterval rfl (Nat.le_of_ble_eq_true rfl) ?_
  intro p e s0 m args below meth c C hr
  refine bv_blk C frk_X8 csk_X8 4 4 rfl (L1 := ([(0, .ref 0), (1, .int (nI q))] : Lc)) (st1 := ([.int (nI q), .ref 24] : List Value)) (w1 := (layF g s σ τ ρ c9)) (by rfl) ?_
  refine bv_eV1 (io := io 0) (N' := 26) (w2 := (layF g s σ τ ρ c9)) C rfl (cs_ehas (io_aD (b := 0) (by decide) hE) g (σ 0) (τ 0) (hσ 0 (by decide)) (nI q)) ml_X8_260 im_X1_has sel_X1_has ini_X1 cd_X1_has ok_X1_has rfl ⟨Nat.le_of_ble_eq_true rfl, Nat.le_of_ble_eq_true rfl⟩ ⟨Nat.zero_le _, Nat.zero_le _⟩ (by decide) rfl rfl rfl (rest := ([] : List Value)) rfl (Nat.le_of_ble_eq_true rfl) (emb_F0 hσ) (aft_F0i hσ) rfl ?_
  refine bv_if_eq (j := 17) C rfl rfl (fun h => absurd h ((eh_in hEv hq hE2))) (fun _ => ?_)
  refine bv_blk C frk_X8 csk_X8 8 14 rfl (L1 := ([(0, .ref 0), (1, .int (nI q))] : Lc)) (st1 := ([.int (nI q), .ref 24, .ref 27] : List Value)) (w1 := (layF g s σ τ ρ c9)) (by rfl) ?_
  refine bv_eV1 (io := io 0) (N' := 26) (w2 := (layF g s σ τ ρ c9)) C rfl (cs_eplace (io_aD (b := 0) (by decide) hE) g (σ 0) (τ 0) (hσ 0 (by decide)) (nI q)) ml_X8_264 im_X1_placeOf sel_X1_placeOf ini_X1 cd_X1_placeOf ok_X1_placeOf rfl ⟨Nat.le_of_ble_eq_true rfl, Nat.le_of_ble_eq_true rfl⟩ ⟨Nat.zero_le _, Nat.zero_le _⟩ (by decide) rfl rfl rfl (rest := ([.ref 27] : List Value)) rfl (Nat.le_of_ble_eq_true rfl) (emb_F0 hσ) (aft_F0i hσ) rfl ?_
  refine bv_iald C rfl rfl (by decide) (j := (E - 1 - q)) (by exact (ep_in hEv hq hE2)) (by first | decide | omega) (by decide) (y := (g 1 (112 + 3 * (E - 1 - q) + 2))) (by rfl) ?_
  refine bv_goto (j := 18) C rfl rfl ?_
  exact bv_iret C rfl hr rfl ⟨by (rfl), by (rfl)⟩
def fc_digest_r (n bk E S0 S1 : Nat) (g s : Nat → Nat → Int32) (ρ : Nat → Nat) (c9 : Nat) : Int64 := (hsX n bk E S0 S1 g)
set_option maxRecDepth 100000 in
set_option maxHeartbeats 8000000 in
theorem fc_digest {l : Launch} {D : va_G} {cA : FieldType → ClassId} {z0 : Nat} {SK : Nat → Nat} {SV : Nat → Int32} {ad : Nat → Nat} (hE : aD (fun q => z0 ≤ q) ad 182) (g s : Nat → Nat → Int32) (σ τ : Nat → Nat → Nat) (hσ : pmF σ τ) (ρ : Nat → Nat) (c9 : Nat) (n bk E S0 S1 : Nat) (hn : g 1 12 = nI n) (hn8 : n ≤ 8) (hB : g 1 13 = nI bk) (hB3 : bk ≤ 3) (hEv : g 1 14 = nI E) (hE2 : E ≤ 20) (hS0 : g 1 15 = nI S0) (hS02 : S0 ≤ 16) (hS1 : g 1 35 = nI S1) (hS12 : S1 ≤ 16) : bF l D cA z0 SK SV ad shF 182 yX8_digest cX8_digest 1 (some .long) 3 [.ref 0] (layF g s σ τ ρ c9) (some (.long (fc_digest_r n bk E S0 S1 g s ρ c9))) (layF g s σ τ ρ c9) := by
  refine bCT_intro (tb := tb_X8_digest) (own := RX8) hE pn_X8 rfl tk_X8_digest rfl (Nat.le_of_ble_eq_true rfl) ?_
  intro p e s0 m args below meth c C hr
  refine bv_blk C frk_X8 csk_X8 2 2 rfl (L1 := ([(0, .ref 0)] : Lc)) (st1 := ([.ref 6] : List Value)) (w1 := (layF g s σ τ ρ c9)) (by rfl) ?_
  refine bv_eV1 (io := io 0) (N' := 26) (w2 := (layF g s σ τ ρ c9)) C rfl (cs_hash (io_aD (b := 0) (by decide) hE) g (σ 0) (τ 0) (hσ 0 (by decide)) n bk E S0 S1 hn hn8 hB hB3 hEv hE2 hS0 hS02 hS1 hS12) ml_X8_273 im_X6_hash sel_X6_hash ini_X6 cd_X6_hash ok_X6_hash rfl ⟨Nat.le_of_ble_eq_true rfl, Nat.le_of_ble_eq_true rfl⟩ ⟨Nat.zero_le _, Nat.zero_le _⟩ (by decide) rfl rfl rfl (rest := ([] : List Value)) rfl (Nat.le_of_ble_eq_true rfl) (emb_F0 hσ) (aft_F0i hσ) rfl ?_
  exact bv_lret C rfl hr ⟨by (rfl), by (rfl)⟩
/-- how long the link lasts: the answer, and how many intervals passed -/
def ouF (n : Nat) (S : Nat → Nat) (g : Nat → Nat → Int32) : Nat → Nat → Int32 × Nat
  | 0, k => if pasN n S g k 1 0 = 0 then (nI k, k) else (-100000, k)
  | q + 1, k => if pasN n S g k 1 0 = 0 then (nI k, k) else ouF n S g q (k + 1)
theorem ou_d {n q k : Nat} {S : Nat → Nat} {g : Nat → Nat → Int32} (h : pasN n S g k 1 0 = 0) : ouF n S g q k = (nI k, k) := by
  cases q with
  | zero => exact if_pos h
  | succ q => exact if_pos h
theorem ou_z {n k : Nat} {S : Nat → Nat} {g : Nat → Nat → Int32} (h : ¬ pasN n S g k 1 0 = 0) : ouF n S g 0 k = (-100000, k) := if_neg h
theorem ou_s {n q k : Nat} {S : Nat → Nat} {g : Nat → Nat → Int32} (h : ¬ pasN n S g k 1 0 = 0) : ouF n S g (q + 1) k = ouF n S g q (k + 1) := if_neg h
theorem kN_fr {g g1 s : Nat → Nat → Int32} : fr (kN g g1) (sS s 1 (g1 1)) 1 = g1 := by
  funext a q
  unfold fr
  rw [if_neg (by omega)]
  by_cases h : a = 1
  · rw [if_pos h, sS_s, h]
  · rw [if_neg h, kN_n h]
theorem kN_id {g : Nat → Nat → Int32} : kN g g = g := by
  funext a q
  unfold kN
  by_cases h : a = 1
  · rw [if_pos h, h]
  · rw [if_neg h]
theorem kN_kN {g g1 g2 : Nat → Nat → Int32} : kN (kN g g1) g2 = kN g g2 := by
  funext a q
  unfold kN
  by_cases h : a = 1
  · rw [if_pos h, if_pos h, if_pos rfl]
  · rw [if_neg h, if_neg h]
theorem sS_sS {s : Nat → Nat → Int32} {b : Nat} {f f' : Nat → Int32} : sS (sS s b f) b f' = sS s b f' := by
  funext a
  unfold sS
  by_cases h : a = b
  · rw [if_pos h, if_pos h]
  · rw [if_neg h, if_neg h, if_neg h]
theorem emb_F1o {g g1 s : Nat → Nat → Int32} {σ τ : Nat → Nat → Nat} {ρ : Nat → Nat} {c : Nat} (hσ : pmF σ τ) : bEmb (io 1) 26 shB (layB g1 (σ 1) (τ 1)) 182 shF (layF (kN g g1) (sS s 1 (g1 1)) σ τ ρ c) := by
  have z := emb_F1 (g := kN g g1) (s := sS s 1 (g1 1)) (ρ := ρ) (c := c) hσ
  rw [kN_fr] at z
  exact z
set_option maxRecDepth 100000 in
set_option maxHeartbeats 8000000 in
theorem fc_outage {l : Launch} {D : va_G} {cA : FieldType → ClassId} {z0 : Nat} {SK : Nat → Nat} {SV : Nat → Int32} {ad : Nat → Nat} (hE : aD (fun q => z0 ≤ q) ad 182) (g s : Nat → Nat → Int32) (σ τ : Nat → Nat → Nat) (hσ : pmF σ τ) (ρ : Nat → Nat) (c9 : Nat) (n : Nat) (S : Nat → Nat) (m9 : Nat) (hi_g : invK g n S) (hb : bo3 (g 1)) (hm1 : 1 ≤ m9) (hm : m9 ≤ 100) : bF l D cA z0 SK SV ad shF 182 yX8_outage cX8_outage 3 (some .int) 7 [.ref 0, .int (nI m9)] (layF g s σ τ ρ c9) (some (.int ((ouF n S g m9 0).1))) (layF (kN g (pasN n S g (ouF n S g m9 0).2)) (sS s 1 ((pasN n S g (ouF n S g m9 0).2) 1)) σ τ ρ c9) := by
  refine bCT_intro (tb := tb_X8_outage) (own := RX8) hE pn_X8 rfl tk_X8_outage rfl (Nat.le_of_ble_eq_true rfl) ?_
  intro p e s0 m args below meth c C hr
  refine bv_blk C frk_X8 csk_X8 3 3 rfl (L1 := ([(0, .ref 0), (1, .int (nI m9))] : Lc)) (st1 := ([.int (100), .int (1), .int (nI m9)] : List Value)) (w1 := (layF g s σ τ ρ c9)) (by rfl) ?_
  refine bv_fS1 C rfl (cs_within hE _ (nI m9) (1) (100)) ml_X8_41 st_X8_within ini_X8 cd_X8_within ok_X8_within rfl ⟨Nat.le_of_ble_eq_true rfl, Nat.le_of_ble_eq_true rfl⟩ ⟨Nat.zero_le _, Nat.zero_le _⟩ (rest := ([] : List Value)) rfl (Nat.le_of_ble_eq_true rfl) ?_
  refine bv_if_ne (j := 7) C rfl rfl (fun _ => ?_) (fun h => absurd h ((wn_m (M := 100) rfl hm1 hm (by decide))))
  refine bv_blk C frk_X8 csk_X8 4 11 rfl (L1 := ([(0, .ref 0), (1, .int (nI m9))] : Lc)) (st1 := ([.ref 6, .ref 28] : List Value)) (w1 := (layF g s σ τ ρ c9)) (by rfl) ?_
  refine bv_eV0 (io := io2 1 0) (N' := 44) (o0 := 0) (w2 := (layF g (sS s 1 (g 1)) σ τ ρ c9)) C rfl (ct2_state (io2_aD (by decide) (by decide) (by omega) hE) (fr g s 1) (fr g s 0) (σ 1) (τ 1) (σ 0) (τ 0) (hσ 1 (by decide)) (hσ 0 (by decide)) hb) ml_X8_62 im_X6_copyFrom sel_X6_copyFrom ini_X6 cd_X6_copyFrom ok_X6_copyFrom rfl ⟨Nat.le_of_ble_eq_true rfl, Nat.le_of_ble_eq_true rfl⟩ ⟨Nat.zero_le _, Nat.zero_le _⟩ (by decide) rfl rfl rfl (rest := ([] : List Value)) rfl (Nat.le_of_ble_eq_true rfl) (emb_2 hσ (by decide) (by decide) (by omega)) (aft_2s hσ (by decide) (by decide)) ?_
  refine bv_weq (show (layF g (sS s 1 (g 1)) σ τ ρ c9) = (layF (kN g (pasN n S g 0)) (sS s 1 ((pasN n S g 0) 1)) σ τ ρ c9) from by rw [show pasN n S g 0 = g from rfl, kN_id]) ?_
  refine bv_blk C frk_X8 csk_X8 2 14 rfl (L1 := ([(2, .int (0)), (0, .ref 0), (1, .int (nI m9))] : Lc)) (st1 := ([] : List Value)) (w1 := (layF (kN g (pasN n S g 0)) (sS s 1 ((pasN n S g 0) 1)) σ τ ρ c9)) (by rfl) ?_
  have lp : ∀ (q k : Nat), k + q = m9 → ouF n S g q k = (ouF n S g m9 0) → bV p l e (bR 7) s0 m args below meth c D cA shF (adA ad 182) 3 tb_X8_outage (MQ below (bQ D cA ad shF 182 (fun r w1 => r = (some (.int ((ouF n S g m9 0).1))) ∧ w1 = (layF (kN g (pasN n S g (ouF n S g m9 0).2)) (sS s 1 ((pasN n S g (ouF n S g m9 0).2) 1)) σ τ ρ c9))) args s0 0 0 (adA ad 182)) ad 182 0 0 (layF (kN g (pasN n S g k)) (sS s 1 ((pasN n S g k) 1)) σ τ ρ c9) 14 ([(2, .int (nI k)), (0, .ref 0), (1, .int (nI m9))] : Lc) ([] : List Value) := by
    intro q
    induction q with
    | zero =>
      intro k hk heq
      refine bv_blk C frk_X8 csk_X8 2 16 rfl (L1 := ([(2, .int (nI k)), (0, .ref 0), (1, .int (nI m9))] : Lc)) (st1 := ([.int (nI m9), .int (nI k)] : List Value)) (w1 := (layF (kN g (pasN n S g k)) (sS s 1 ((pasN n S g k) 1)) σ τ ρ c9)) (by rfl) ?_
      refine bv_icmp_gt (j := 31) C rfl rfl (fun h => absurd h (nI_nlt (a := m9) (b := k) (by omega) (by omega))) (fun _ => ?_)
      refine bv_blk C frk_X8 csk_X8 3 20 rfl (L1 := ([(2, .int (nI k)), (0, .ref 0), (1, .int (nI m9))] : Lc)) (st1 := ([.int (pasN n S g k 1 0)] : List Value)) (w1 := (layF (kN g (pasN n S g k)) (sS s 1 ((pasN n S g k) 1)) σ τ ρ c9)) (by rfl) ?_
      refine bv_if_ne (j := 23) C rfl rfl (fun c3 => ?_) (fun c3 => ?_)
      · refine bv_blk C frk_X8 csk_X8 2 25 rfl (L1 := ([(2, .int (nI k)), (0, .ref 0), (1, .int (nI m9))] : Lc)) (st1 := ([.int (nI m9), .int (nI k)] : List Value)) (w1 := (layF (kN g (pasN n S g k)) (sS s 1 ((pasN n S g k) 1)) σ τ ρ c9)) (by rfl) ?_
        refine bv_icmp_ge (j := 29) C rfl rfl (fun _ => ?_) (fun h => absurd (nI_le (a := m9) (b := k) (by omega) (by omega)) h)
        refine bv_blk C frk_X8 csk_X8 1 30 rfl (L1 := ([(2, .int ((nI k) + Int32.ofInt 1)), (0, .ref 0), (1, .int (nI m9))] : Lc)) (st1 := ([] : List Value)) (w1 := (layF (kN g (pasN n S g k)) (sS s 1 ((pasN n S g k) 1)) σ τ ρ c9)) (by rfl) ?_
        rw [show ((nI k) + Int32.ofInt 1) = nI (k + 1) from (nIi rfl)]
        refine bv_goto (j := 14) C rfl rfl ?_
        refine bv_blk C frk_X8 csk_X8 2 16 rfl (L1 := ([(2, .int (nI (k + 1))), (0, .ref 0), (1, .int (nI m9))] : Lc)) (st1 := ([.int (nI m9), .int (nI (k + 1))] : List Value)) (w1 := (layF (kN g (pasN n S g k)) (sS s 1 ((pasN n S g k) 1)) σ τ ρ c9)) (by rfl) ?_
        refine bv_icmp_gt (j := 31) C rfl rfl (fun _ => ?_) (fun h => absurd (nI_lt (a := m9) (b := (k + 1)) (by omega) (by omega)) h)
        refine bv_blk C frk_X8 csk_X8 1 32 rfl (L1 := ([(2, .int (nI (k + 1))), (0, .ref 0), (1, .int (nI m9))] : Lc)) (st1 := ([.int (-100000)] : List Value)) (w1 := (layF (kN g (pasN n S g k)) (sS s 1 ((pasN n S g k) 1)) σ τ ρ c9)) (by rfl) ?_
        exact bv_iret C rfl hr rfl ⟨by (rw [← heq, ou_z c3]), by (rw [← heq, ou_z c3])⟩
      · refine bv_blk C frk_X8 csk_X8 1 22 rfl (L1 := ([(2, .int (nI k)), (0, .ref 0), (1, .int (nI m9))] : Lc)) (st1 := ([.int (nI k)] : List Value)) (w1 := (layF (kN g (pasN n S g k)) (sS s 1 ((pasN n S g k) 1)) σ τ ρ c9)) (by rfl) ?_
        exact bv_iret C rfl hr rfl ⟨by (rw [← heq, ou_d c3]), by (rw [← heq, ou_d c3])⟩
    | succ q ih =>
      intro k hk heq
      refine bv_blk C frk_X8 csk_X8 2 16 rfl (L1 := ([(2, .int (nI k)), (0, .ref 0), (1, .int (nI m9))] : Lc)) (st1 := ([.int (nI m9), .int (nI k)] : List Value)) (w1 := (layF (kN g (pasN n S g k)) (sS s 1 ((pasN n S g k) 1)) σ τ ρ c9)) (by rfl) ?_
      refine bv_icmp_gt (j := 31) C rfl rfl (fun h => absurd h (nI_nlt (a := m9) (b := k) (by omega) (by omega))) (fun _ => ?_)
      refine bv_blk C frk_X8 csk_X8 3 20 rfl (L1 := ([(2, .int (nI k)), (0, .ref 0), (1, .int (nI m9))] : Lc)) (st1 := ([.int (pasN n S g k 1 0)] : List Value)) (w1 := (layF (kN g (pasN n S g k)) (sS s 1 ((pasN n S g k) 1)) σ τ ρ c9)) (by rfl) ?_
      refine bv_if_ne (j := 23) C rfl rfl (fun c7 => ?_) (fun c7 => ?_)
      · refine bv_blk C frk_X8 csk_X8 2 25 rfl (L1 := ([(2, .int (nI k)), (0, .ref 0), (1, .int (nI m9))] : Lc)) (st1 := ([.int (nI m9), .int (nI k)] : List Value)) (w1 := (layF (kN g (pasN n S g k)) (sS s 1 ((pasN n S g k) 1)) σ τ ρ c9)) (by rfl) ?_
        refine bv_icmp_ge (j := 29) C rfl rfl (fun h => absurd h (nI_ge (a := k) (b := m9) (by omega) (by omega))) (fun _ => ?_)
        refine bv_blk C frk_X8 csk_X8 2 28 rfl (L1 := ([(2, .int (nI k)), (0, .ref 0), (1, .int (nI m9))] : Lc)) (st1 := ([.ref 28] : List Value)) (w1 := (layF (kN g (pasN n S g k)) (sS s 1 ((pasN n S g k) 1)) σ τ ρ c9)) (by rfl) ?_
        refine bv_eV0 (io := io 1) (N' := 26) (o0 := 0) (w0 := (layB (pasN n S g k) (σ 1) (τ 1))) (w2 := (layF (kN (kN g (pasN n S g k)) (pasG n S (pasN n S g k))) (sS (sS s 1 ((pasN n S g k) 1)) 1 ((pasG n S (pasN n S g k)) 1)) σ τ ρ c9)) C rfl (cs_passInterval (io_aD (b := 1) (by decide) hE) (pasN n S g k) (σ 1) (τ 1) (hσ 1 (by decide)) n S (inv_pasN hi_g k)) ml_X8_177 im_X6_passInterval sel_X6_passInterval ini_X6 cd_X6_passInterval ok_X6_passInterval rfl ⟨Nat.le_of_ble_eq_true rfl, Nat.le_of_ble_eq_true rfl⟩ ⟨Nat.zero_le _, Nat.zero_le _⟩ (by decide) rfl rfl rfl (rest := ([] : List Value)) rfl (Nat.le_of_ble_eq_true rfl) (emb_F1o hσ) (aft_F1 hσ) ?_
        refine bv_weq (show (layF (kN (kN g (pasN n S g k)) (pasG n S (pasN n S g k))) (sS (sS s 1 ((pasN n S g k) 1)) 1 ((pasG n S (pasN n S g k)) 1)) σ τ ρ c9) = (layF (kN g (pasN n S g (k + 1))) (sS s 1 ((pasN n S g (k + 1)) 1)) σ τ ρ c9) from by rw [kN_kN, sS_sS]; rfl) ?_
        refine bv_blk C frk_X8 csk_X8 1 30 rfl (L1 := ([(2, .int ((nI k) + Int32.ofInt 1)), (0, .ref 0), (1, .int (nI m9))] : Lc)) (st1 := ([] : List Value)) (w1 := (layF (kN g (pasN n S g (k + 1))) (sS s 1 ((pasN n S g (k + 1)) 1)) σ τ ρ c9)) (by rfl) ?_
        rw [show ((nI k) + Int32.ofInt 1) = nI (k + 1) from (nIi rfl)]
        refine bv_goto (j := 14) C rfl rfl ?_
        refine bv_sub [0, 1, 2] (by rfl) ?_
        exact ih (k + 1) (by omega) (by rw [← heq, ou_s c7])
      · refine bv_blk C frk_X8 csk_X8 1 22 rfl (L1 := ([(2, .int (nI k)), (0, .ref 0), (1, .int (nI m9))] : Lc)) (st1 := ([.int (nI k)] : List Value)) (w1 := (layF (kN g (pasN n S g k)) (sS s 1 ((pasN n S g k) 1)) σ τ ρ c9)) (by rfl) ?_
        exact bv_iret C rfl hr rfl ⟨by (rw [← heq, ou_d c7]), by (rw [← heq, ou_d c7])⟩
  refine bv_sub [0, 1, 2] (by rfl) ?_
  exact lp m9 0 (by omega) rfl
def fc_outagex_r (x : Int32) (g s : Nat → Nat → Int32) (ρ : Nat → Nat) (c9 : Nat) : Int32 := (-100002)
set_option maxRecDepth 100000 in
set_option maxHeartbeats 8000000 in
theorem fc_outagex {l : Launch} {D : va_G} {cA : FieldType → ClassId} {z0 : Nat} {SK : Nat → Nat} {SV : Nat → Int32} {ad : Nat → Nat} (hE : aD (fun q => z0 ≤ q) ad 182) (g s : Nat → Nat → Int32) (σ τ : Nat → Nat → Nat) (hσ : pmF σ τ) (ρ : Nat → Nat) (c9 : Nat) (x : Int32) (hx : wnI x 1 100 = 0) : bF l D cA z0 SK SV ad shF 182 yX8_outage cX8_outage 3 (some .int) 7 [.ref 0, .int x] (layF g s σ τ ρ c9) (some (.int (fc_outagex_r x g s ρ c9))) (layF g s σ τ ρ c9) := by
  refine bCT_intro (tb := tb_X8_outage) (own := RX8) hE pn_X8 rfl tk_X8_outage rfl (Nat.le_of_ble_eq_true rfl) ?_
  intro p e s0 m args below meth c C hr
  refine bv_blk C frk_X8 csk_X8 3 3 rfl (L1 := ([(0, .ref 0), (1, .int x)] : Lc)) (st1 := ([.int (100), .int (1), .int x] : List Value)) (w1 := (layF g s σ τ ρ c9)) (by rfl) ?_
  refine bv_fS1 C rfl (cs_within hE _ x (1) (100)) ml_X8_41 st_X8_within ini_X8 cd_X8_within ok_X8_within rfl ⟨Nat.le_of_ble_eq_true rfl, Nat.le_of_ble_eq_true rfl⟩ ⟨Nat.zero_le _, Nat.zero_le _⟩ (rest := ([] : List Value)) rfl (Nat.le_of_ble_eq_true rfl) ?_
  refine bv_if_ne (j := 7) C rfl rfl (fun h => absurd (hx) h) (fun _ => ?_)
  refine bv_blk C frk_X8 csk_X8 1 6 rfl (L1 := ([(0, .ref 0), (1, .int x)] : Lc)) (st1 := ([.int (-100002)] : List Value)) (w1 := (layF g s σ τ ρ c9)) (by rfl) ?_
  exact bv_iret C rfl hr rfl ⟨by (rfl), by (rfl)⟩
