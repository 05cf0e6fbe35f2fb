theorem fc_save {l : Launch} {D : va_G} {cA : FieldType → ClassId} {z0 : Nat} {SK : Nat → Nat} {SV : Nat → Int32} {ad : Nat → Nat} (hE : aD (fun q => z0 ≤ q) ad 182) (g s : Nat → Nat → Int32) (σ τ : Nat → Nat → Nat) (hσ : pmF σ τ) (ρ : Nat → Nat) (c9 : Nat) (hb : bo3 (g 1)) (hρ : ∀ k, k < 6 → ρ k < 6) (hc : c9 ≤ 6) : bF l D cA z0 SK SV ad shF 182 yX8_save cX8_save 3 none 2 [.ref 0] (layF g s σ τ ρ c9) none (layF g (svs g s ρ c9) σ τ (svr ρ c9) (svc c9)) := by
  unfold svs svr svc svb
  by_cases h : c9 = 6
  · rw [if_pos h, if_pos h, if_pos h]
    exact fc_save1 hE g s σ τ hσ ρ c9 hb hρ h
  · rw [if_neg h, if_neg h, if_neg h]
    exact fc_save0 hE g s σ τ hσ ρ c9 hb hρ (by omega)
def fc_isUp_r (g s : Nat → Nat → Int32) (ρ : Nat → Nat) (c9 : Nat) : Int32 := (btI (g 1 0))
set_option maxRecDepth 100000 in
set_option maxHeartbeats 8000000 in
theorem fc_isUp {l : Launch} {D : va_G} {cA : FieldType → ClassId} {z0 : Nat} {SK : Nat → Nat} {SV : Nat → Int32} {ad : Nat → Nat} (hE : aD (fun q => z0 ≤ q) ad 182) (g s : Nat → Nat → Int32) (σ τ : Nat → Nat → Nat) (hσ : pmF σ τ) (ρ : Nat → Nat) (c9 : Nat)  : bF l D cA z0 SK SV ad shF 182 yX8_isUp cX8_isUp 1 (some .int) 1 [.ref 0] (layF g s σ τ ρ c9) (some (.int (fc_isUp_r g s ρ c9))) (layF g s σ τ ρ c9) := by
  refine bCT_intro (tb := tb_X8_isUp) (own := RX8) hE pn_X8 rfl tk_X8_isUp rfl (Nat.le_of_ble_eq_true rfl) ?_
  intro p e s0 m args below meth c C hr
  refine bv_blk C frk_X8 csk_X8 3 3 rfl (L1 := ([(0, .ref 0)] : Lc)) (st1 := ([.int (g 1 0)] : List Value)) (w1 := (layF g s σ τ ρ c9)) (by rfl) ?_
  refine bv_fS1 C rfl (cs_bit hE _ (g 1 0)) ml_X8_136 st_X8_bit ini_X8 cd_X8_bit ok_X8_bit rfl ⟨Nat.le_of_ble_eq_true rfl, Nat.le_of_ble_eq_true rfl⟩ ⟨Nat.zero_le _, Nat.zero_le _⟩ (rest := ([] : List Value)) rfl (Nat.le_of_ble_eq_true rfl) ?_
  exact bv_iret C rfl hr rfl ⟨by (rfl), by (rfl)⟩
def fc_failures_r (g s : Nat → Nat → Int32) (ρ : Nat → Nat) (c9 : Nat) : Int32 := (g 1 1)
set_option maxRecDepth 100000 in
set_option maxHeartbeats 8000000 in
theorem fc_failures {l : Launch} {D : va_G} {cA : FieldType → ClassId} {z0 : Nat} {SK : Nat → Nat} {SV : Nat → Int32} {ad : Nat → Nat} (hE : aD (fun q => z0 ≤ q) ad 182) (g s : Nat → Nat → Int32) (σ τ : Nat → Nat → Nat) (hσ : pmF σ τ) (ρ : Nat → Nat) (c9 : Nat)  : bF l D cA z0 SK SV ad shF 182 yX8_failures cX8_failures 1 (some .int) 0 [.ref 0] (layF g s σ τ ρ c9) (some (.int (fc_failures_r g s ρ c9))) (layF g s σ τ ρ c9) := by
  refine bCT_intro (tb := tb_X8_failures) (own := RX8) hE pn_X8 rfl tk_X8_failures rfl (Nat.le_of_ble_eq_true rfl) ?_
  intro p e s0 m args below meth c C hr
  refine bv_blk C frk_X8 csk_X8 3 3 rfl (L1 := ([(0, .ref 0)] : Lc)) (st1 := ([.int (g 1 1)] : List Value)) (w1 := (layF g s σ τ ρ c9)) (by rfl) ?_
  exact bv_iret C rfl hr rfl ⟨by (rfl), by (rfl)⟩
def fc_interval_r (g s : Nat → Nat → Int32) (ρ : Nat → Nat) (c9 : Nat) : Int32 := (g 1 2)
set_option maxRecDepth 100000 in
set_option maxHeartbeats 8000000 in
theorem fc_interval {l : Launch} {D : va_G} {cA : FieldType → ClassId} {z0 : Nat} {SK : Nat → Nat} {SV : Nat → Int32} {ad : Nat → Nat} (hE : aD (fun q => z0 ≤ q) ad 182) (g s : Nat → Nat → Int32) (σ τ : Nat → Nat → Nat) (hσ : pmF σ τ) (ρ : Nat → Nat) (c9 : Nat)  : bF l D cA z0 SK SV ad shF 182 yX8_interval cX8_interval 1 (some .int) 0 [.ref 0] (layF g s σ τ ρ c9) (some (.int (fc_interval_r g s ρ c9))) (layF g s σ τ ρ c9) := by
  refine bCT_intro (tb := tb_X8_interval) (own := RX8) hE pn_X8 rfl tk_X8_interval rfl (Nat.le_of_ble_eq_true rfl) ?_
  intro p e s0 m args below meth c C hr
  refine bv_blk C frk_X8 csk_X8 3 3 rfl (L1 := ([(0, .ref 0)] : Lc)) (st1 := ([.int (g 1 2)] : List Value)) (w1 := (layF g s σ τ ρ c9)) (by rfl) ?_
  exact bv_iret C rfl hr rfl ⟨by (rfl), by (rfl)⟩
def fc_frames_r (g s : Nat → Nat → Int32) (ρ : Nat → Nat) (c9 : Nat) : Int32 := (g 1 3)
set_option maxRecDepth 100000 in
set_option maxHeartbeats 8000000 in
theorem fc_frames {l : Launch} {D : va_G} {cA : FieldType → ClassId} {z0 : Nat} {SK : Nat → Nat} {SV : Nat → Int32} {ad : Nat → Nat} (hE : aD (fun q => z0 ≤ q) ad 182) (g s : Nat → Nat → Int32) (σ τ : Nat → Nat → Nat) (hσ : pmF σ τ) (ρ : Nat → Nat) (c9 : Nat)  : bF l D cA z0 SK SV ad shF 182 yX8_frames cX8_frames 1 (some .int) 0 [.ref 0] (layF g s σ τ ρ c9) (some (.int (fc_frames_r g s ρ c9))) (layF g s σ τ ρ c9) := by
  refine bCT_intro (tb := tb_X8_frames) (own := RX8) hE pn_X8 rfl tk_X8_frames rfl (Nat.le_of_ble_eq_true rfl) ?_
  intro p e s0 m args below meth c C hr
  refine bv_blk C frk_X8 csk_X8 3 3 rfl (L1 := ([(0, .ref 0)] : Lc)) (st1 := ([.int (g 1 3)] : List Value)) (w1 := (layF g s σ τ ρ c9)) (by rfl) ?_
  exact bv_iret C rfl hr rfl ⟨by (rfl), by (rfl)⟩
def fc_time_r (g s : Nat → Nat → Int32) (ρ : Nat → Nat) (c9 : Nat) : Int32 := (g 1 4)
set_option maxRecDepth 100000 in
set_option maxHeartbeats 8000000 in
theorem fc_time {l : Launch} {D : va_G} {cA : FieldType → ClassId} {z0 : Nat} {SK : Nat → Nat} {SV : Nat → Int32} {ad : Nat → Nat} (hE : aD (fun q => z0 ≤ q) ad 182) (g s : Nat → Nat → Int32) (σ τ : Nat → Nat → Nat) (hσ : pmF σ τ) (ρ : Nat → Nat) (c9 : Nat)  : bF l D cA z0 SK SV ad shF 182 yX8_time cX8_time 1 (some .int) 0 [.ref 0] (layF g s σ τ ρ c9) (some (.int (fc_time_r g s ρ c9))) (layF g s σ τ ρ c9) := by
  refine bCT_intro (tb := tb_X8_time) (own := RX8) hE pn_X8 rfl tk_X8_time rfl (Nat.le_of_ble_eq_true rfl) ?_
  intro p e s0 m args below meth c C hr
  refine bv_blk C frk_X8 csk_X8 3 3 rfl (L1 := ([(0, .ref 0)] : Lc)) (st1 := ([.int (g 1 4)] : List Value)) (w1 := (layF g s σ τ ρ c9)) (by rfl) ?_
  exact bv_iret C rfl hr rfl ⟨by (rfl), by (rfl)⟩
def fc_backupCount_r (g s : Nat → Nat → Int32) (ρ : Nat → Nat) (c9 : Nat) : Int32 := (g 1 13)
set_option maxRecDepth 100000 in
set_option maxHeartbeats 8000000 in
theorem fc_backupCount {l : Launch} {D : va_G} {cA : FieldType → ClassId} {z0 : Nat} {SK : Nat → Nat} {SV : Nat → Int32} {ad : Nat → Nat} (hE : aD (fun q => z0 ≤ q) ad 182) (g s : Nat → Nat → Int32) (σ τ : Nat → Nat → Nat) (hσ : pmF σ τ) (ρ : Nat → Nat) (c9 : Nat)  : bF l D cA z0 SK SV ad shF 182 yX8_backupCount cX8_backupCount 1 (some .int) 0 [.ref 0] (layF g s σ τ ρ c9) (some (.int (fc_backupCount_r g s ρ c9))) (layF g s σ τ ρ c9) := by
  refine bCT_intro (tb := tb_X8_backupCount) (own := RX8) hE pn_X8 rfl tk_X8_backupCount rfl (Nat.le_of_ble_eq_true rfl) ?_
  intro p e s0 m args below meth c C hr
  refine bv_blk C frk_X8 csk_X8 4 4 rfl (L1 := ([(0, .ref 0)] : Lc)) (st1 := ([.int (g 1 13)] : List Value)) (w1 := (layF g s σ τ ρ c9)) (by rfl) ?_
  exact bv_iret C rfl hr rfl ⟨by (rfl), by (rfl)⟩
def fc_eventCount_r (g s : Nat → Nat → Int32) (ρ : Nat → Nat) (c9 : Nat) : Int32 := (g 1 14)
set_option maxRecDepth 100000 in
set_option maxHeartbeats 8000000 in
theorem fc_eventCount {l : Launch} {D : va_G} {cA : FieldType → ClassId} {z0 : Nat} {SK : Nat → Nat} {SV : Nat → Int32} {ad : Nat → Nat} (hE : aD (fun q => z0 ≤ q) ad 182) (g s : Nat → Nat → Int32) (σ τ : Nat → Nat → Nat) (hσ : pmF σ τ) (ρ : Nat → Nat) (c9 : Nat)  : bF l D cA z0 SK SV ad shF 182 yX8_eventCount cX8_eventCount 1 (some .int) 0 [.ref 0] (layF g s σ τ ρ c9) (some (.int (fc_eventCount_r g s ρ c9))) (layF g s σ τ ρ c9) := by
  refine bCT_intro (tb := tb_X8_eventCount) (own := RX8) hE pn_X8 rfl tk_X8_eventCount rfl (Nat.le_of_ble_eq_true rfl) ?_
  intro p e s0 m args below meth c C hr
  refine bv_blk C frk_X8 csk_X8 4 4 rfl (L1 := ([(0, .ref 0)] : Lc)) (st1 := ([.int (g 1 14)] : List Value)) (w1 := (layF g s σ τ ρ c9)) (by rfl) ?_
  exact bv_iret C rfl hr rfl ⟨by (rfl), by (rfl)⟩
def fc_setThreshold_r (x : Int32) (g s : Nat → Nat → Int32) (ρ : Nat → Nat) (c9 : Nat) : Int32 := (if (wnI x (-200) (200)) = 0 then (-100002) else (g 1 6))
def fc_setThreshold_w (x : Int32) (g s : Nat → Nat → Int32) (σ τ : Nat → Nat → Nat) (ρ : Nat → Nat) (c9 : Nat) : Wd := (if (wnI x (-200) (200)) = 0 then (layF g s σ τ ρ c9) else (layF (ug g 1 6 x) (svs g s ρ c9) σ τ (svr ρ c9) (svc c9)))
set_option maxRecDepth 100000 in
set_option maxHeartbeats 8000000 in
theorem fc_setThreshold {l : Launch} {D : va_G} {cA : FieldType → ClassId} {z0 : Nat} {SK : Nat → Nat} {SV : Nat → Int32} {ad : Nat → Nat} (hE : aD (fun q => z0 ≤ q) ad 182) (g s : Nat → Nat → Int32) (σ τ : Nat → Nat → Nat) (hσ : pmF σ τ) (ρ : Nat → Nat) (c9 : Nat) (x : Int32) (hb : bo3 (g 1)) (hρ : ∀ k, k < 6 → ρ k < 6) (hc : c9 ≤ 6) : bF l D cA z0 SK SV ad shF 182 yX8_setThreshold cX8_setThreshold 3 (some .int) 3 [.ref 0, .int x] (layF g s σ τ ρ c9) (some (.int (fc_setThreshold_r x g s ρ c9))) (fc_setThreshold_w x g s σ τ ρ c9) := by
  refine bCT_intro (tb := tb_X8_setThreshold) (own := RX8) hE pn_X8 rfl tk_X8_setThreshold rfl (Nat.le_of_ble_eq_true rfl) ?_
  intro p e s0 m args below meth c C hr
  refine bv_blk C frk_X8 csk_X8 3 3 rfl (L1 := ([(0, .ref 0), (1, .int x)] : Lc)) (st1 := ([.int (200), .int (-200), .int x] : List Value)) (w1 := (layF g s σ τ ρ c9)) (by rfl) ?_
  refine bv_fS1 C rfl (cs_within hE _ x (-200) (200)) ml_X8_41 st_X8_within ini_X8 cd_X8_within ok_X8_within rfl ⟨Nat.le_of_ble_eq_true rfl, Nat.le_of_ble_eq_true rfl⟩ ⟨Nat.zero_le _, Nat.zero_le _⟩ (rest := ([] : List Value)) rfl (Nat.le_of_ble_eq_true rfl) ?_
  refine bv_if_ne (j := 7) C rfl rfl (fun c1 => ?_) (fun c1 => ?_)
  · refine bv_blk C frk_X8 csk_X8 1 8 rfl (L1 := ([(0, .ref 0), (1, .int x)] : Lc)) (st1 := ([.ref 0] : List Value)) (w1 := (layF g s σ τ ρ c9)) (by rfl) ?_
    refine bv_fV0 C rfl (fc_save hE g s σ τ hσ ρ c9 hb hρ hc) ml_X8_59 im_X8_save sel_X8_save ini_X8 cd_X8_save ok_X8_save rfl ⟨Nat.le_of_ble_eq_true rfl, Nat.le_of_ble_eq_true rfl⟩ ⟨Nat.zero_le _, Nat.zero_le _⟩ (by decide) rfl rfl rfl (rest := ([] : List Value)) rfl (Nat.le_of_ble_eq_true rfl) ?_
    refine bv_blk C frk_X8 csk_X8 8 17 rfl (L1 := ([(2, .int (g 1 6)), (0, .ref 0), (1, .int x)] : Lc)) (st1 := ([] : List Value)) (w1 := up2 (layF g (svs g s ρ c9) σ τ (svr ρ c9) (svc c9)) 6 12 (.int x)) (by rfl) ?_
    refine bv_w (lf_up (o := 0) (k := 12) (b := 6) hσ (by decide) (by decide) (by rfl) (by rfl)) ?_
    refine bv_blk C frk_X8 csk_X8 1 18 rfl (L1 := ([(2, .int (g 1 6)), (0, .ref 0), (1, .int x)] : Lc)) (st1 := ([.int (g 1 6)] : List Value)) (w1 := (layF (ug g 1 6 x) (svs g s ρ c9) σ τ (svr ρ c9) (svc c9))) (by rfl) ?_
    exact bv_iret C rfl hr rfl ⟨by (exact congrArg (fun x => some (Value.int x)) (((if_neg c1).trans rfl)).symm), by (exact congrArg (fun x => x) (((if_neg c1).trans rfl)).symm)⟩
  · refine bv_blk C frk_X8 csk_X8 1 6 rfl (L1 := ([(0, .ref 0), (1, .int x)] : Lc)) (st1 := ([.int (-100002)] : List Value)) (w1 := (layF g s σ τ ρ c9)) (by rfl) ?_
    exact bv_iret C rfl hr rfl ⟨by (exact congrArg (fun x => some (Value.int x)) (((if_pos c1).trans rfl)).symm), by (exact congrArg (fun x => x) (((if_pos c1).trans rfl)).symm)⟩
def fc_setFade_r (x y : Int32) (g s : Nat → Nat → Int32) (ρ : Nat → Nat) (c9 : Nat) : Int32 := (if (wnI x (0) (60)) = 0 then (-100002) else (g 1 7))
def fc_setFade_w (x y : Int32) (g s : Nat → Nat → Int32) (σ τ : Nat → Nat → Nat) (ρ : Nat → Nat) (c9 : Nat) : Wd := (if (wnI x (0) (60)) = 0 then (layF g s σ τ ρ c9) else (layF (ug (ug g 1 7 x) 1 5 y) (svs g s ρ c9) σ τ (svr ρ c9) (svc c9)))
set_option maxRecDepth 100000 in
set_option maxHeartbeats 8000000 in
theorem fc_setFade {l : Launch} {D : va_G} {cA : FieldType → ClassId} {z0 : Nat} {SK : Nat → Nat} {SV : Nat → Int32} {ad : Nat → Nat} (hE : aD (fun q => z0 ≤ q) ad 182) (g s : Nat → Nat → Int32) (σ τ : Nat → Nat → Nat) (hσ : pmF σ τ) (ρ : Nat → Nat) (c9 : Nat) (x y : Int32) (hb : bo3 (g 1)) (hρ : ∀ k, k < 6 → ρ k < 6) (hc : c9 ≤ 6) : bF l D cA z0 SK SV ad shF 182 yX8_setFade cX8_setFade 4 (some .int) 3 [.ref 0, .int x, .int y] (layF g s σ τ ρ c9) (some (.int (fc_setFade_r x y g s ρ c9))) (fc_setFade_w x y g s σ τ ρ c9) := by
  refine bCT_intro (tb := tb_X8_setFade) (own := RX8) hE pn_X8 rfl tk_X8_setFade rfl (Nat.le_of_ble_eq_true rfl) ?_
  intro p e s0 m args below meth c C hr
  refine bv_blk C frk_X8 csk_X8 3 3 rfl (L1 := ([(0, .ref 0), (1, .int x), (2, .int y)] : Lc)) (st1 := ([.int (60), .int (0), .int x] : List Value)) (w1 := (layF g s σ τ ρ c9)) (by rfl) ?_
  refine bv_fS1 C rfl (cs_within hE _ x (0) (60)) ml_X8_41 st_X8_within ini_X8 cd_X8_within ok_X8_within rfl ⟨Nat.le_of_ble_eq_true rfl, Nat.le_of_ble_eq_true rfl⟩ ⟨Nat.zero_le _, Nat.zero_le _⟩ (rest := ([] : List Value)) rfl (Nat.le_of_ble_eq_true rfl) ?_
  refine bv_if_ne (j := 7) C rfl rfl (fun c1 => ?_) (fun c1 => ?_)
  · refine bv_blk C frk_X8 csk_X8 1 8 rfl (L1 := ([(0, .ref 0), (1, .int x), (2, .int y)] : Lc)) (st1 := ([.ref 0] : List Value)) (w1 := (layF g s σ τ ρ c9)) (by rfl) ?_
    refine bv_fV0 C rfl (fc_save hE g s σ τ hσ ρ c9 hb hρ hc) ml_X8_59 im_X8_save sel_X8_save ini_X8 cd_X8_save ok_X8_save rfl ⟨Nat.le_of_ble_eq_true rfl, Nat.le_of_ble_eq_true rfl⟩ ⟨Nat.zero_le _, Nat.zero_le _⟩ (by decide) rfl rfl rfl (rest := ([] : List Value)) rfl (Nat.le_of_ble_eq_true rfl) ?_
    refine bv_blk C frk_X8 csk_X8 8 17 rfl (L1 := ([(3, .int (g 1 7)), (0, .ref 0), (1, .int x), (2, .int y)] : Lc)) (st1 := ([] : List Value)) (w1 := up2 (layF g (svs g s ρ c9) σ τ (svr ρ c9) (svc c9)) 6 13 (.int x)) (by rfl) ?_
    refine bv_w (lf_up (o := 0) (k := 13) (b := 7) hσ (by decide) (by decide) (by rfl) (by rfl)) ?_
    refine bv_blk C frk_X8 csk_X8 4 21 rfl (L1 := ([(3, .int (g 1 7)), (0, .ref 0), (1, .int x), (2, .int y)] : Lc)) (st1 := ([] : List Value)) (w1 := up2 (layF (ug g 1 7 x) (svs g s ρ c9) σ τ (svr ρ c9) (svc c9)) 6 11 (.int y)) (by rfl) ?_
    refine bv_w (lf_up (o := 0) (k := 11) (b := 5) hσ (by decide) (by decide) (by rfl) (by rfl)) ?_
    refine bv_blk C frk_X8 csk_X8 1 22 rfl (L1 := ([(3, .int (g 1 7)), (0, .ref 0), (1, .int x), (2, .int y)] : Lc)) (st1 := ([.int (g 1 7)] : List Value)) (w1 := (layF (ug (ug g 1 7 x) 1 5 y) (svs g s ρ c9) σ τ (svr ρ c9) (svc c9))) (by rfl) ?_
    exact bv_iret C rfl hr rfl ⟨by (exact congrArg (fun x => some (Value.int x)) (((if_neg c1).trans rfl)).symm), by (exact congrArg (fun x => x) (((if_neg c1).trans rfl)).symm)⟩
  · refine bv_blk C frk_X8 csk_X8 1 6 rfl (L1 := ([(0, .ref 0), (1, .int x), (2, .int y)] : Lc)) (st1 := ([.int (-100002)] : List Value)) (w1 := (layF g s σ τ ρ c9)) (by rfl) ?_
    exact bv_iret C rfl hr rfl ⟨by (exact congrArg (fun x => some (Value.int x)) (((if_pos c1).trans rfl)).symm), by (exact congrArg (fun x => x) (((if_pos c1).trans rfl)).symm)⟩
def fc_setTracking_r (on x : Int32) (g s : Nat → Nat → Int32) (ρ : Nat → Nat) (c9 : Nat) : Int32 := (if (wnI x (0) (40)) = 0 then (-100002) else (btI (g 1 8)))
def fc_setTracking_w (on x : Int32) (g s : Nat → Nat → Int32) (σ τ : Nat → Nat → Nat) (ρ : Nat → Nat) (c9 : Nat) : Wd := (if (wnI x (0) (40)) = 0 then (layF g s σ τ ρ c9) else (layF (ug (ug g 1 8 on) 1 9 x) (svs g s ρ c9) σ τ (svr ρ c9) (svc c9)))
set_option maxRecDepth 100000 in
set_option maxHeartbeats 8000000 in
theorem fc_setTracking {l : Launch} {D : va_G} {cA : FieldType → ClassId} {z0 : Nat} {SK : Nat → Nat} {SV : Nat → Int32} {ad : Nat → Nat} (hE : aD (fun q => z0 ≤ q) ad 182) (g s : Nat → Nat → Int32) (σ τ : Nat → Nat → Nat) (hσ : pmF σ τ) (ρ : Nat → Nat) (c9 : Nat) (on x : Int32) (hb : bo3 (g 1)) (hρ : ∀ k, k < 6 → ρ k < 6) (hc : c9 ≤ 6) (ho : on = 0 ∨ on = 1) : bF l D cA z0 SK SV ad shF 182 yX8_setTracking cX8_setTracking 4 (some .int) 3 [.ref 0, .int on, .int x] (layF g s σ τ ρ c9) (some (.int (fc_setTracking_r on x g s ρ c9))) (fc_setTracking_w on x g s σ τ ρ c9) := by
  refine bCT_intro (tb := tb_X8_setTracking) (own := RX8) hE pn_X8 rfl tk_X8_setTracking rfl (Nat.le_of_ble_eq_true rfl) ?_
  intro p e s0 m args below meth c C hr
  refine bv_blk C frk_X8 csk_X8 3 3 rfl (L1 := ([(0, .ref 0), (1, .int on), (2, .int x)] : Lc)) (st1 := ([.int (40), .int (0), .int x] : List Value)) (w1 := (layF g s σ τ ρ c9)) (by rfl) ?_
  refine bv_fS1 C rfl (cs_within hE _ x (0) (40)) ml_X8_41 st_X8_within ini_X8 cd_X8_within ok_X8_within rfl ⟨Nat.le_of_ble_eq_true rfl, Nat.le_of_ble_eq_true rfl⟩ ⟨Nat.zero_le _, Nat.zero_le _⟩ (rest := ([] : List Value)) rfl (Nat.le_of_ble_eq_true rfl) ?_
  refine bv_if_ne (j := 7) C rfl rfl (fun c1 => ?_) (fun c1 => ?_)
  · refine bv_blk C frk_X8 csk_X8 1 8 rfl (L1 := ([(0, .ref 0), (1, .int on), (2, .int x)] : Lc)) (st1 := ([.ref 0] : List Value)) (w1 := (layF g s σ τ ρ c9)) (by rfl) ?_
    refine bv_fV0 C rfl (fc_save hE g s σ τ hσ ρ c9 hb hρ hc) ml_X8_59 im_X8_save sel_X8_save ini_X8 cd_X8_save ok_X8_save rfl ⟨Nat.le_of_ble_eq_true rfl, Nat.le_of_ble_eq_true rfl⟩ ⟨Nat.zero_le _, Nat.zero_le _⟩ (by decide) rfl rfl rfl (rest := ([] : List Value)) rfl (Nat.le_of_ble_eq_true rfl) ?_
    refine bv_blk C frk_X8 csk_X8 3 12 rfl (L1 := ([(0, .ref 0), (1, .int on), (2, .int x)] : Lc)) (st1 := ([.int (g 1 8)] : List Value)) (w1 := (layF g (svs g s ρ c9) σ τ (svr ρ c9) (svc c9))) (by rfl) ?_
    refine bv_fS1 C rfl (cs_bit hE _ (g 1 8)) ml_X8_136 st_X8_bit ini_X8 cd_X8_bit ok_X8_bit rfl ⟨Nat.le_of_ble_eq_true rfl, Nat.le_of_ble_eq_true rfl⟩ ⟨Nat.zero_le _, Nat.zero_le _⟩ (rest := ([] : List Value)) rfl (Nat.le_of_ble_eq_true rfl) ?_
    refine bv_blk C frk_X8 csk_X8 4 17 rfl (L1 := ([(3, .int (btI (g 1 8))), (0, .ref 0), (1, .int on), (2, .int x)] : Lc)) (st1 := ([.int on, .ref 6] : List Value)) (w1 := (layF g (svs g s ρ c9) σ τ (svr ρ c9) (svc c9))) (by rfl) ?_
    refine bv_put (ty := .boolean) C rfl cl_X6 fl_X8_132 (by decide) rfl (by decide +kernel) (nar_01 ho _) (fit_01 ho _) rfl (by decide) (by decide) ?_
    refine bv_w (lf_up (o := 0) (k := 14) (b := 8) hσ (by decide) (by decide) (by rfl) (by rfl)) ?_
    refine bv_blk C frk_X8 csk_X8 4 22 rfl (L1 := ([(3, .int (btI (g 1 8))), (0, .ref 0), (1, .int on), (2, .int x)] : Lc)) (st1 := ([] : List Value)) (w1 := up2 (layF (ug g 1 8 on) (svs g s ρ c9) σ τ (svr ρ c9) (svc c9)) 6 15 (.int x)) (by rfl) ?_
    refine bv_w (lf_up (o := 0) (k := 15) (b := 9) hσ (by decide) (by decide) (by rfl) (by rfl)) ?_
    refine bv_blk C frk_X8 csk_X8 1 23 rfl (L1 := ([(3, .int (btI (g 1 8))), (0, .ref 0), (1, .int on), (2, .int x)] : Lc)) (st1 := ([.int (btI (g 1 8))] : List Value)) (w1 := (layF (ug (ug g 1 8 on) 1 9 x) (svs g s ρ c9) σ τ (svr ρ c9) (svc c9))) (by rfl) ?_
    exact bv_iret C rfl hr rfl ⟨by (exact congrArg (fun x => some (Value.int x)) (((if_neg c1).trans rfl)).symm), by (exact congrArg (fun x => x) (((if_neg c1).trans rfl)).symm)⟩
  · refine bv_blk C frk_X8 csk_X8 1 6 rfl (L1 := ([(0, .ref 0), (1, .int on), (2, .int x)] : Lc)) (st1 := ([.int (-100002)] : List Value)) (w1 := (layF g s σ τ ρ c9)) (by rfl) ?_
    exact bv_iret C rfl hr rfl ⟨by (exact congrArg (fun x => some (Value.int x)) (((if_pos c1).trans rfl)).symm), by (exact congrArg (fun x => x) (((if_pos c1).trans rfl)).symm)⟩
def fc_setRecovery_r (x on : Int32) (g s : Nat → Nat → Int32) (ρ : Nat → Nat) (c9 : Nat) : Int32 := (if (wnI x (1) (9)) = 0 then (-100002) else (g 1 10))
def fc_setRecovery_w (x on : Int32) (g s : Nat → Nat → Int32) (σ τ : Nat → Nat → Nat) (ρ : Nat → Nat) (c9 : Nat) : Wd := (if (wnI x (1) (9)) = 0 then (layF g s σ τ ρ c9) else (layF (ug (ug g 1 10 x) 1 11 on) (svs g s ρ c9) σ τ (svr ρ c9) (svc c9)))
set_option maxRecDepth 100000 in
set_option maxHeartbeats 8000000 in
theorem fc_setRecovery {l : Launch} {D : va_G} {cA : FieldType → ClassId} {z0 : Nat} {SK : Nat → Nat} {SV : Nat → Int32} {ad : Nat → Nat} (hE : aD (fun q => z0 ≤ q) ad 182) (g s : Nat → Nat → Int32) (σ τ : Nat → Nat → Nat) (hσ : pmF σ τ) (ρ : Nat → Nat) (c9 : Nat) (x on : Int32) (hb : bo3 (g 1)) (hρ : ∀ k, k < 6 → ρ k < 6) (hc : c9 ≤ 6) (ho : on = 0 ∨ on = 1) : bF l D cA z0 SK SV ad shF 182 yX8_setRecovery cX8_setRecovery 4 (some .int) 3 [.ref 0, .int x, .int on] (layF g s σ τ ρ c9) (some (.int (fc_setRecovery_r x on g s ρ c9))) (fc_setRecovery_w x on g s σ τ ρ c9) := by
  refine bCT_intro (tb := tb_X8_setRecovery) (own := RX8) hE pn_X8 rfl tk_X8_setRecovery rfl (Nat.le_of_ble_eq_true rfl) ?_
  intro p e s0 m args below meth c C hr
  refine bv_blk C frk_X8 csk_X8 3 3 rfl (L1 := ([(0, .ref 0), (1, .int x), (2, .int on)] : Lc)) (st1 := ([.int (9), .int (1), .int x] : List Value)) (w1 := (layF g s σ τ ρ c9)) (by rfl) ?_
  refine bv_fS1 C rfl (cs_within hE _ x (1) (9)) ml_X8_41 st_X8_within ini_X8 cd_X8_within ok_X8_within rfl ⟨Nat.le_of_ble_eq_true rfl, Nat.le_of_ble_eq_true rfl⟩ ⟨Nat.zero_le _, Nat.zero_le _⟩ (rest := ([] : List Value)) rfl (Nat.le_of_ble_eq_true rfl) ?_
  refine bv_if_ne (j := 7) C rfl rfl (fun c1 => ?_) (fun c1 => ?_)
  · refine bv_blk C frk_X8 csk_X8 1 8 rfl (L1 := ([(0, .ref 0), (1, .int x), (2, .int on)] : Lc)) (st1 := ([.ref 0] : List Value)) (w1 := (layF g s σ τ ρ c9)) (by rfl) ?_
    refine bv_fV0 C rfl (fc_save hE g s σ τ hσ ρ c9 hb hρ hc) ml_X8_59 im_X8_save sel_X8_save ini_X8 cd_X8_save ok_X8_save rfl ⟨Nat.le_of_ble_eq_true rfl, Nat.le_of_ble_eq_true rfl⟩ ⟨Nat.zero_le _, Nat.zero_le _⟩ (by decide) rfl rfl rfl (rest := ([] : List Value)) rfl (Nat.le_of_ble_eq_true rfl) ?_
    refine bv_blk C frk_X8 csk_X8 8 17 rfl (L1 := ([(3, .int (g 1 10)), (0, .ref 0), (1, .int x), (2, .int on)] : Lc)) (st1 := ([] : List Value)) (w1 := up2 (layF g (svs g s ρ c9) σ τ (svr ρ c9) (svc c9)) 6 16 (.int x)) (by rfl) ?_
    refine bv_w (lf_up (o := 0) (k := 16) (b := 10) hσ (by decide) (by decide) (by rfl) (by rfl)) ?_
    refine bv_blk C frk_X8 csk_X8 3 20 rfl (L1 := ([(3, .int (g 1 10)), (0, .ref 0), (1, .int x), (2, .int on)] : Lc)) (st1 := ([.int on, .ref 6] : List Value)) (w1 := (layF (ug g 1 10 x) (svs g s ρ c9) σ τ (svr ρ c9) (svc c9))) (by rfl) ?_
    refine bv_put (ty := .boolean) C rfl cl_X6 fl_X8_146 (by decide) rfl (by decide +kernel) (nar_01 ho _) (fit_01 ho _) rfl (by decide) (by decide) ?_
    refine bv_w (lf_up (o := 0) (k := 17) (b := 11) hσ (by decide) (by decide) (by rfl) (by rfl)) ?_
    refine bv_blk C frk_X8 csk_X8 1 22 rfl (L1 := ([(3, .int (g 1 10)), (0, .ref 0), (1, .int x), (2, .int on)] : Lc)) (st1 := ([.int (g 1 10)] : List Value)) (w1 := (layF (ug (ug g 1 10 x) 1 11 on) (svs g s ρ c9) σ τ (svr ρ c9) (svc c9))) (by rfl) ?_
    exact bv_iret C rfl hr rfl ⟨by (exact congrArg (fun x => some (Value.int x)) (((if_neg c1).trans rfl)).symm), by (exact congrArg (fun x => x) (((if_neg c1).trans rfl)).symm)⟩
  · refine bv_blk C frk_X8 csk_X8 1 6 rfl (L1 := ([(0, .ref 0), (1, .int x), (2, .int on)] : Lc)) (st1 := ([.int (-100002)] : List Value)) (w1 := (layF g s σ τ ρ c9)) (by rfl) ?_
    exact bv_iret C rfl hr rfl ⟨by (exact congrArg (fun x => some (Value.int x)) (((if_pos c1).trans rfl)).symm), by (exact congrArg (fun x => x) (((if_pos c1).trans rfl)).symm)⟩
theorem ep_in {g : Nat → Nat → Int32} {E q : Nat} (hEv : g 1 14 = nI E) (hq : q < E) (hE2 : E ≤ 20) : cs_eplace_r (nI q) g = nI (E - 1 - q) := by
  unfold cs_eplace_r
  rw [hEv]
  exact nIs (nIs rfl rfl (by omega)) rfl (by omega)
theorem eh_in {g : Nat → Nat → Int32} {E q : Nat} (hEv : g 1 14 = nI E) (hq : q < E) (hE2 : E ≤ 20) : ¬ cs_ehas_r (nI q) g = 0 := by
  unfold cs_ehas_r
  rw [hEv, if_neg (show ¬ nI q < 0 from nI_nlt (a := q) (b := 0) (by omega) (by omega)), if_neg (nI_ge (a := q) (b := E) (by omega) (by omega))]
  first | (rw [if_neg (show ¬ 20 < nI E from nI_nlt (a := 20) (b := E) (by omega) (by omega))]; decide) | (rw [if_pos (show nI E ≤ 20 from nI_le (a := E) (b := 20) (by omega) (by omega))]; decide)
theorem bh_in {g : Nat → Nat → Int32} {B q : Nat} (hB : g 1 13 = nI B) (hq : q < B) (hB3 : B ≤ 3) : ¬ cs_bhas_r (nI q) g = 0 := by
  unfold cs_bhas_r
  rw [hB, if_neg (show ¬ nI q < 0 from nI_nlt (a := q) (b := 0) (by omega) (by omega)), if_neg (nI_ge (a := q) (b := B) (by omega) (by omega)), if_neg (show ¬ 3 ≤ nI q from nI_ge (a := q) (b := 3) (by omega) (by omega))]
  decide
theorem hs_in {x : Int32} {S k : Nat} (h : x = nI S) (hk : k < S) (hS : S ≤ 16) : ¬ hsC x (nI k) = 0 := by
  unfold hsC
  rw [h, if_neg (show ¬ nI k < 0 from nI_nlt (a := k) (b := 0) (by omega) (by omega)), if_neg (nI_ge (a := k) (b := S) (by omega) (by omega))]
  decide
def fc_beam0_r (g s : Nat → Nat → Int32) (ρ : Nat → Nat) (c9 : Nat) : Int32 := (g 1 18)
set_option maxRecDepth 100000 in
set_option maxHeartbeats 8000000 in
theorem fc_beam0 {l : Launch} {D : va_G} {cA : FieldType → ClassId} {z0 : Nat} {SK : Nat → Nat} {SV : Nat → Int32} {ad : Nat → Nat} (hE : aD (fun q => z0 ≤ q) ad 182) (g s : Nat → Nat → Int32) (σ τ : Nat → Nat → Nat) (hσ : pmF σ τ) (ρ : Nat → Nat) (c9 : Nat)  : bF l D cA z0 SK SV ad shF 182 yX8_beam cX8_beam 2 (some .int) 1 [.ref 0, .int (0)] (layF g s σ τ ρ c9) (some (.int (fc_beam0_r g s ρ c9))) (layF g s σ τ ρ c9) := by
  refine bCT_intro (tb := tb_X8_beam) (own := RX8) hE pn_X8 rfl tk_X8_beam rfl (Nat.le_of_ble_eq_true rfl) ?_
  intro p e s0 m args below meth c C hr
  refine bv_blk C frk_X8 csk_X8 1 1 rfl (L1 := ([(0, .ref 0), (1, .int (0))] : Lc)) (st1 := ([.int (0)] : List Value)) (w1 := (layF g s σ τ ρ c9)) (by rfl) ?_
  refine bv_fS1 C rfl (cs_isStation hE _ (0)) ml_X8_69 st_X8_isStation ini_X8 cd_X8_isStation ok_X8_isStation rfl ⟨Nat.le_of_ble_eq_true rfl, Nat.le_of_ble_eq_true rfl⟩ ⟨Nat.zero_le _, Nat.zero_le _⟩ (rest := ([] : List Value)) rfl (Nat.le_of_ble_eq_true rfl) ?_
  refine bv_if_eq (j := 9) C rfl rfl (fun h => absurd h ((by decide))) (fun _ => ?_)
  refine bv_blk C frk_X8 csk_X8 3 6 rfl (L1 := ([(0, .ref 0), (1, .int (0))] : Lc)) (st1 := ([.int (0), .ref 6] : List Value)) (w1 := (layF g s σ τ ρ c9)) (by rfl) ?_
  refine bv_eV1 (io := io 0) (N' := 26) (w2 := (layF g s σ τ ρ c9)) C rfl (cs_station0 (io_aD (b := 0) (by decide) hE) g (σ 0) (τ 0) (hσ 0 (by decide))) ml_X8_74 im_X6_station sel_X6_station ini_X6 cd_X6_station ok_X6_station rfl ⟨Nat.le_of_ble_eq_true rfl, Nat.le_of_ble_eq_true rfl⟩ ⟨Nat.zero_le _, Nat.zero_le _⟩ (by decide) rfl rfl rfl (rest := ([] : List Value)) rfl (Nat.le_of_ble_eq_true rfl) (emb_F0 hσ) (aft_F0i hσ) rfl ?_
  refine bv_blk C frk_X8 csk_X8 1 8 rfl (L1 := ([(0, .ref 0), (1, .int (0))] : Lc)) (st1 := ([.int (g 1 18)] : List Value)) (w1 := (layF g s σ τ ρ c9)) (by rfl) ?_
  refine bv_goto (j := 10) C rfl rfl ?_
  exact bv_iret C rfl hr rfl ⟨by (rfl), by (rfl)⟩
def fc_direction0_r (b : Int32) (g s : Nat → Nat → Int32) (ρ : Nat → Nat) (c9 : Nat) : Int32 := (if (hbC (g 1 15) b) = 0 then (-100002) else (ptC (g 1 15) (g 1 16) b))
set_option maxRecDepth 100000 in
set_option maxHeartbeats 8000000 in
theorem fc_direction0 {l : Launch} {D : va_G} {cA : FieldType → ClassId} {z0 : Nat} {SK : Nat → Nat} {SV : Nat → Int32} {ad : Nat → Nat} (hE : aD (fun q => z0 ≤ q) ad 182) (g s : Nat → Nat → Int32) (σ τ : Nat → Nat → Nat) (hσ : pmF σ τ) (ρ : Nat → Nat) (c9 : Nat) (b : Int32) : bF l D cA z0 SK SV ad shF 182 yX8_direction cX8_direction 4 (some .int) 2 [.ref 0, .int (0), .int b] (layF g s σ τ ρ c9) (some (.int (fc_direction0_r b g s ρ c9))) (layF g s σ τ ρ c9) := by
  refine bCT_intro (tb := tb_X8_direction) (own := RX8) hE pn_X8 rfl tk_X8_direction rfl (Nat.le_of_ble_eq_true rfl) ?_
  intro p e s0 m args below meth c C hr
  refine bv_blk C frk_X8 csk_X8 1 1 rfl (L1 := ([(0, .ref 0), (1, .int (0)), (2, .int b)] : Lc)) (st1 := ([.int (0)] : List Value)) (w1 := (layF g s σ τ ρ c9)) (by rfl) ?_
  refine bv_fS1 C rfl (cs_isStation hE _ (0)) ml_X8_69 st_X8_isStation ini_X8 cd_X8_isStation ok_X8_isStation rfl ⟨Nat.le_of_ble_eq_true rfl, Nat.le_of_ble_eq_true rfl⟩ ⟨Nat.zero_le _, Nat.zero_le _⟩ (rest := ([] : List Value)) rfl (Nat.le_of_ble_eq_true rfl) ?_
  refine bv_if_ne (j := 5) C rfl rfl (fun _ => ?_) (fun h => absurd h ((by decide)))
  refine bv_blk C frk_X8 csk_X8 3 8 rfl (L1 := ([(0, .ref 0), (1, .int (0)), (2, .int b)] : Lc)) (st1 := ([.int (0), .ref 6] : List Value)) (w1 := (layF g s σ τ ρ c9)) (by rfl) ?_
  refine bv_eV1 (io := io 0) (N' := 26) (w2 := (layF g s σ τ ρ c9)) C rfl (cs_station0 (io_aD (b := 0) (by decide) hE) g (σ 0) (τ 0) (hσ 0 (by decide))) ml_X8_74 im_X6_station sel_X6_station ini_X6 cd_X6_station ok_X6_station rfl ⟨Nat.le_of_ble_eq_true rfl, Nat.le_of_ble_eq_true rfl⟩ ⟨Nat.zero_le _, Nat.zero_le _⟩ (by decide) rfl rfl rfl (rest := ([] : List Value)) rfl (Nat.le_of_ble_eq_true rfl) (emb_F0 hσ) (aft_F0i hσ) rfl ?_
  refine bv_blk C frk_X8 csk_X8 3 12 rfl (L1 := ([(3, .ref 7), (0, .ref 0), (1, .int (0)), (2, .int b)] : Lc)) (st1 := ([.int b, .ref 7] : List Value)) (w1 := (layF g s σ τ ρ c9)) (by rfl) ?_
  refine bv_eV1 (io := io 0) (N' := 26) (w2 := (layF g s σ τ ρ c9)) C rfl (cs_hasBeam_1 (io_aD (b := 0) (by decide) hE) g (σ 0) (τ 0) (hσ 0 (by decide)) b) ml_X8_174 im_X7_hasBeam sel_X7_hasBeam ini_X7 cd_X7_hasBeam ok_X7_hasBeam rfl ⟨Nat.le_of_ble_eq_true rfl, Nat.le_of_ble_eq_true rfl⟩ ⟨Nat.zero_le _, Nat.zero_le _⟩ (by decide) rfl rfl rfl (rest := ([] : List Value)) rfl (Nat.le_of_ble_eq_true rfl) (emb_F0 hσ) (aft_F0i hσ) rfl ?_
  refine bv_if_eq (j := 18) C rfl rfl (fun c2 => ?_) (fun c2 => ?_)
  · refine bv_blk C frk_X8 csk_X8 1 19 rfl (L1 := ([(3, .ref 7), (0, .ref 0), (1, .int (0)), (2, .int b)] : Lc)) (st1 := ([.int (-100002)] : List Value)) (w1 := (layF g s σ τ ρ c9)) (by rfl) ?_
    exact bv_iret C rfl hr rfl ⟨by (exact congrArg (fun x => some (Value.int x)) (((if_pos c2).trans rfl)).symm), by (exact congrArg (fun x => x) (rfl).symm)⟩
  · refine bv_blk C frk_X8 csk_X8 2 16 rfl (L1 := ([(3, .ref 7), (0, .ref 0), (1, .int (0)), (2, .int b)] : Lc)) (st1 := ([.int b, .ref 7] : List Value)) (w1 := (layF g s σ τ ρ c9)) (by rfl) ?_
    refine bv_eV1 (io := io 0) (N' := 26) (w2 := (layF g s σ τ ρ c9)) C rfl (cs_pointing_1 (io_aD (b := 0) (by decide) hE) g (σ 0) (τ 0) (hσ 0 (by decide)) b) ml_X8_180 im_X7_pointing sel_X7_pointing ini_X7 cd_X7_pointing ok_X7_pointing rfl ⟨Nat.le_of_ble_eq_true rfl, Nat.le_of_ble_eq_true rfl⟩ ⟨Nat.zero_le _, Nat.zero_le _⟩ (by decide) rfl rfl rfl (rest := ([] : List Value)) rfl (Nat.le_of_ble_eq_true rfl) (emb_F0 hσ) (aft_F0i hσ) rfl ?_
    refine bv_goto (j := 19) C rfl rfl ?_
    exact bv_iret C rfl hr rfl ⟨by (exact congrArg (fun x => some (Value.int x)) (((if_neg c2).trans rfl)).symm), by (exact congrArg (fun x => x) (rfl).symm)⟩
def fc_heard0_r (S9 k : Nat) (g s : Nat → Nat → Int32) (ρ : Nat → Nat) (c9 : Nat) : Int32 := (g 1 (19 + k))
set_option maxRecDepth 100000 in
set_option maxHeartbeats 8000000 in
theorem fc_heard0 {l : Launch} {D : va_G} {cA : FieldType → ClassId} {z0 : Nat} {SK : Nat → Nat} {SV : Nat → Int32} {ad : Nat → Nat} (hE : aD (fun q => z0 ≤ q) ad 182) (g s : Nat → Nat → Int32) (σ τ : Nat → Nat → Nat) (hσ : pmF σ τ) (ρ : Nat → Nat) (c9 : Nat) (S9 k : Nat) (hS : g 1 35 = nI S9) (hS2 : S9 ≤ 16) (hk : k < S9) : bF l D cA z0 SK SV ad shF 182 yX8_heard cX8_heard 3 (some .int) 1 [.ref 0, .int (0), .int (nI k)] (layF g s σ τ ρ c9) (some (.int (fc_heard0_r S9 k g s ρ c9))) (layF g s σ τ ρ c9) := by
  refine bCT_intro (tb := tb_X8_heard) (own := RX8) hE pn_X8 rfl tk_X8_heard rfl (Nat.le_of_ble_eq_true rfl) ?_
  intro p e s0 m args below meth c C hr
  refine bv_blk C frk_X8 csk_X8 1 1 rfl (L1 := ([(0, .ref 0), (1, .int (0)), (2, .int (nI k))] : Lc)) (st1 := ([.int (0)] : List Value)) (w1 := (layF g s σ τ ρ c9)) (by rfl) ?_
  refine bv_fS1 C rfl (cs_isStation hE _ (0)) ml_X8_69 st_X8_isStation ini_X8 cd_X8_isStation ok_X8_isStation rfl ⟨Nat.le_of_ble_eq_true rfl, Nat.le_of_ble_eq_true rfl⟩ ⟨Nat.zero_le _, Nat.zero_le _⟩ (rest := ([] : List Value)) rfl (Nat.le_of_ble_eq_true rfl) ?_
  refine bv_if_eq (j := 12) C rfl rfl (fun h => absurd h ((by decide))) (fun _ => ?_)
  refine bv_blk C frk_X8 csk_X8 5 8 rfl (L1 := ([(0, .ref 0), (1, .int (0)), (2, .int (nI k))] : Lc)) (st1 := ([.int ((1) - (0)), .ref 6] : List Value)) (w1 := (layF g s σ τ ρ c9)) (by rfl) ?_
  refine bv_eV1 (io := io 0) (N' := 26) (w2 := (layF g s σ τ ρ c9)) C rfl (cs_station1 (io_aD (b := 0) (by decide) hE) g (σ 0) (τ 0) (hσ 0 (by decide))) ml_X8_74 im_X6_station sel_X6_station ini_X6 cd_X6_station ok_X6_station rfl ⟨Nat.le_of_ble_eq_true rfl, Nat.le_of_ble_eq_true rfl⟩ ⟨Nat.zero_le _, Nat.zero_le _⟩ (by decide) rfl rfl rfl (rest := ([] : List Value)) rfl (Nat.le_of_ble_eq_true rfl) (emb_F0 hσ) (aft_F0i hσ) rfl ?_
  refine bv_blk C frk_X8 csk_X8 1 10 rfl (L1 := ([(0, .ref 0), (1, .int (0)), (2, .int (nI k))] : Lc)) (st1 := ([.int (nI k), .ref 9] : List Value)) (w1 := (layF g s σ τ ρ c9)) (by rfl) ?_
  refine bv_eV1 (io := io 0) (N' := 26) (w2 := (layF g s σ τ ρ c9)) C rfl (cs_hasSector_3 (io_aD (b := 0) (by decide) hE) g (σ 0) (τ 0) (hσ 0 (by decide)) (nI k)) ml_X8_192 im_X7_hasSector sel_X7_hasSector ini_X7 cd_X7_hasSector ok_X7_hasSector rfl ⟨Nat.le_of_ble_eq_true rfl, Nat.le_of_ble_eq_true rfl⟩ ⟨Nat.zero_le _, Nat.zero_le _⟩ (by decide) rfl rfl rfl (rest := ([] : List Value)) rfl (Nat.le_of_ble_eq_true rfl) (emb_F0 hσ) (aft_F0i hσ) rfl ?_
  refine bv_if_ne (j := 14) C rfl rfl (fun _ => ?_) (fun h => absurd h ((hs_in hS hk hS2)))
  refine bv_blk C frk_X8 csk_X8 3 17 rfl (L1 := ([(0, .ref 0), (1, .int (0)), (2, .int (nI k))] : Lc)) (st1 := ([.int (0), .ref 6] : List Value)) (w1 := (layF g s σ τ ρ c9)) (by rfl) ?_
  refine bv_eV1 (io := io 0) (N' := 26) (w2 := (layF g s σ τ ρ c9)) C rfl (cs_station0 (io_aD (b := 0) (by decide) hE) g (σ 0) (τ 0) (hσ 0 (by decide))) ml_X8_74 im_X6_station sel_X6_station ini_X6 cd_X6_station ok_X6_station rfl ⟨Nat.le_of_ble_eq_true rfl, Nat.le_of_ble_eq_true rfl⟩ ⟨Nat.zero_le _, Nat.zero_le _⟩ (by decide) rfl rfl rfl (rest := ([] : List Value)) rfl (Nat.le_of_ble_eq_true rfl) (emb_F0 hσ) (aft_F0i hσ) rfl ?_
  refine bv_blk C frk_X8 csk_X8 1 19 rfl (L1 := ([(0, .ref 0), (1, .int (0)), (2, .int (nI k))] : Lc)) (st1 := ([.int (nI k), .ref 7] : List Value)) (w1 := (layF g s σ τ ρ c9)) (by rfl) ?_
  refine bv_eV1 (io := io 0) (N' := 26) (w2 := (layF g s σ τ ρ c9)) C rfl (cs_entry_1 (io_aD (b := 0) (by decide) hE) g (σ 0) (τ 0) (hσ 0 (by decide)) k (by omega)) ml_X8_195 im_X7_entry sel_X7_entry ini_X7 cd_X7_entry ok_X7_entry rfl ⟨Nat.le_of_ble_eq_true rfl, Nat.le_of_ble_eq_true rfl⟩ ⟨Nat.zero_le _, Nat.zero_le _⟩ (by decide) rfl rfl rfl (rest := ([] : List Value)) rfl (Nat.le_of_ble_eq_true rfl) (emb_F0 hσ) (aft_F0i hσ) rfl ?_
  exact bv_iret C rfl hr rfl ⟨by (rfl), by (rfl)⟩
def fc_setStation0_r (x y z : Int32) (g s : Nat → Nat → Int32) (ρ : Nat → Nat) (c9 : Nat) : Int32 := (if (wnI x (2) (16)) = 0 then (-100002) else (if (wnI y (0) (63)) = 0 then (-100002) else (if (wnI z (0) (100)) = 0 then (-100002) else (g 1 15))))
def fc_setStation0_w (x y z : Int32) (g s : Nat → Nat → Int32) (σ τ : Nat → Nat → Nat) (ρ : Nat → Nat) (c9 : Nat) : Wd := (if (wnI x (2) (16)) = 0 then (layF g s σ τ ρ c9) else (if (wnI y (0) (63)) = 0 then (layF g s σ τ ρ c9) else (if (wnI z (0) (100)) = 0 then (layF g s σ τ ρ c9) else (layF (setG0 x y z g) (svs g s ρ c9) σ τ (svr ρ c9) (svc c9)))))
set_option maxRecDepth 100000 in
set_option maxHeartbeats 8000000 in
theorem fc_setStation0 {l : Launch} {D : va_G} {cA : FieldType → ClassId} {z0 : Nat} {SK : Nat → Nat} {SV : Nat → Int32} {ad : Nat → Nat} (hE : aD (fun q => z0 ≤ q) ad 182) (g s : Nat → Nat → Int32) (σ τ : Nat → Nat → Nat) (hσ : pmF σ τ) (ρ : Nat → Nat) (c9 : Nat) (x y z : Int32) (hb : bo3 (g 1)) (hρ : ∀ k, k < 6 → ρ k < 6) (hc : c9 ≤ 6) : bF l D cA z0 SK SV ad shF 182 yX8_setStation cX8_setStation 6 (some .int) 3 [.ref 0, .int (0), .int x, .int y, .int z] (layF g s σ τ ρ c9) (some (.int (fc_setStation0_r x y z g s ρ c9))) (fc_setStation0_w x y z g s σ τ ρ c9) := by
  refine bCT_intro (tb := tb_X8_setStation) (own := RX8) hE pn_X8 rfl tk_X8_setStation rfl (Nat.le_of_ble_eq_true rfl) ?_
  intro p e s0 m args below meth c C hr
  refine bv_blk C frk_X8 csk_X8 1 1 rfl (L1 := ([(0, .ref 0), (1, .int (0)), (2, .int x), (3, .int y), (4, .int z)] : Lc)) (st1 := ([.int (0)] : List Value)) (w1 := (layF g s σ τ ρ c9)) (by rfl) ?_
  refine bv_fS1 C rfl (cs_isStation hE _ (0)) ml_X8_69 st_X8_isStation ini_X8 cd_X8_isStation ok_X8_isStation rfl ⟨Nat.le_of_ble_eq_true rfl, Nat.le_of_ble_eq_true rfl⟩ ⟨Nat.zero_le _, Nat.zero_le _⟩ (rest := ([] : List Value)) rfl (Nat.le_of_ble_eq_true rfl) ?_
  refine bv_if_ne (j := 5) C rfl rfl (fun _ => ?_) (fun h => absurd h ((by decide)))
  refine bv_blk C frk_X8 csk_X8 3 8 rfl (L1 := ([(0, .ref 0), (1, .int (0)), (2, .int x), (3, .int y), (4, .int z)] : Lc)) (st1 := ([.int (16), .int (2), .int x] : List Value)) (w1 := (layF g s σ τ ρ c9)) (by rfl) ?_
  refine bv_fS1 C rfl (cs_within hE _ x (2) (16)) ml_X8_41 st_X8_within ini_X8 cd_X8_within ok_X8_within rfl ⟨Nat.le_of_ble_eq_true rfl, Nat.le_of_ble_eq_true rfl⟩ ⟨Nat.zero_le _, Nat.zero_le _⟩ (rest := ([] : List Value)) rfl (Nat.le_of_ble_eq_true rfl) ?_
  refine bv_if_eq (j := 20) C rfl rfl (fun c2 => ?_) (fun c2 => ?_)
  · refine bv_blk C frk_X8 csk_X8 1 21 rfl (L1 := ([(0, .ref 0), (1, .int (0)), (2, .int x), (3, .int y), (4, .int z)] : Lc)) (st1 := ([.int (-100002)] : List Value)) (w1 := (layF g s σ τ ρ c9)) (by rfl) ?_
    exact bv_iret C rfl hr rfl ⟨by (exact congrArg (fun x => some (Value.int x)) (((if_pos c2).trans rfl)).symm), by (exact congrArg (fun x => x) (((if_pos c2).trans rfl)).symm)⟩
  · refine bv_blk C frk_X8 csk_X8 3 13 rfl (L1 := ([(0, .ref 0), (1, .int (0)), (2, .int x), (3, .int y), (4, .int z)] : Lc)) (st1 := ([.int (63), .int (0), .int y] : List Value)) (w1 := (layF g s σ τ ρ c9)) (by rfl) ?_
    refine bv_fS1 C rfl (cs_within hE _ y (0) (63)) ml_X8_41 st_X8_within ini_X8 cd_X8_within ok_X8_within rfl ⟨Nat.le_of_ble_eq_true rfl, Nat.le_of_ble_eq_true rfl⟩ ⟨Nat.zero_le _, Nat.zero_le _⟩ (rest := ([] : List Value)) rfl (Nat.le_of_ble_eq_true rfl) ?_
    refine bv_if_eq (j := 20) C rfl rfl (fun c3 => ?_) (fun c3 => ?_)
    · refine bv_blk C frk_X8 csk_X8 1 21 rfl (L1 := ([(0, .ref 0), (1, .int (0)), (2, .int x), (3, .int y), (4, .int z)] : Lc)) (st1 := ([.int (-100002)] : List Value)) (w1 := (layF g s σ τ ρ c9)) (by rfl) ?_
      exact bv_iret C rfl hr rfl ⟨by (exact congrArg (fun x => some (Value.int x)) (((if_neg c2).trans ((if_pos c3).trans rfl))).symm), by (exact congrArg (fun x => x) (((if_neg c2).trans ((if_pos c3).trans rfl))).symm)⟩
    · refine bv_blk C frk_X8 csk_X8 3 18 rfl (L1 := ([(0, .ref 0), (1, .int (0)), (2, .int x), (3, .int y), (4, .int z)] : Lc)) (st1 := ([.int (100), .int (0), .int z] : List Value)) (w1 := (layF g s σ τ ρ c9)) (by rfl) ?_
      refine bv_fS1 C rfl (cs_within hE _ z (0) (100)) ml_X8_41 st_X8_within ini_X8 cd_X8_within ok_X8_within rfl ⟨Nat.le_of_ble_eq_true rfl, Nat.le_of_ble_eq_true rfl⟩ ⟨Nat.zero_le _, Nat.zero_le _⟩ (rest := ([] : List Value)) rfl (Nat.le_of_ble_eq_true rfl) ?_
      refine bv_if_ne (j := 22) C rfl rfl (fun c4 => ?_) (fun c4 => ?_)
      · refine bv_blk C frk_X8 csk_X8 1 23 rfl (L1 := ([(0, .ref 0), (1, .int (0)), (2, .int x), (3, .int y), (4, .int z)] : Lc)) (st1 := ([.ref 0] : List Value)) (w1 := (layF g s σ τ ρ c9)) (by rfl) ?_
        refine bv_fV0 C rfl (fc_save hE g s σ τ hσ ρ c9 hb hρ hc) ml_X8_59 im_X8_save sel_X8_save ini_X8 cd_X8_save ok_X8_save rfl ⟨Nat.le_of_ble_eq_true rfl, Nat.le_of_ble_eq_true rfl⟩ ⟨Nat.zero_le _, Nat.zero_le _⟩ (by decide) rfl rfl rfl (rest := ([] : List Value)) rfl (Nat.le_of_ble_eq_true rfl) ?_
        refine bv_blk C frk_X8 csk_X8 3 27 rfl (L1 := ([(0, .ref 0), (1, .int (0)), (2, .int x), (3, .int y), (4, .int z)] : Lc)) (st1 := ([.int (0), .ref 6] : List Value)) (w1 := (layF g (svs g s ρ c9) σ τ (svr ρ c9) (svc c9))) (by rfl) ?_
        refine bv_eV1 (io := io 0) (N' := 26) (w2 := (layF g (svs g s ρ c9) σ τ (svr ρ c9) (svc c9))) C rfl (cs_station0 (io_aD (b := 0) (by decide) hE) g (σ 0) (τ 0) (hσ 0 (by decide))) ml_X8_74 im_X6_station sel_X6_station ini_X6 cd_X6_station ok_X6_station rfl ⟨Nat.le_of_ble_eq_true rfl, Nat.le_of_ble_eq_true rfl⟩ ⟨Nat.zero_le _, Nat.zero_le _⟩ (by decide) rfl rfl rfl (rest := ([] : List Value)) rfl (Nat.le_of_ble_eq_true rfl) (emb_F0 hσ) (aft_F0i hσ) rfl ?_
        refine bv_blk C frk_X8 csk_X8 8 36 rfl (L1 := ([(5, .int (g 1 15)), (0, .ref 0), (1, .int (0)), (2, .int x), (3, .int y), (4, .int z)] : Lc)) (st1 := ([.int z, .int y, .int x, .int (0), .ref 6] : List Value)) (w1 := (layF g (svs g s ρ c9) σ τ (svr ρ c9) (svc c9))) (by rfl) ?_
        refine bv_eV0 (io := io 0) (N' := 26) (w2 := (layF (setG0 x y z g) (svs g s ρ c9) σ τ (svr ρ c9) (svc c9))) C rfl (cs_setUpStation0 (io_aD (b := 0) (by decide) hE) g (σ 0) (τ 0) (hσ 0 (by decide)) x y z) ml_X8_83 im_X6_setUpStation sel_X6_setUpStation ini_X6 cd_X6_setUpStation ok_X6_setUpStation rfl ⟨Nat.le_of_ble_eq_true rfl, Nat.le_of_ble_eq_true rfl⟩ ⟨Nat.zero_le _, Nat.zero_le _⟩ (by decide) rfl rfl rfl (rest := ([] : List Value)) rfl (Nat.le_of_ble_eq_true rfl) (emb_F0 hσ) (aft_F0i hσ) ?_
        refine bv_blk C frk_X8 csk_X8 1 38 rfl (L1 := ([(5, .int (g 1 15)), (0, .ref 0), (1, .int (0)), (2, .int x), (3, .int y), (4, .int z)] : Lc)) (st1 := ([.int (g 1 15)] : List Value)) (w1 := (layF (setG0 x y z g) (svs g s ρ c9) σ τ (svr ρ c9) (svc c9))) (by rfl) ?_
        exact bv_iret C rfl hr rfl ⟨by (exact congrArg (fun x => some (Value.int x)) (((if_neg c2).trans ((if_neg c3).trans ((if_neg c4).trans rfl)))).symm), by (exact congrArg (fun x => x) (((if_neg c2).trans ((if_neg c3).trans ((if_neg c4).trans rfl)))).symm)⟩
      · refine bv_blk C frk_X8 csk_X8 1 21 rfl (L1 := ([(0, .ref 0), (1, .int (0)), (2, .int x), (3, .int y), (4, .int z)] : Lc)) (st1 := ([.int (-100002)] : List Value)) (w1 := (layF g s σ τ ρ c9)) (by rfl) ?_
        exact bv_iret C rfl hr rfl ⟨by (exact congrArg (fun x => some (Value.int x)) (((if_neg c2).trans ((if_neg c3).trans ((if_pos c4).trans rfl)))).symm), by (exact congrArg (fun x => x) (((if_neg c2).trans ((if_neg c3).trans ((if_pos c4).trans rfl)))).symm)⟩
def fc_rotate0_r (x : Int32) (g s : Nat → Nat → Int32) (ρ : Nat → Nat) (c9 : Nat) : Int32 := (if (wnI x (-63) (63)) = 0 then (-100002) else (trnI (g 1 16) x))
def fc_rotate0_w (x : Int32) (g s : Nat → Nat → Int32) (σ τ : Nat → Nat → Nat) (ρ : Nat → Nat) (c9 : Nat) : Wd := (if (wnI x (-63) (63)) = 0 then (layF g s σ τ ρ c9) else (layF (ug g 1 16 (trnI (g 1 16) x)) (svs g s ρ c9) σ τ (svr ρ c9) (svc c9)))
set_option maxRecDepth 100000 in
set_option maxHeartbeats 8000000 in
theorem fc_rotate0 {l : Launch} {D : va_G} {cA : FieldType → ClassId} {z0 : Nat} {SK : Nat → Nat} {SV : Nat → Int32} {ad : Nat → Nat} (hE : aD (fun q => z0 ≤ q) ad 182) (g s : Nat → Nat → Int32) (σ τ : Nat → Nat → Nat) (hσ : pmF σ τ) (ρ : Nat → Nat) (c9 : Nat) (x : Int32) (hb : bo3 (g 1)) (hρ : ∀ k, k < 6 → ρ k < 6) (hc : c9 ≤ 6) : bF l D cA z0 SK SV ad shF 182 yX8_rotate cX8_rotate 4 (some .int) 3 [.ref 0, .int (0), .int x] (layF g s σ τ ρ c9) (some (.int (fc_rotate0_r x g s ρ c9))) (fc_rotate0_w x g s σ τ ρ c9) := by
  refine bCT_intro (tb := tb_X8_rotate) (own := RX8) hE pn_X8 rfl tk_X8_rotate rfl (Nat.le_of_ble_eq_true rfl) ?_
  intro p e s0 m args below meth c C hr
  refine bv_blk C frk_X8 csk_X8 1 1 rfl (L1 := ([(0, .ref 0), (1, .int (0)), (2, .int x)] : Lc)) (st1 := ([.int (0)] : List Value)) (w1 := (layF g s σ τ ρ c9)) (by rfl) ?_
  refine bv_fS1 C rfl (cs_isStation hE _ (0)) ml_X8_69 st_X8_isStation ini_X8 cd_X8_isStation ok_X8_isStation rfl ⟨Nat.le_of_ble_eq_true rfl, Nat.le_of_ble_eq_true rfl⟩ ⟨Nat.zero_le _, Nat.zero_le _⟩ (rest := ([] : List Value)) rfl (Nat.le_of_ble_eq_true rfl) ?_
  refine bv_if_ne (j := 5) C rfl rfl (fun _ => ?_) (fun h => absurd h ((by decide)))
  refine bv_blk C frk_X8 csk_X8 3 8 rfl (L1 := ([(0, .ref 0), (1, .int (0)), (2, .int x)] : Lc)) (st1 := ([.int (63), .int (-63), .int x] : List Value)) (w1 := (layF g s σ τ ρ c9)) (by rfl) ?_
  refine bv_fS1 C rfl (cs_within hE _ x (-63) (63)) ml_X8_41 st_X8_within ini_X8 cd_X8_within ok_X8_within rfl ⟨Nat.le_of_ble_eq_true rfl, Nat.le_of_ble_eq_true rfl⟩ ⟨Nat.zero_le _, Nat.zero_le _⟩ (rest := ([] : List Value)) rfl (Nat.le_of_ble_eq_true rfl) ?_
  refine bv_if_ne (j := 12) C rfl rfl (fun c2 => ?_) (fun c2 => ?_)
  · refine bv_blk C frk_X8 csk_X8 1 13 rfl (L1 := ([(0, .ref 0), (1, .int (0)), (2, .int x)] : Lc)) (st1 := ([.ref 0] : List Value)) (w1 := (layF g s σ τ ρ c9)) (by rfl) ?_
    refine bv_fV0 C rfl (fc_save hE g s σ τ hσ ρ c9 hb hρ hc) ml_X8_59 im_X8_save sel_X8_save ini_X8 cd_X8_save ok_X8_save rfl ⟨Nat.le_of_ble_eq_true rfl, Nat.le_of_ble_eq_true rfl⟩ ⟨Nat.zero_le _, Nat.zero_le _⟩ (by decide) rfl rfl rfl (rest := ([] : List Value)) rfl (Nat.le_of_ble_eq_true rfl) ?_
    refine bv_blk C frk_X8 csk_X8 3 17 rfl (L1 := ([(0, .ref 0), (1, .int (0)), (2, .int x)] : Lc)) (st1 := ([.int (0), .ref 6] : List Value)) (w1 := (layF g (svs g s ρ c9) σ τ (svr ρ c9) (svc c9))) (by rfl) ?_
    refine bv_eV1 (io := io 0) (N' := 26) (w2 := (layF g (svs g s ρ c9) σ τ (svr ρ c9) (svc c9))) C rfl (cs_station0 (io_aD (b := 0) (by decide) hE) g (σ 0) (τ 0) (hσ 0 (by decide))) ml_X8_74 im_X6_station sel_X6_station ini_X6 cd_X6_station ok_X6_station rfl ⟨Nat.le_of_ble_eq_true rfl, Nat.le_of_ble_eq_true rfl⟩ ⟨Nat.zero_le _, Nat.zero_le _⟩ (by decide) rfl rfl rfl (rest := ([] : List Value)) rfl (Nat.le_of_ble_eq_true rfl) (emb_F0 hσ) (aft_F0i hσ) rfl ?_
    refine bv_blk C frk_X8 csk_X8 5 23 rfl (L1 := ([(3, .ref 7), (0, .ref 0), (1, .int (0)), (2, .int x)] : Lc)) (st1 := ([.int x, .int (g 1 16), .ref 7] : List Value)) (w1 := (layF g (svs g s ρ c9) σ τ (svr ρ c9) (svc c9))) (by rfl) ?_
    refine bv_fS1 C rfl (cs_turn hE _ (g 1 16) x) ml_X8_90 st_X4_turn ini_X4 cd_X4_turn ok_X4_turn rfl ⟨Nat.le_of_ble_eq_true rfl, Nat.le_of_ble_eq_true rfl⟩ ⟨Nat.zero_le _, Nat.zero_le _⟩ (rest := ([.ref 7] : List Value)) rfl (Nat.le_of_ble_eq_true rfl) ?_
    refine bv_blk C frk_X8 csk_X8 1 25 rfl (L1 := ([(3, .ref 7), (0, .ref 0), (1, .int (0)), (2, .int x)] : Lc)) (st1 := ([] : List Value)) (w1 := up2 (layF g (svs g s ρ c9) σ τ (svr ρ c9) (svc c9)) 7 1 (.int (trnI (g 1 16) x))) (by rfl) ?_
    refine bv_w (lf_up (o := 1) (k := 1) (b := 16) hσ (by decide) (by decide) (by rfl) (by rfl)) ?_
    refine bv_blk C frk_X8 csk_X8 2 27 rfl (L1 := ([(3, .ref 7), (0, .ref 0), (1, .int (0)), (2, .int x)] : Lc)) (st1 := ([.int (trnI (g 1 16) x)] : List Value)) (w1 := (layF (ug g 1 16 (trnI (g 1 16) x)) (svs g s ρ c9) σ τ (svr ρ c9) (svc c9))) (by rfl) ?_
    exact bv_iret C rfl hr rfl ⟨by (exact congrArg (fun x => some (Value.int x)) (((if_neg c2).trans rfl)).symm), by (exact congrArg (fun x => x) (((if_neg c2).trans rfl)).symm)⟩
  · refine bv_blk C frk_X8 csk_X8 1 11 rfl (L1 := ([(0, .ref 0), (1, .int (0)), (2, .int x)] : Lc)) (st1 := ([.int (-100002)] : List Value)) (w1 := (layF g s σ τ ρ c9)) (by rfl) ?_
    exact bv_iret C rfl hr rfl ⟨by (exact congrArg (fun x => some (Value.int x)) (((if_pos c2).trans rfl)).symm), by (exact congrArg (fun x => x) (((if_pos c2).trans rfl)).symm)⟩
def fc_sweep0_r (n : Nat) (S : Nat → Nat) (g s : Nat → Nat → Int32) (ρ : Nat → Nat) (c9 : Nat) : Int32 := (phR 0 n S g)
def fc_sweep0_w (n : Nat) (S : Nat → Nat) (g s : Nat → Nat → Int32) (σ τ : Nat → Nat → Nat) (ρ : Nat → Nat) (c9 : Nat) : Wd := (layF (dswG 0 n S g) (svs g s ρ c9) σ τ (svr ρ c9) (svc c9))
set_option maxRecDepth 100000 in
set_option maxHeartbeats 8000000 in
theorem fc_sweep0 {l : Launch} {D : va_G} {cA : FieldType → ClassId} {z0 : Nat} {SK : Nat → Nat} {SV : Nat → Int32} {ad : Nat → Nat} (hE : aD (fun q => z0 ≤ q) ad 182) (g s : Nat → Nat → Int32) (σ τ : Nat → Nat → Nat) (hσ : pmF σ τ) (ρ : Nat → Nat) (c9 : Nat) (n : Nat) (S : Nat → Nat) (hb : bo3 (g 1)) (hρ : ∀ k, k < 6 → ρ k < 6) (hc : c9 ≤ 6) (hi_g : invK g n S) : bF l D cA z0 SK SV ad shF 182 yX8_sweep cX8_sweep 2 (some .int) 6 [.ref 0, .int (0)] (layF g s σ τ ρ c9) (some (.int (fc_sweep0_r n S g s ρ c9))) (fc_sweep0_w n S g s σ τ ρ c9) := by
  refine bCT_intro (tb := tb_X8_sweep) (own := RX8) hE pn_X8 rfl tk_X8_sweep rfl (Nat.le_of_ble_eq_true rfl) ?_
  intro p e s0 m args below meth c C hr
  refine bv_blk C frk_X8 csk_X8 1 1 rfl (L1 := ([(0, .ref 0), (1, .int (0))] : Lc)) (st1 := ([.int (0)] : List Value)) (w1 := (layF g s σ τ ρ c9)) (by rfl) ?_
  refine bv_fS1 C rfl (cs_isStation hE _ (0)) ml_X8_69 st_X8_isStation ini_X8 cd_X8_isStation ok_X8_isStation rfl ⟨Nat.le_of_ble_eq_true rfl, Nat.le_of_ble_eq_true rfl⟩ ⟨Nat.zero_le _, Nat.zero_le _⟩ (rest := ([] : List Value)) rfl (Nat.le_of_ble_eq_true rfl) ?_
  refine bv_if_ne (j := 5) C rfl rfl (fun _ => ?_) (fun h => absurd h ((by decide)))
  refine bv_blk C frk_X8 csk_X8 1 6 rfl (L1 := ([(0, .ref 0), (1, .int (0))] : Lc)) (st1 := ([.ref 0] : List Value)) (w1 := (layF g s σ τ ρ c9)) (by rfl) ?_
  refine bv_fV0 C rfl (fc_save hE g s σ τ hσ ρ c9 hb hρ hc) ml_X8_59 im_X8_save sel_X8_save ini_X8 cd_X8_save ok_X8_save rfl ⟨Nat.le_of_ble_eq_true rfl, Nat.le_of_ble_eq_true rfl⟩ ⟨Nat.zero_le _, Nat.zero_le _⟩ (by decide) rfl rfl rfl (rest := ([] : List Value)) rfl (Nat.le_of_ble_eq_true rfl) ?_
  refine bv_blk C frk_X8 csk_X8 3 10 rfl (L1 := ([(0, .ref 0), (1, .int (0))] : Lc)) (st1 := ([.int (0), .ref 6] : List Value)) (w1 := (layF g (svs g s ρ c9) σ τ (svr ρ c9) (svc c9))) (by rfl) ?_
  refine bv_eV1 (io := io 0) (N' := 26) (w2 := (layF (dswG 0 n S g) (svs g s ρ c9) σ τ (svr ρ c9) (svc c9))) C rfl (cs_sweepA0 (io_aD (b := 0) (by decide) hE) g (σ 0) (τ 0) (hσ 0 (by decide)) n S hi_g) ml_X8_149 im_X6_runSweep sel_X6_runSweep ini_X6 cd_X6_runSweep ok_X6_runSweep rfl ⟨Nat.le_of_ble_eq_true rfl, Nat.le_of_ble_eq_true rfl⟩ ⟨Nat.zero_le _, Nat.zero_le _⟩ (by decide) rfl rfl rfl (rest := ([] : List Value)) rfl (Nat.le_of_ble_eq_true rfl) (emb_F0 hσ) (aft_F0i hσ) rfl ?_
  exact bv_iret C rfl hr rfl ⟨by (rfl), by (rfl)⟩
def fc_refine0_r (n : Nat) (g s : Nat → Nat → Int32) (ρ : Nat → Nat) (c9 : Nat) : Int32 := (if (g 1 0) = 0 then (-100003) else ((rfE 0 n (rfT 0 n g)) 1 18))
def fc_refine0_w (n : Nat) (g s : Nat → Nat → Int32) (σ τ : Nat → Nat → Nat) (ρ : Nat → Nat) (c9 : Nat) : Wd := (if (g 1 0) = 0 then (layF g s σ τ ρ c9) else (layF (rfE 0 n (rfT 0 n g)) (svs g s ρ c9) σ τ (svr ρ c9) (svc c9)))
set_option maxRecDepth 100000 in
set_option maxHeartbeats 8000000 in
theorem fc_refine0 {l : Launch} {D : va_G} {cA : FieldType → ClassId} {z0 : Nat} {SK : Nat → Nat} {SV : Nat → Int32} {ad : Nat → Nat} (hE : aD (fun q => z0 ≤ q) ad 182) (g s : Nat → Nat → Int32) (σ τ : Nat → Nat → Nat) (hσ : pmF σ τ) (ρ : Nat → Nat) (c9 : Nat) (n : Nat) (hb : bo3 (g 1)) (hρ : ∀ k, k < 6 → ρ k < 6) (hc : c9 ≤ 6) (hs : statR g n) : bF l D cA z0 SK SV ad shF 182 yX8_refine cX8_refine 2 (some .int) 5 [.ref 0, .int (0)] (layF g s σ τ ρ c9) (some (.int (fc_refine0_r n g s ρ c9))) (fc_refine0_w n g s σ τ ρ c9) := by
  refine bCT_intro (tb := tb_X8_refine) (own := RX8) hE pn_X8 rfl tk_X8_refine rfl (Nat.le_of_ble_eq_true rfl) ?_
  intro p e s0 m args below meth c C hr
  refine bv_blk C frk_X8 csk_X8 1 1 rfl (L1 := ([(0, .ref 0), (1, .int (0))] : Lc)) (st1 := ([.int (0)] : List Value)) (w1 := (layF g s σ τ ρ c9)) (by rfl) ?_
  refine bv_fS1 C rfl (cs_isStation hE _ (0)) ml_X8_69 st_X8_isStation ini_X8 cd_X8_isStation ok_X8_isStation rfl ⟨Nat.le_of_ble_eq_true rfl, Nat.le_of_ble_eq_true rfl⟩ ⟨Nat.zero_le _, Nat.zero_le _⟩ (rest := ([] : List Value)) rfl (Nat.le_of_ble_eq_true rfl) ?_
  refine bv_if_ne (j := 5) C rfl rfl (fun _ => ?_) (fun h => absurd h ((by decide)))
  refine bv_blk C frk_X8 csk_X8 3 8 rfl (L1 := ([(0, .ref 0), (1, .int (0))] : Lc)) (st1 := ([.int (g 1 0)] : List Value)) (w1 := (layF g s σ τ ρ c9)) (by rfl) ?_
  refine bv_if_ne (j := 11) C rfl rfl (fun c2 => ?_) (fun c2 => ?_)
  · refine bv_blk C frk_X8 csk_X8 1 12 rfl (L1 := ([(0, .ref 0), (1, .int (0))] : Lc)) (st1 := ([.ref 0] : List Value)) (w1 := (layF g s σ τ ρ c9)) (by rfl) ?_
    refine bv_fV0 C rfl (fc_save hE g s σ τ hσ ρ c9 hb hρ hc) ml_X8_59 im_X8_save sel_X8_save ini_X8 cd_X8_save ok_X8_save rfl ⟨Nat.le_of_ble_eq_true rfl, Nat.le_of_ble_eq_true rfl⟩ ⟨Nat.zero_le _, Nat.zero_le _⟩ (by decide) rfl rfl rfl (rest := ([] : List Value)) rfl (Nat.le_of_ble_eq_true rfl) ?_
    refine bv_blk C frk_X8 csk_X8 3 16 rfl (L1 := ([(0, .ref 0), (1, .int (0))] : Lc)) (st1 := ([.int (0), .ref 6] : List Value)) (w1 := (layF g (svs g s ρ c9) σ τ (svr ρ c9) (svc c9))) (by rfl) ?_
    refine bv_eV0 (io := io 0) (N' := 26) (w2 := (layF (rfE 0 n (rfT 0 n g)) (svs g s ρ c9) σ τ (svr ρ c9) (svc c9))) C rfl (cs_refineBeam0 (io_aD (b := 0) (by decide) hE) g (σ 0) (τ 0) (hσ 0 (by decide)) n hs) ml_X8_155 im_X6_refineBeam sel_X6_refineBeam ini_X6 cd_X6_refineBeam ok_X6_refineBeam rfl ⟨Nat.le_of_ble_eq_true rfl, Nat.le_of_ble_eq_true rfl⟩ ⟨Nat.zero_le _, Nat.zero_le _⟩ (by decide) rfl rfl rfl (rest := ([] : List Value)) rfl (Nat.le_of_ble_eq_true rfl) (emb_F0 hσ) (aft_F0i hσ) ?_
    refine bv_blk C frk_X8 csk_X8 3 20 rfl (L1 := ([(0, .ref 0), (1, .int (0))] : Lc)) (st1 := ([.int (0), .ref 6] : List Value)) (w1 := (layF (rfE 0 n (rfT 0 n g)) (svs g s ρ c9) σ τ (svr ρ c9) (svc c9))) (by rfl) ?_
    refine bv_eV1 (io := io 0) (N' := 26) (w2 := (layF (rfE 0 n (rfT 0 n g)) (svs g s ρ c9) σ τ (svr ρ c9) (svc c9))) C rfl (cs_station0 (io_aD (b := 0) (by decide) hE) (rfE 0 n (rfT 0 n g)) (σ 0) (τ 0) (hσ 0 (by decide))) ml_X8_74 im_X6_station sel_X6_station ini_X6 cd_X6_station ok_X6_station rfl ⟨Nat.le_of_ble_eq_true rfl, Nat.le_of_ble_eq_true rfl⟩ ⟨Nat.zero_le _, Nat.zero_le _⟩ (by decide) rfl rfl rfl (rest := ([] : List Value)) rfl (Nat.le_of_ble_eq_true rfl) (emb_F0 hσ) (aft_F0i hσ) rfl ?_
    refine bv_blk C frk_X8 csk_X8 1 22 rfl (L1 := ([(0, .ref 0), (1, .int (0))] : Lc)) (st1 := ([.int ((rfE 0 n (rfT 0 n g)) 1 18)] : List Value)) (w1 := (layF (rfE 0 n (rfT 0 n g)) (svs g s ρ c9) σ τ (svr ρ c9) (svc c9))) (by rfl) ?_
    exact bv_iret C rfl hr rfl ⟨by (exact congrArg (fun x => some (Value.int x)) (((if_neg c2).trans rfl)).symm), by (exact congrArg (fun x => x) (((if_neg c2).trans rfl)).symm)⟩
  · refine bv_blk C frk_X8 csk_X8 1 10 rfl (L1 := ([(0, .ref 0), (1, .int (0))] : Lc)) (st1 := ([.int (-100003)] : List Value)) (w1 := (layF g s σ τ ρ c9)) (by rfl) ?_
    exact bv_iret C rfl hr rfl ⟨by (exact congrArg (fun x => some (Value.int x)) (((if_pos c2).trans rfl)).symm), by (exact congrArg (fun x => x) (((if_pos c2).trans rfl)).symm)⟩
def fc_select0_r (x : Int32) (g s : Nat → Nat → Int32) (ρ : Nat → Nat) (c9 : Nat) : Int32 := (if (hbC (g 1 15) x) = 0 then (-100002) else (g 1 18))
def fc_select0_w (x : Int32) (g s : Nat → Nat → Int32) (σ τ : Nat → Nat → Nat) (ρ : Nat → Nat) (c9 : Nat) : Wd := (if (hbC (g 1 15) x) = 0 then (layF g s σ τ ρ c9) else (layF (ug g 1 18 x) (svs g s ρ c9) σ τ (svr ρ c9) (svc c9)))
set_option maxRecDepth 100000 in
set_option maxHeartbeats 8000000 in
theorem fc_select0 {l : Launch} {D : va_G} {cA : FieldType → ClassId} {z0 : Nat} {SK : Nat → Nat} {SV : Nat → Int32} {ad : Nat → Nat} (hE : aD (fun q => z0 ≤ q) ad 182) (g s : Nat → Nat → Int32) (σ τ : Nat → Nat → Nat) (hσ : pmF σ τ) (ρ : Nat → Nat) (c9 : Nat) (x : Int32) (hb : bo3 (g 1)) (hρ : ∀ k, k < 6 → ρ k < 6) (hc : c9 ≤ 6) : bF l D cA z0 SK SV ad shF 182 yX8_select cX8_select 4 (some .int) 3 [.ref 0, .int (0), .int x] (layF g s σ τ ρ c9) (some (.int (fc_select0_r x g s ρ c9))) (fc_select0_w x g s σ τ ρ c9) := by
  refine bCT_intro (tb := tb_X8_select) (own := RX8) hE pn_X8 rfl tk_X8_select rfl (Nat.le_of_ble_eq_true rfl) ?_
  intro p e s0 m args below meth c C hr
  refine bv_blk C frk_X8 csk_X8 1 1 rfl (L1 := ([(0, .ref 0), (1, .int (0)), (2, .int x)] : Lc)) (st1 := ([.int (0)] : List Value)) (w1 := (layF g s σ τ ρ c9)) (by rfl) ?_
  refine bv_fS1 C rfl (cs_isStation hE _ (0)) ml_X8_69 st_X8_isStation ini_X8 cd_X8_isStation ok_X8_isStation rfl ⟨Nat.le_of_ble_eq_true rfl, Nat.le_of_ble_eq_true rfl⟩ ⟨Nat.zero_le _, Nat.zero_le _⟩ (rest := ([] : List Value)) rfl (Nat.le_of_ble_eq_true rfl) ?_
  refine bv_if_ne (j := 5) C rfl rfl (fun _ => ?_) (fun h => absurd h ((by decide)))
  refine bv_blk C frk_X8 csk_X8 3 8 rfl (L1 := ([(0, .ref 0), (1, .int (0)), (2, .int x)] : Lc)) (st1 := ([.int (0), .ref 6] : List Value)) (w1 := (layF g s σ τ ρ c9)) (by rfl) ?_
  refine bv_eV1 (io := io 0) (N' := 26) (w2 := (layF g s σ τ ρ c9)) C rfl (cs_station0 (io_aD (b := 0) (by decide) hE) g (σ 0) (τ 0) (hσ 0 (by decide))) ml_X8_74 im_X6_station sel_X6_station ini_X6 cd_X6_station ok_X6_station rfl ⟨Nat.le_of_ble_eq_true rfl, Nat.le_of_ble_eq_true rfl⟩ ⟨Nat.zero_le _, Nat.zero_le _⟩ (by decide) rfl rfl rfl (rest := ([] : List Value)) rfl (Nat.le_of_ble_eq_true rfl) (emb_F0 hσ) (aft_F0i hσ) rfl ?_
  refine bv_blk C frk_X8 csk_X8 1 10 rfl (L1 := ([(0, .ref 0), (1, .int (0)), (2, .int x)] : Lc)) (st1 := ([.int x, .ref 7] : List Value)) (w1 := (layF g s σ τ ρ c9)) (by rfl) ?_
  refine bv_eV1 (io := io 0) (N' := 26) (w2 := (layF g s σ τ ρ c9)) C rfl (cs_hasBeam_1 (io_aD (b := 0) (by decide) hE) g (σ 0) (τ 0) (hσ 0 (by decide)) x) ml_X8_174 im_X7_hasBeam sel_X7_hasBeam ini_X7 cd_X7_hasBeam ok_X7_hasBeam rfl ⟨Nat.le_of_ble_eq_true rfl, Nat.le_of_ble_eq_true rfl⟩ ⟨Nat.zero_le _, Nat.zero_le _⟩ (by decide) rfl rfl rfl (rest := ([] : List Value)) rfl (Nat.le_of_ble_eq_true rfl) (emb_F0 hσ) (aft_F0i hσ) rfl ?_
  refine bv_if_ne (j := 14) C rfl rfl (fun c2 => ?_) (fun c2 => ?_)
  · refine bv_blk C frk_X8 csk_X8 1 15 rfl (L1 := ([(0, .ref 0), (1, .int (0)), (2, .int x)] : Lc)) (st1 := ([.ref 0] : List Value)) (w1 := (layF g s σ τ ρ c9)) (by rfl) ?_
    refine bv_fV0 C rfl (fc_save hE g s σ τ hσ ρ c9 hb hρ hc) ml_X8_59 im_X8_save sel_X8_save ini_X8 cd_X8_save ok_X8_save rfl ⟨Nat.le_of_ble_eq_true rfl, Nat.le_of_ble_eq_true rfl⟩ ⟨Nat.zero_le _, Nat.zero_le _⟩ (by decide) rfl rfl rfl (rest := ([] : List Value)) rfl (Nat.le_of_ble_eq_true rfl) ?_
    refine bv_blk C frk_X8 csk_X8 3 19 rfl (L1 := ([(0, .ref 0), (1, .int (0)), (2, .int x)] : Lc)) (st1 := ([.int (0), .ref 6] : List Value)) (w1 := (layF g (svs g s ρ c9) σ τ (svr ρ c9) (svc c9))) (by rfl) ?_
    refine bv_eV1 (io := io 0) (N' := 26) (w2 := (layF g (svs g s ρ c9) σ τ (svr ρ c9) (svc c9))) C rfl (cs_station0 (io_aD (b := 0) (by decide) hE) g (σ 0) (τ 0) (hσ 0 (by decide))) ml_X8_74 im_X6_station sel_X6_station ini_X6 cd_X6_station ok_X6_station rfl ⟨Nat.le_of_ble_eq_true rfl, Nat.le_of_ble_eq_true rfl⟩ ⟨Nat.zero_le _, Nat.zero_le _⟩ (by decide) rfl rfl rfl (rest := ([] : List Value)) rfl (Nat.le_of_ble_eq_true rfl) (emb_F0 hσ) (aft_F0i hσ) rfl ?_
    refine bv_blk C frk_X8 csk_X8 5 25 rfl (L1 := ([(3, .int (g 1 18)), (0, .ref 0), (1, .int (0)), (2, .int x)] : Lc)) (st1 := ([.int (0), .ref 6] : List Value)) (w1 := (layF g (svs g s ρ c9) σ τ (svr ρ c9) (svc c9))) (by rfl) ?_
    refine bv_eV1 (io := io 0) (N' := 26) (w2 := (layF g (svs g s ρ c9) σ τ (svr ρ c9) (svc c9))) C rfl (cs_station0 (io_aD (b := 0) (by decide) hE) g (σ 0) (τ 0) (hσ 0 (by decide))) ml_X8_74 im_X6_station sel_X6_station ini_X6 cd_X6_station ok_X6_station rfl ⟨Nat.le_of_ble_eq_true rfl, Nat.le_of_ble_eq_true rfl⟩ ⟨Nat.zero_le _, Nat.zero_le _⟩ (by decide) rfl rfl rfl (rest := ([] : List Value)) rfl (Nat.le_of_ble_eq_true rfl) (emb_F0 hσ) (aft_F0i hσ) rfl ?_
    refine bv_blk C frk_X8 csk_X8 2 28 rfl (L1 := ([(3, .int (g 1 18)), (0, .ref 0), (1, .int (0)), (2, .int x)] : Lc)) (st1 := ([] : List Value)) (w1 := up2 (layF g (svs g s ρ c9) σ τ (svr ρ c9) (svc c9)) 7 3 (.int x)) (by rfl) ?_
    refine bv_w (lf_up (o := 1) (k := 3) (b := 18) hσ (by decide) (by decide) (by rfl) (by rfl)) ?_
    refine bv_blk C frk_X8 csk_X8 1 29 rfl (L1 := ([(3, .int (g 1 18)), (0, .ref 0), (1, .int (0)), (2, .int x)] : Lc)) (st1 := ([.int (g 1 18)] : List Value)) (w1 := (layF (ug g 1 18 x) (svs g s ρ c9) σ τ (svr ρ c9) (svc c9))) (by rfl) ?_
    exact bv_iret C rfl hr rfl ⟨by (exact congrArg (fun x => some (Value.int x)) (((if_neg c2).trans rfl)).symm), by (exact congrArg (fun x => x) (((if_neg c2).trans rfl)).symm)⟩
  · refine bv_blk C frk_X8 csk_X8 1 13 rfl (L1 := ([(0, .ref 0), (1, .int (0)), (2, .int x)] : Lc)) (st1 := ([.int (-100002)] : List Value)) (w1 := (layF g s σ τ ρ c9)) (by rfl) ?_
    exact bv_iret C rfl hr rfl ⟨by (exact congrArg (fun x => some (Value.int x)) (((if_pos c2).trans rfl)).symm), by (exact congrArg (fun x => x) (((if_pos c2).trans rfl)).symm)⟩
def fc_beam1_r (g s : Nat → Nat → Int32) (ρ : Nat → Nat) (c9 : Nat) : Int32 := (g 1 38)
set_option maxRecDepth 100000 in
set_option maxHeartbeats 8000000 in
theorem fc_beam1 {l : Launch} {D : va_G} {cA : FieldType → ClassId} {z0 : Nat} {SK : Nat → Nat} {SV : Nat → Int32} {ad : Nat → Nat} (hE : aD (fun q => z0 ≤ q) ad 182) (g s : Nat → Nat → Int32) (σ τ : Nat → Nat → Nat) (hσ : pmF σ τ) (ρ : Nat → Nat) (c9 : Nat)  : bF l D cA z0 SK SV ad shF 182 yX8_beam cX8_beam 2 (some .int) 1 [.ref 0, .int (1)] (layF g s σ τ ρ c9) (some (.int (fc_beam1_r g s ρ c9))) (layF g s σ τ ρ c9) := by
  refine bCT_intro (tb := tb_X8_beam) (own := RX8) hE pn_X8 rfl tk_X8_beam rfl (Nat.le_of_ble_eq_true rfl) ?_
  intro p e s0 m args below meth c C hr
  refine bv_blk C frk_X8 csk_X8 1 1 rfl (L1 := ([(0, .ref 0), (1, .int (1))] : Lc)) (st1 := ([.int (1)] : List Value)) (w1 := (layF g s σ τ ρ c9)) (by rfl) ?_
  refine bv_fS1 C rfl (cs_isStation hE _ (1)) ml_X8_69 st_X8_isStation ini_X8 cd_X8_isStation ok_X8_isStation rfl ⟨Nat.le_of_ble_eq_true rfl, Nat.le_of_ble_eq_true rfl⟩ ⟨Nat.zero_le _, Nat.zero_le _⟩ (rest := ([] : List Value)) rfl (Nat.le_of_ble_eq_true rfl) ?_
  refine bv_if_eq (j := 9) C rfl rfl (fun h => absurd h ((by decide))) (fun _ => ?_)
  refine bv_blk C frk_X8 csk_X8 3 6 rfl (L1 := ([(0, .ref 0), (1, .int (1))] : Lc)) (st1 := ([.int (1), .ref 6] : List Value)) (w1 := (layF g s σ τ ρ c9)) (by rfl) ?_
  refine bv_eV1 (io := io 0) (N' := 26) (w2 := (layF g s σ τ ρ c9)) C rfl (cs_station1 (io_aD (b := 0) (by decide) hE) g (σ 0) (τ 0) (hσ 0 (by decide))) ml_X8_74 im_X6_station sel_X6_station ini_X6 cd_X6_station ok_X6_station rfl ⟨Nat.le_of_ble_eq_true rfl, Nat.le_of_ble_eq_true rfl⟩ ⟨Nat.zero_le _, Nat.zero_le _⟩ (by decide) rfl rfl rfl (rest := ([] : List Value)) rfl (Nat.le_of_ble_eq_true rfl) (emb_F0 hσ) (aft_F0i hσ) rfl ?_
  refine bv_blk C frk_X8 csk_X8 1 8 rfl (L1 := ([(0, .ref 0), (1, .int (1))] : Lc)) (st1 := ([.int (g 1 38)] : List Value)) (w1 := (layF g s σ τ ρ c9)) (by rfl) ?_
  refine bv_goto (j := 10) C rfl rfl ?_
  exact bv_iret C rfl hr rfl ⟨by (rfl), by (rfl)⟩
def fc_direction1_r (b : Int32) (g s : Nat → Nat → Int32) (ρ : Nat → Nat) (c9 : Nat) : Int32 := (if (hbC (g 1 35) b) = 0 then (-100002) else (ptC (g 1 35) (g 1 36) b))
set_option maxRecDepth 100000 in
set_option maxHeartbeats 8000000 in
theorem fc_direction1 {l : Launch} {D : va_G} {cA : FieldType → ClassId} {z0 : Nat} {SK : Nat → Nat} {SV : Nat → Int32} {ad : Nat → Nat} (hE : aD (fun q => z0 ≤ q) ad 182) (g s : Nat → Nat → Int32) (σ τ : Nat → Nat → Nat) (hσ : pmF σ τ) (ρ : Nat → Nat) (c9 : Nat) (b : Int32) : bF l D cA z0 SK SV ad shF 182 yX8_direction cX8_direction 4 (some .int) 2 [.ref 0, .int (1), .int b] (layF g s σ τ ρ c9) (some (.int (fc_direction1_r b g s ρ c9))) (layF g s σ τ ρ c9) := by
  refine bCT_intro (tb := tb_X8_direction) (own := RX8) hE pn_X8 rfl tk_X8_direction rfl (Nat.le_of_ble_eq_true rfl) ?_
  intro p e s0 m args below meth c C hr
  refine bv_blk C frk_X8 csk_X8 1 1 rfl (L1 := ([(0, .ref 0), (1, .int (1)), (2, .int b)] : Lc)) (st1 := ([.int (1)] : List Value)) (w1 := (layF g s σ τ ρ c9)) (by rfl) ?_
  refine bv_fS1 C rfl (cs_isStation hE _ (1)) ml_X8_69 st_X8_isStation ini_X8 cd_X8_isStation ok_X8_isStation rfl ⟨Nat.le_of_ble_eq_true rfl, Nat.le_of_ble_eq_true rfl⟩ ⟨Nat.zero_le _, Nat.zero_le _⟩ (rest := ([] : List Value)) rfl (Nat.le_of_ble_eq_true rfl) ?_
  refine bv_if_ne (j := 5) C rfl rfl (fun _ => ?_) (fun h => absurd h ((by decide)))
  refine bv_blk C frk_X8 csk_X8 3 8 rfl (L1 := ([(0, .ref 0), (1, .int (1)), (2, .int b)] : Lc)) (st1 := ([.int (1), .ref 6] : List Value)) (w1 := (layF g s σ τ ρ c9)) (by rfl) ?_
  refine bv_eV1 (io := io 0) (N' := 26) (w2 := (layF g s σ τ ρ c9)) C rfl (cs_station1 (io_aD (b := 0) (by decide) hE) g (σ 0) (τ 0) (hσ 0 (by decide))) ml_X8_74 im_X6_station sel_X6_station ini_X6 cd_X6_station ok_X6_station rfl ⟨Nat.le_of_ble_eq_true rfl, Nat.le_of_ble_eq_true rfl⟩ ⟨Nat.zero_le _, Nat.zero_le _⟩ (by decide) rfl rfl rfl (rest := ([] : List Value)) rfl (Nat.le_of_ble_eq_true rfl) (emb_F0 hσ) (aft_F0i hσ) rfl ?_
  refine bv_blk C frk_X8 csk_X8 3 12 rfl (L1 := ([(3, .ref 9), (0, .ref 0), (1, .int (1)), (2, .int b)] : Lc)) (st1 := ([.int b, .ref 9] : List Value)) (w1 := (layF g s σ τ ρ c9)) (by rfl) ?_
  refine bv_eV1 (io := io 0) (N' := 26) (w2 := (layF g s σ τ ρ c9)) C rfl (cs_hasBeam_3 (io_aD (b := 0) (by decide) hE) g (σ 0) (τ 0) (hσ 0 (by decide)) b) ml_X8_174 im_X7_hasBeam sel_X7_hasBeam ini_X7 cd_X7_hasBeam ok_X7_hasBeam rfl ⟨Nat.le_of_ble_eq_true rfl, Nat.le_of_ble_eq_true rfl⟩ ⟨Nat.zero_le _, Nat.zero_le _⟩ (by decide) rfl rfl rfl (rest := ([] : List Value)) rfl (Nat.le_of_ble_eq_true rfl) (emb_F0 hσ) (aft_F0i hσ) rfl ?_
  refine bv_if_eq (j := 18) C rfl rfl (fun c2 => ?_) (fun c2 => ?_)
  · refine bv_blk C frk_X8 csk_X8 1 19 rfl (L1 := ([(3, .ref 9), (0, .ref 0), (1, .int (1)), (2, .int b)] : Lc)) (st1 := ([.int (-100002)] : List Value)) (w1 := (layF g s σ τ ρ c9)) (by rfl) ?_
    exact bv_iret C rfl hr rfl ⟨by (exact congrArg (fun x => some (Value.int x)) (((if_pos c2).trans rfl)).symm), by (exact congrArg (fun x => x) (rfl).symm)⟩
  · refine bv_blk C frk_X8 csk_X8 2 16 rfl (L1 := ([(3, .ref 9), (0, .ref 0), (1, .int (1)), (2, .int b)] : Lc)) (st1 := ([.int b, .ref 9] : List Value)) (w1 := (layF g s σ τ ρ c9)) (by rfl) ?_
    refine bv_eV1 (io := io 0) (N' := 26) (w2 := (layF g s σ τ ρ c9)) C rfl (cs_pointing_3 (io_aD (b := 0) (by decide) hE) g (σ 0) (τ 0) (hσ 0 (by decide)) b) ml_X8_180 im_X7_pointing sel_X7_pointing ini_X7 cd_X7_pointing ok_X7_pointing rfl ⟨Nat.le_of_ble_eq_true rfl, Nat.le_of_ble_eq_true rfl⟩ ⟨Nat.zero_le _, Nat.zero_le _⟩ (by decide) rfl rfl rfl (rest := ([] : List Value)) rfl (Nat.le_of_ble_eq_true rfl) (emb_F0 hσ) (aft_F0i hσ) rfl ?_
    refine bv_goto (j := 19) C rfl rfl ?_
    exact bv_iret C rfl hr rfl ⟨by (exact congrArg (fun x => some (Value.int x)) (((if_neg c2).trans rfl)).symm), by (exact congrArg (fun x => x) (rfl).symm)⟩
def fc_heard1_r (S9 k : Nat) (g s : Nat → Nat → Int32) (ρ : Nat → Nat) (c9 : Nat) : Int32 := (g 1 (39 + k))
set_option maxRecDepth 100000 in
set_option maxHeartbeats 8000000 in
theorem fc_heard1 {l : Launch} {D : va_G} {cA : FieldType → ClassId} {z0 : Nat} {SK : Nat → Nat} {SV : Nat → Int32} {ad : Nat → Nat} (hE : aD (fun q => z0 ≤ q) ad 182) (g s : Nat → Nat → Int32) (σ τ : Nat → Nat → Nat) (hσ : pmF σ τ) (ρ : Nat → Nat) (c9 : Nat) (S9 k : Nat) (hS : g 1 15 = nI S9) (hS2 : S9 ≤ 16) (hk : k < S9) : bF l D cA z0 SK SV ad shF 182 yX8_heard cX8_heard 3 (some .int) 1 [.ref 0, .int (1), .int (nI k)] (layF g s σ τ ρ c9) (some (.int (fc_heard1_r S9 k g s ρ c9))) (layF g s σ τ ρ c9) := by
  refine bCT_intro (tb := tb_X8_heard) (own := RX8) hE pn_X8 rfl tk_X8_heard rfl (Nat.le_of_ble_eq_true rfl) ?_
  intro p e s0 m args below meth c C hr
  refine bv_blk C frk_X8 csk_X8 1 1 rfl (L1 := ([(0, .ref 0), (1, .int (1)), (2, .int (nI k))] : Lc)) (st1 := ([.int (1)] : List Value)) (w1 := (layF g s σ τ ρ c9)) (by rfl) ?_
  refine bv_fS1 C rfl (cs_isStation hE _ (1)) ml_X8_69 st_X8_isStation ini_X8 cd_X8_isStation ok_X8_isStation rfl ⟨Nat.le_of_ble_eq_true rfl, Nat.le_of_ble_eq_true rfl⟩ ⟨Nat.zero_le _, Nat.zero_le _⟩ (rest := ([] : List Value)) rfl (Nat.le_of_ble_eq_true rfl) ?_
  refine bv_if_eq (j := 12) C rfl rfl (fun h => absurd h ((by decide))) (fun _ => ?_)
  refine bv_blk C frk_X8 csk_X8 5 8 rfl (L1 := ([(0, .ref 0), (1, .int (1)), (2, .int (nI k))] : Lc)) (st1 := ([.int ((1) - (1)), .ref 6] : List Value)) (w1 := (layF g s σ τ ρ c9)) (by rfl) ?_
  refine bv_eV1 (io := io 0) (N' := 26) (w2 := (layF g s σ τ ρ c9)) C rfl (cs_station0 (io_aD (b := 0) (by decide) hE) g (σ 0) (τ 0) (hσ 0 (by decide))) ml_X8_74 im_X6_station sel_X6_station ini_X6 cd_X6_station ok_X6_station rfl ⟨Nat.le_of_ble_eq_true rfl, Nat.le_of_ble_eq_true rfl⟩ ⟨Nat.zero_le _, Nat.zero_le _⟩ (by decide) rfl rfl rfl (rest := ([] : List Value)) rfl (Nat.le_of_ble_eq_true rfl) (emb_F0 hσ) (aft_F0i hσ) rfl ?_
  refine bv_blk C frk_X8 csk_X8 1 10 rfl (L1 := ([(0, .ref 0), (1, .int (1)), (2, .int (nI k))] : Lc)) (st1 := ([.int (nI k), .ref 7] : List Value)) (w1 := (layF g s σ τ ρ c9)) (by rfl) ?_
  refine bv_eV1 (io := io 0) (N' := 26) (w2 := (layF g s σ τ ρ c9)) C rfl (cs_hasSector_1 (io_aD (b := 0) (by decide) hE) g (σ 0) (τ 0) (hσ 0 (by decide)) (nI k)) ml_X8_192 im_X7_hasSector sel_X7_hasSector ini_X7 cd_X7_hasSector ok_X7_hasSector rfl ⟨Nat.le_of_ble_eq_true rfl, Nat.le_of_ble_eq_true rfl⟩ ⟨Nat.zero_le _, Nat.zero_le _⟩ (by decide) rfl rfl rfl (rest := ([] : List Value)) rfl (Nat.le_of_ble_eq_true rfl) (emb_F0 hσ) (aft_F0i hσ) rfl ?_
  refine bv_if_ne (j := 14) C rfl rfl (fun _ => ?_) (fun h => absurd h ((hs_in hS hk hS2)))
  refine bv_blk C frk_X8 csk_X8 3 17 rfl (L1 := ([(0, .ref 0), (1, .int (1)), (2, .int (nI k))] : Lc)) (st1 := ([.int (1), .ref 6] : List Value)) (w1 := (layF g s σ τ ρ c9)) (by rfl) ?_
  refine bv_eV1 (io := io 0) (N' := 26) (w2 := (layF g s σ τ ρ c9)) C rfl (cs_station1 (io_aD (b := 0) (by decide) hE) g (σ 0) (τ 0) (hσ 0 (by decide))) ml_X8_74 im_X6_station sel_X6_station ini_X6 cd_X6_station ok_X6_station rfl ⟨Nat.le_of_ble_eq_true rfl, Nat.le_of_ble_eq_true rfl⟩ ⟨Nat.zero_le _, Nat.zero_le _⟩ (by decide) rfl rfl rfl (rest := ([] : List Value)) rfl (Nat.le_of_ble_eq_true rfl) (emb_F0 hσ) (aft_F0i hσ) rfl ?_
  refine bv_blk C frk_X8 csk_X8 1 19 rfl (L1 := ([(0, .ref 0), (1, .int (1)), (2, .int (nI k))] : Lc)) (st1 := ([.int (nI k), .ref 9] : List Value)) (w1 := (layF g s σ τ ρ c9)) (by rfl) ?_
  refine bv_eV1 (io := io 0) (N' := 26) (w2 := (layF g s σ τ ρ c9)) C rfl (cs_entry_3 (io_aD (b := 0) (by decide) hE) g (σ 0) (τ 0) (hσ 0 (by decide)) k (by omega)) ml_X8_195 im_X7_entry sel_X7_entry ini_X7 cd_X7_entry ok_X7_entry rfl ⟨Nat.le_of_ble_eq_true rfl, Nat.le_of_ble_eq_true rfl⟩ ⟨Nat.zero_le _, Nat.zero_le _⟩ (by decide) rfl rfl rfl (rest := ([] : List Value)) rfl (Nat.le_of_ble_eq_true rfl) (emb_F0 hσ) (aft_F0i hσ) rfl ?_
  exact bv_iret C rfl hr rfl ⟨by (rfl), by (rfl)⟩
def fc_setStation1_r (x y z : Int32) (g s : Nat → Nat → Int32) (ρ : Nat → Nat) (c9 : Nat) : Int32 := (if (wnI x (2) (16)) = 0 then (-100002) else (if (wnI y (0) (63)) = 0 then (-100002) else (if (wnI z (0) (100)) = 0 then (-100002) else (g 1 35))))
def fc_setStation1_w (x y z : Int32) (g s : Nat → Nat → Int32) (σ τ : Nat → Nat → Nat) (ρ : Nat → Nat) (c9 : Nat) : Wd := (if (wnI x (2) (16)) = 0 then (layF g s σ τ ρ c9) else (if (wnI y (0) (63)) = 0 then (layF g s σ τ ρ c9) else (if (wnI z (0) (100)) = 0 then (layF g s σ τ ρ c9) else (layF (setG1 x y z g) (svs g s ρ c9) σ τ (svr ρ c9) (svc c9)))))
set_option maxRecDepth 100000 in
set_option maxHeartbeats 8000000 in
theorem fc_setStation1 {l : Launch} {D : va_G} {cA : FieldType → ClassId} {z0 : Nat} {SK : Nat → Nat} {SV : Nat → Int32} {ad : Nat → Nat} (hE : aD (fun q => z0 ≤ q) ad 182) (g s : Nat → Nat → Int32) (σ τ : Nat → Nat → Nat) (hσ : pmF σ τ) (ρ : Nat → Nat) (c9 : Nat) (x y z : Int32) (hb : bo3 (g 1)) (hρ : ∀ k, k < 6 → ρ k < 6) (hc : c9 ≤ 6) : bF l D cA z0 SK SV ad shF 182 yX8_setStation cX8_setStation 6 (some .int) 3 [.ref 0, .int (1), .int x, .int y, .int z] (layF g s σ τ ρ c9) (some (.int (fc_setStation1_r x y z g s ρ c9))) (fc_setStation1_w x y z g s σ τ ρ c9) := by
  refine bCT_intro (tb := tb_X8_setStation) (own := RX8) hE pn_X8 rfl tk_X8_setStation rfl (Nat.le_of_ble_eq_true rfl) ?_
  intro p e s0 m args below meth c C hr
  refine bv_blk C frk_X8 csk_X8 1 1 rfl (L1 := ([(0, .ref 0), (1, .int (1)), (2, .int x), (3, .int y), (4, .int z)] : Lc)) (st1 := ([.int (1)] : List Value)) (w1 := (layF g s σ τ ρ c9)) (by rfl) ?_
  refine bv_fS1 C rfl (cs_isStation hE _ (1)) ml_X8_69 st_X8_isStation ini_X8 cd_X8_isStation ok_X8_isStation rfl ⟨Nat.le_of_ble_eq_true rfl, Nat.le_of_ble_eq_true rfl⟩ ⟨Nat.zero_le _, Nat.zero_le _⟩ (rest := ([] : List Value)) rfl (Nat.le_of_ble_eq_true rfl) ?_
  refine bv_if_ne (j := 5) C rfl rfl (fun _ => ?_) (fun h => absurd h ((by decide)))
  refine bv_blk C frk_X8 csk_X8 3 8 rfl (L1 := ([(0, .ref 0), (1, .int (1)), (2, .int x), (3, .int y), (4, .int z)] : Lc)) (st1 := ([.int (16), .int (2), .int x] : List Value)) (w1 := (layF g s σ τ ρ c9)) (by rfl) ?_
  refine bv_fS1 C rfl (cs_within hE _ x (2) (16)) ml_X8_41 st_X8_within ini_X8 cd_X8_within ok_X8_within rfl ⟨Nat.le_of_ble_eq_true rfl, Nat.le_of_ble_eq_true rfl⟩ ⟨Nat.zero_le _, Nat.zero_le _⟩ (rest := ([] : List Value)) rfl (Nat.le_of_ble_eq_true rfl) ?_
  refine bv_if_eq (j := 20) C rfl rfl (fun c2 => ?_) (fun c2 => ?_)
  · refine bv_blk C frk_X8 csk_X8 1 21 rfl (L1 := ([(0, .ref 0), (1, .int (1)), (2, .int x), (3, .int y), (4, .int z)] : Lc)) (st1 := ([.int (-100002)] : List Value)) (w1 := (layF g s σ τ ρ c9)) (by rfl) ?_
    exact bv_iret C rfl hr rfl ⟨by (exact congrArg (fun x => some (Value.int x)) (((if_pos c2).trans rfl)).symm), by (exact congrArg (fun x => x) (((if_pos c2).trans rfl)).symm)⟩
  · refine bv_blk C frk_X8 csk_X8 3 13 rfl (L1 := ([(0, .ref 0), (1, .int (1)), (2, .int x), (3, .int y), (4, .int z)] : Lc)) (st1 := ([.int (63), .int (0), .int y] : List Value)) (w1 := (layF g s σ τ ρ c9)) (by rfl) ?_
    refine bv_fS1 C rfl (cs_within hE _ y (0) (63)) ml_X8_41 st_X8_within ini_X8 cd_X8_within ok_X8_within rfl ⟨Nat.le_of_ble_eq_true rfl, Nat.le_of_ble_eq_true rfl⟩ ⟨Nat.zero_le _, Nat.zero_le _⟩ (rest := ([] : List Value)) rfl (Nat.le_of_ble_eq_true rfl) ?_
    refine bv_if_eq (j := 20) C rfl rfl (fun c3 => ?_) (fun c3 => ?_)
    · refine bv_blk C frk_X8 csk_X8 1 21 rfl (L1 := ([(0, .ref 0), (1, .int (1)), (2, .int x), (3, .int y), (4, .int z)] : Lc)) (st1 := ([.int (-100002)] : List Value)) (w1 := (layF g s σ τ ρ c9)) (by rfl) ?_
      exact bv_iret C rfl hr rfl ⟨by (exact congrArg (fun x => some (Value.int x)) (((if_neg c2).trans ((if_pos c3).trans rfl))).symm), by (exact congrArg (fun x => x) (((if_neg c2).trans ((if_pos c3).trans rfl))).symm)⟩
    · refine bv_blk C frk_X8 csk_X8 3 18 rfl (L1 := ([(0, .ref 0), (1, .int (1)), (2, .int x), (3, .int y), (4, .int z)] : Lc)) (st1 := ([.int (100), .int (0), .int z] : List Value)) (w1 := (layF g s σ τ ρ c9)) (by rfl) ?_
      refine bv_fS1 C rfl (cs_within hE _ z (0) (100)) ml_X8_41 st_X8_within ini_X8 cd_X8_within ok_X8_within rfl ⟨Nat.le_of_ble_eq_true rfl, Nat.le_of_ble_eq_true rfl⟩ ⟨Nat.zero_le _, Nat.zero_le _⟩ (rest := ([] : List Value)) rfl (Nat.le_of_ble_eq_true rfl) ?_
      refine bv_if_ne (j := 22) C rfl rfl (fun c4 => ?_) (fun c4 => ?_)
      · refine bv_blk C frk_X8 csk_X8 1 23 rfl (L1 := ([(0, .ref 0), (1, .int (1)), (2, .int x), (3, .int y), (4, .int z)] : Lc)) (st1 := ([.ref 0] : List Value)) (w1 := (layF g s σ τ ρ c9)) (by rfl) ?_
        refine bv_fV0 C rfl (fc_save hE g s σ τ hσ ρ c9 hb hρ hc) ml_X8_59 im_X8_save sel_X8_save ini_X8 cd_X8_save ok_X8_save rfl ⟨Nat.le_of_ble_eq_true rfl, Nat.le_of_ble_eq_true rfl⟩ ⟨Nat.zero_le _, Nat.zero_le _⟩ (by decide) rfl rfl rfl (rest := ([] : List Value)) rfl (Nat.le_of_ble_eq_true rfl) ?_
        refine bv_blk C frk_X8 csk_X8 3 27 rfl (L1 := ([(0, .ref 0), (1, .int (1)), (2, .int x), (3, .int y), (4, .int z)] : Lc)) (st1 := ([.int (1), .ref 6] : List Value)) (w1 := (layF g (svs g s ρ c9) σ τ (svr ρ c9) (svc c9))) (by rfl) ?_
        refine bv_eV1 (io := io 0) (N' := 26) (w2 := (layF g (svs g s ρ c9) σ τ (svr ρ c9) (svc c9))) C rfl (cs_station1 (io_aD (b := 0) (by decide) hE) g (σ 0) (τ 0) (hσ 0 (by decide))) ml_X8_74 im_X6_station sel_X6_station ini_X6 cd_X6_station ok_X6_station rfl ⟨Nat.le_of_ble_eq_true rfl, Nat.le_of_ble_eq_true rfl⟩ ⟨Nat.zero_le _, Nat.zero_le _⟩ (by decide) rfl rfl rfl (rest := ([] : List Value)) rfl (Nat.le_of_ble_eq_true rfl) (emb_F0 hσ) (aft_F0i hσ) rfl ?_
        refine bv_blk C frk_X8 csk_X8 8 36 rfl (L1 := ([(5, .int (g 1 35)), (0, .ref 0), (1, .int (1)), (2, .int x), (3, .int y), (4, .int z)] : Lc)) (st1 := ([.int z, .int y, .int x, .int (1), .ref 6] : List Value)) (w1 := (layF g (svs g s ρ c9) σ τ (svr ρ c9) (svc c9))) (by rfl) ?_
        refine bv_eV0 (io := io 0) (N' := 26) (w2 := (layF (setG1 x y z g) (svs g s ρ c9) σ τ (svr ρ c9) (svc c9))) C rfl (cs_setUpStation1 (io_aD (b := 0) (by decide) hE) g (σ 0) (τ 0) (hσ 0 (by decide)) x y z) ml_X8_83 im_X6_setUpStation sel_X6_setUpStation ini_X6 cd_X6_setUpStation ok_X6_setUpStation rfl ⟨Nat.le_of_ble_eq_true rfl, Nat.le_of_ble_eq_true rfl⟩ ⟨Nat.zero_le _, Nat.zero_le _⟩ (by decide) rfl rfl rfl (rest := ([] : List Value)) rfl (Nat.le_of_ble_eq_true rfl) (emb_F0 hσ) (aft_F0i hσ) ?_
        refine bv_blk C frk_X8 csk_X8 1 38 rfl (L1 := ([(5, .int (g 1 35)), (0, .ref 0), (1, .int (1)), (2, .int x), (3, .int y), (4, .int z)] : Lc)) (st1 := ([.int (g 1 35)] : List Value)) (w1 := (layF (setG1 x y z g) (svs g s ρ c9) σ τ (svr ρ c9) (svc c9))) (by rfl) ?_
        exact bv_iret C rfl hr rfl ⟨by (exact congrArg (fun x => some (Value.int x)) (((if_neg c2).trans ((if_neg c3).trans ((if_neg c4).trans rfl)))).symm), by (exact congrArg (fun x => x) (((if_neg c2).trans ((if_neg c3).trans ((if_neg c4).trans rfl)))).symm)⟩
      · refine bv_blk C frk_X8 csk_X8 1 21 rfl (L1 := ([(0, .ref 0), (1, .int (1)), (2, .int x), (3, .int y), (4, .int z)] : Lc)) (st1 := ([.int (-100002)] : List Value)) (w1 := (layF g s σ τ ρ c9)) (by rfl) ?_
        exact bv_iret C rfl hr rfl ⟨by (exact congrArg (fun x => some (Value.int x)) (((if_neg c2).trans ((if_neg c3).trans ((if_pos c4).trans rfl)))).symm), by (exact congrArg (fun x => x) (((if_neg c2).trans ((if_neg c3).trans ((if_pos c4).trans rfl)))).symm)⟩
def fc_rotate1_r (x : Int32) (g s : Nat → Nat → Int32) (ρ : Nat → Nat) (c9 : Nat) : Int32 := (if (wnI x (-63) (63)) = 0 then (-100002) else (trnI (g 1 36) x))
def fc_rotate1_w (x : Int32) (g s : Nat → Nat → Int32) (σ τ : Nat → Nat → Nat) (ρ : Nat → Nat) (c9 : Nat) : Wd := (if (wnI x (-63) (63)) = 0 then (layF g s σ τ ρ c9) else (layF (ug g 1 36 (trnI (g 1 36) x)) (svs g s ρ c9) σ τ (svr ρ c9) (svc c9)))
set_option maxRecDepth 100000 in
set_option maxHeartbeats 8000000 in
theorem fc_rotate1 {l : Launch} {D : va_G} {cA : FieldType → ClassId} {z0 : Nat} {SK : Nat → Nat} {SV : Nat → Int32} {ad : Nat → Nat} (hE : aD (fun q => z0 ≤ q) ad 182) (g s : Nat → Nat → Int32) (σ τ : Nat → Nat → Nat) (hσ : pmF σ τ) (ρ : Nat → Nat) (c9 : Nat) (x : Int32) (hb : bo3 (g 1)) (hρ : ∀ k, k < 6 → ρ k < 6) (hc : c9 ≤ 6) : bF l D cA z0 SK SV ad shF 182 yX8_rotate cX8_rotate 4 (some .int) 3 [.ref 0, .int (1), .int x] (layF g s σ τ ρ c9) (some (.int (fc_rotate1_r x g s ρ c9))) (fc_rotate1_w x g s σ τ ρ c9) := by
  refine bCT_intro (tb := tb_X8_rotate) (own := RX8) hE pn_X8 rfl tk_X8_rotate rfl (Nat.le_of_ble_eq_true rfl) ?_
  intro p e s0 m args below meth c C hr
  refine bv_blk C frk_X8 csk_X8 1 1 rfl (L1 := ([(0, .ref 0), (1, .int (1)), (2, .int x)] : Lc)) (st1 := ([.int (1)] : List Value)) (w1 := (layF g s σ τ ρ c9)) (by rfl) ?_
  refine bv_fS1 C rfl (cs_isStation hE _ (1)) ml_X8_69 st_X8_isStation ini_X8 cd_X8_isStation ok_X8_isStation rfl ⟨Nat.le_of_ble_eq_true rfl, Nat.le_of_ble_eq_true rfl⟩ ⟨Nat.zero_le _, Nat.zero_le _⟩ (rest := ([] : List Value)) rfl (Nat.le_of_ble_eq_true rfl) ?_
  refine bv_if_ne (j := 5) C rfl rfl (fun _ => ?_) (fun h => absurd h ((by decide)))
  refine bv_blk C frk_X8 csk_X8 3 8 rfl (L1 := ([(0, .ref 0), (1, .int (1)), (2, .int x)] : Lc)) (st1 := ([.int (63), .int (-63), .int x] : List Value)) (w1 := (layF g s σ τ ρ c9)) (by rfl) ?_
  refine bv_fS1 C rfl (cs_within hE _ x (-63) (63)) ml_X8_41 st_X8_within ini_X8 cd_X8_within ok_X8_within rfl ⟨Nat.le_of_ble_eq_true rfl, Nat.le_of_ble_eq_true rfl⟩ ⟨Nat.zero_le _, Nat.zero_le _⟩ (rest := ([] : List Value)) rfl (Nat.le_of_ble_eq_true rfl) ?_
  refine bv_if_ne (j := 12) C rfl rfl (fun c2 => ?_) (fun c2 => ?_)
  · refine bv_blk C frk_X8 csk_X8 1 13 rfl (L1 := ([(0, .ref 0), (1, .int (1)), (2, .int x)] : Lc)) (st1 := ([.ref 0] : List Value)) (w1 := (layF g s σ τ ρ c9)) (by rfl) ?_
    refine bv_fV0 C rfl (fc_save hE g s σ τ hσ ρ c9 hb hρ hc) ml_X8_59 im_X8_save sel_X8_save ini_X8 cd_X8_save ok_X8_save rfl ⟨Nat.le_of_ble_eq_true rfl, Nat.le_of_ble_eq_true rfl⟩ ⟨Nat.zero_le _, Nat.zero_le _⟩ (by decide) rfl rfl rfl (rest := ([] : List Value)) rfl (Nat.le_of_ble_eq_true rfl) ?_
    refine bv_blk C frk_X8 csk_X8 3 17 rfl (L1 := ([(0, .ref 0), (1, .int (1)), (2, .int x)] : Lc)) (st1 := ([.int (1), .ref 6] : List Value)) (w1 := (layF g (svs g s ρ c9) σ τ (svr ρ c9) (svc c9))) (by rfl) ?_
    refine bv_eV1 (io := io 0) (N' := 26) (w2 := (layF g (svs g s ρ c9) σ τ (svr ρ c9) (svc c9))) C rfl (cs_station1 (io_aD (b := 0) (by decide) hE) g (σ 0) (τ 0) (hσ 0 (by decide))) ml_X8_74 im_X6_station sel_X6_station ini_X6 cd_X6_station ok_X6_station rfl ⟨Nat.le_of_ble_eq_true rfl, Nat.le_of_ble_eq_true rfl⟩ ⟨Nat.zero_le _, Nat.zero_le _⟩ (by decide) rfl rfl rfl (rest := ([] : List Value)) rfl (Nat.le_of_ble_eq_true rfl) (emb_F0 hσ) (aft_F0i hσ) rfl ?_
    refine bv_blk C frk_X8 csk_X8 5 23 rfl (L1 := ([(3, .ref 9), (0, .ref 0), (1, .int (1)), (2, .int x)] : Lc)) (st1 := ([.int x, .int (g 1 36), .ref 9] : List Value)) (w1 := (layF g (svs g s ρ c9) σ τ (svr ρ c9) (svc c9))) (by rfl) ?_
    refine bv_fS1 C rfl (cs_turn hE _ (g 1 36) x) ml_X8_90 st_X4_turn ini_X4 cd_X4_turn ok_X4_turn rfl ⟨Nat.le_of_ble_eq_true rfl, Nat.le_of_ble_eq_true rfl⟩ ⟨Nat.zero_le _, Nat.zero_le _⟩ (rest := ([.ref 9] : List Value)) rfl (Nat.le_of_ble_eq_true rfl) ?_
    refine bv_blk C frk_X8 csk_X8 1 25 rfl (L1 := ([(3, .ref 9), (0, .ref 0), (1, .int (1)), (2, .int x)] : Lc)) (st1 := ([] : List Value)) (w1 := up2 (layF g (svs g s ρ c9) σ τ (svr ρ c9) (svc c9)) 9 1 (.int (trnI (g 1 36) x))) (by rfl) ?_
    refine bv_w (lf_up (o := 3) (k := 1) (b := 36) hσ (by decide) (by decide) (by rfl) (by rfl)) ?_
    refine bv_blk C frk_X8 csk_X8 2 27 rfl (L1 := ([(3, .ref 9), (0, .ref 0), (1, .int (1)), (2, .int x)] : Lc)) (st1 := ([.int (trnI (g 1 36) x)] : List Value)) (w1 := (layF (ug g 1 36 (trnI (g 1 36) x)) (svs g s ρ c9) σ τ (svr ρ c9) (svc c9))) (by rfl) ?_
    exact bv_iret C rfl hr rfl ⟨by (exact congrArg (fun x => some (Value.int x)) (((if_neg c2).trans rfl)).symm), by (exact congrArg (fun x => x) (((if_neg c2).trans rfl)).symm)⟩
  · refine bv_blk C frk_X8 csk_X8 1 11 rfl (L1 := ([(0, .ref 0), (1, .int (1)), (2, .int x)] : Lc)) (st1 := ([.int (-100002)] : List Value)) (w1 := (layF g s σ τ ρ c9)) (by rfl) ?_
    exact bv_iret C rfl hr rfl ⟨by (exact congrArg (fun x => some (Value.int x)) (((if_pos c2).trans rfl)).symm), by (exact congrArg (fun x => x) (((if_pos c2).trans rfl)).symm)⟩
def fc_sweep1_r (n : Nat) (S : Nat → Nat) (g s : Nat → Nat → Int32) (ρ : Nat → Nat) (c9 : Nat) : Int32 := (phR 1 n S g)
def fc_sweep1_w (n : Nat) (S : Nat → Nat) (g s : Nat → Nat → Int32) (σ τ : Nat → Nat → Nat) (ρ : Nat → Nat) (c9 : Nat) : Wd := (layF (dswG 1 n S g) (svs g s ρ c9) σ τ (svr ρ c9) (svc c9))
set_option maxRecDepth 100000 in
set_option maxHeartbeats 8000000 in
theorem fc_sweep1 {l : Launch} {D : va_G} {cA : FieldType → ClassId} {z0 : Nat} {SK : Nat → Nat} {SV : Nat → Int32} {ad : Nat → Nat} (hE : aD (fun q => z0 ≤ q) ad 182) (g s : Nat → Nat → Int32) (σ τ : Nat → Nat → Nat) (hσ : pmF σ τ) (ρ : Nat → Nat) (c9 : Nat) (n : Nat) (S : Nat → Nat) (hb : bo3 (g 1)) (hρ : ∀ k, k < 6 → ρ k < 6) (hc : c9 ≤ 6) (hi_g : invK g n S) : bF l D cA z0 SK SV ad shF 182 yX8_sweep cX8_sweep 2 (some .int) 6 [.ref 0, .int (1)] (layF g s σ τ ρ c9) (some (.int (fc_sweep1_r n S g s ρ c9))) (fc_sweep1_w n S g s σ τ ρ c9) := by
  refine bCT_intro (tb := tb_X8_sweep) (own := RX8) hE pn_X8 rfl tk_X8_sweep rfl (Nat.le_of_ble_eq_true rfl) ?_
  intro p e s0 m args below meth c C hr
  refine bv_blk C frk_X8 csk_X8 1 1 rfl (L1 := ([(0, .ref 0), (1, .int (1))] : Lc)) (st1 := ([.int (1)] : List Value)) (w1 := (layF g s σ τ ρ c9)) (by rfl) ?_
  refine bv_fS1 C rfl (cs_isStation hE _ (1)) ml_X8_69 st_X8_isStation ini_X8 cd_X8_isStation ok_X8_isStation rfl ⟨Nat.le_of_ble_eq_true rfl, Nat.le_of_ble_eq_true rfl⟩ ⟨Nat.zero_le _, Nat.zero_le _⟩ (rest := ([] : List Value)) rfl (Nat.le_of_ble_eq_true rfl) ?_
  refine bv_if_ne (j := 5) C rfl rfl (fun _ => ?_) (fun h => absurd h ((by decide)))
  refine bv_blk C frk_X8 csk_X8 1 6 rfl (L1 := ([(0, .ref 0), (1, .int (1))] : Lc)) (st1 := ([.ref 0] : List Value)) (w1 := (layF g s σ τ ρ c9)) (by rfl) ?_
  refine bv_fV0 C rfl (fc_save hE g s σ τ hσ ρ c9 hb hρ hc) ml_X8_59 im_X8_save sel_X8_save ini_X8 cd_X8_save ok_X8_save rfl ⟨Nat.le_of_ble_eq_true rfl, Nat.le_of_ble_eq_true rfl⟩ ⟨Nat.zero_le _, Nat.zero_le _⟩ (by decide) rfl rfl rfl (rest := ([] : List Value)) rfl (Nat.le_of_ble_eq_true rfl) ?_
  refine bv_blk C frk_X8 csk_X8 3 10 rfl (L1 := ([(0, .ref 0), (1, .int (1))] : Lc)) (st1 := ([.int (1), .ref 6] : List Value)) (w1 := (layF g (svs g s ρ c9) σ τ (svr ρ c9) (svc c9))) (by rfl) ?_
  refine bv_eV1 (io := io 0) (N' := 26) (w2 := (layF (dswG 1 n S g) (svs g s ρ c9) σ τ (svr ρ c9) (svc c9))) C rfl (cs_sweepA1 (io_aD (b := 0) (by decide) hE) g (σ 0) (τ 0) (hσ 0 (by decide)) n S hi_g) ml_X8_149 im_X6_runSweep sel_X6_runSweep ini_X6 cd_X6_runSweep ok_X6_runSweep rfl ⟨Nat.le_of_ble_eq_true rfl, Nat.le_of_ble_eq_true rfl⟩ ⟨Nat.zero_le _, Nat.zero_le _⟩ (by decide) rfl rfl rfl (rest := ([] : List Value)) rfl (Nat.le_of_ble_eq_true rfl) (emb_F0 hσ) (aft_F0i hσ) rfl ?_
  exact bv_iret C rfl hr rfl ⟨by (rfl), by (rfl)⟩
def fc_refine1_r (n : Nat) (g s : Nat → Nat → Int32) (ρ : Nat → Nat) (c9 : Nat) : Int32 := (if (g 1 0) = 0 then (-100003) else ((rfE 1 n (rfT 1 n g)) 1 38))
def fc_refine1_w (n : Nat) (g s : Nat → Nat → Int32) (σ τ : Nat → Nat → Nat) (ρ : Nat → Nat) (c9 : Nat) : Wd := (if (g 1 0) = 0 then (layF g s σ τ ρ c9) else (layF (rfE 1 n (rfT 1 n g)) (svs g s ρ c9) σ τ (svr ρ c9) (svc c9)))
set_option maxRecDepth 100000 in
set_option maxHeartbeats 8000000 in
theorem fc_refine1 {l : Launch} {D : va_G} {cA : FieldType → ClassId} {z0 : Nat} {SK : Nat → Nat} {SV : Nat → Int32} {ad : Nat → Nat} (hE : aD (fun q => z0 ≤ q) ad 182) (g s : Nat → Nat → Int32) (σ τ : Nat → Nat → Nat) (hσ : pmF σ τ) (ρ : Nat → Nat) (c9 : Nat) (n : Nat) (hb : bo3 (g 1)) (hρ : ∀ k, k < 6 → ρ k < 6) (hc : c9 ≤ 6) (hs : statR g n) : bF l D cA z0 SK SV ad shF 182 yX8_refine cX8_refine 2 (some .int) 5 [.ref 0, .int (1)] (layF g s σ τ ρ c9) (some (.int (fc_refine1_r n g s ρ c9))) (fc_refine1_w n g s σ τ ρ c9) := by
  refine bCT_intro (tb := tb_X8_refine) (own := RX8) hE pn_X8 rfl tk_X8_refine rfl (Nat.le_of_ble_eq_true rfl) ?_
  intro p e s0 m args below meth c C hr
  refine bv_blk C frk_X8 csk_X8 1 1 rfl (L1 := ([(0, .ref 0), (1, .int (1))] : Lc)) (st1 := ([.int (1)] : List Value)) (w1 := (layF g s σ τ ρ c9)) (by rfl) ?_
  refine bv_fS1 C rfl (cs_isStation hE _ (1)) ml_X8_69 st_X8_isStation ini_X8 cd_X8_isStation ok_X8_isStation rfl ⟨Nat.le_of_ble_eq_true rfl, Nat.le_of_ble_eq_true rfl⟩ ⟨Nat.zero_le _, Nat.zero_le _⟩ (rest := ([] : List Value)) rfl (Nat.le_of_ble_eq_true rfl) ?_
  refine bv_if_ne (j := 5) C rfl rfl (fun _ => ?_) (fun h => absurd h ((by decide)))
  refine bv_blk C frk_X8 csk_X8 3 8 rfl (L1 := ([(0, .ref 0), (1, .int (1))] : Lc)) (st1 := ([.int (g 1 0)] : List Value)) (w1 := (layF g s σ τ ρ c9)) (by rfl) ?_
  refine bv_if_ne (j := 11) C rfl rfl (fun c2 => ?_) (fun c2 => ?_)
  · refine bv_blk C frk_X8 csk_X8 1 12 rfl (L1 := ([(0, .ref 0), (1, .int (1))] : Lc)) (st1 := ([.ref 0] : List Value)) (w1 := (layF g s σ τ ρ c9)) (by rfl) ?_
    refine bv_fV0 C rfl (fc_save hE g s σ τ hσ ρ c9 hb hρ hc) ml_X8_59 im_X8_save sel_X8_save ini_X8 cd_X8_save ok_X8_save rfl ⟨Nat.le_of_ble_eq_true rfl, Nat.le_of_ble_eq_true rfl⟩ ⟨Nat.zero_le _, Nat.zero_le _⟩ (by decide) rfl rfl rfl (rest := ([] : List Value)) rfl (Nat.le_of_ble_eq_true rfl) ?_
    refine bv_blk C frk_X8 csk_X8 3 16 rfl (L1 := ([(0, .ref 0), (1, .int (1))] : Lc)) (st1 := ([.int (1), .ref 6] : List Value)) (w1 := (layF g (svs g s ρ c9) σ τ (svr ρ c9) (svc c9))) (by rfl) ?_
    refine bv_eV0 (io := io 0) (N' := 26) (w2 := (layF (rfE 1 n (rfT 1 n g)) (svs g s ρ c9) σ τ (svr ρ c9) (svc c9))) C rfl (cs_refineBeam1 (io_aD (b := 0) (by decide) hE) g (σ 0) (τ 0) (hσ 0 (by decide)) n hs) ml_X8_155 im_X6_refineBeam sel_X6_refineBeam ini_X6 cd_X6_refineBeam ok_X6_refineBeam rfl ⟨Nat.le_of_ble_eq_true rfl, Nat.le_of_ble_eq_true rfl⟩ ⟨Nat.zero_le _, Nat.zero_le _⟩ (by decide) rfl rfl rfl (rest := ([] : List Value)) rfl (Nat.le_of_ble_eq_true rfl) (emb_F0 hσ) (aft_F0i hσ) ?_
    refine bv_blk C frk_X8 csk_X8 3 20 rfl (L1 := ([(0, .ref 0), (1, .int (1))] : Lc)) (st1 := ([.int (1), .ref 6] : List Value)) (w1 := (layF (rfE 1 n (rfT 1 n g)) (svs g s ρ c9) σ τ (svr ρ c9) (svc c9))) (by rfl) ?_
    refine bv_eV1 (io := io 0) (N' := 26) (w2 := (layF (rfE 1 n (rfT 1 n g)) (svs g s ρ c9) σ τ (svr ρ c9) (svc c9))) C rfl (cs_station1 (io_aD (b := 0) (by decide) hE) (rfE 1 n (rfT 1 n g)) (σ 0) (τ 0) (hσ 0 (by decide))) ml_X8_74 im_X6_station sel_X6_station ini_X6 cd_X6_station ok_X6_station rfl ⟨Nat.le_of_ble_eq_true rfl, Nat.le_of_ble_eq_true rfl⟩ ⟨Nat.zero_le _, Nat.zero_le _⟩ (by decide) rfl rfl rfl (rest := ([] : List Value)) rfl (Nat.le_of_ble_eq_true rfl) (emb_F0 hσ) (aft_F0i hσ) rfl ?_
    refine bv_blk C frk_X8 csk_X8 1 22 rfl (L1 := ([(0, .ref 0), (1, .int (1))] : Lc)) (st1 := ([.int ((rfE 1 n (rfT 1 n g)) 1 38)] : List Value)) (w1 := (layF (rfE 1 n (rfT 1 n g)) (svs g s ρ c9) σ τ (svr ρ c9) (svc c9))) (by rfl) ?_
    exact bv_iret C rfl hr rfl ⟨by (exact congrArg (fun x => some (Value.int x)) (((if_neg c2).trans rfl)).symm), by (exact congrArg (fun x => x) (((if_neg c2).trans rfl)).symm)⟩
  · refine bv_blk C frk_X8 csk_X8 1 10 rfl (L1 := ([(0, .ref 0), (1, .int (1))] : Lc)) (st1 := ([.int (-100003)] : List Value)) (w1 := (layF g s σ τ ρ c9)) (by rfl) ?_
    exact bv_iret C rfl hr rfl ⟨by (exact congrArg (fun x => some (Value.int x)) (((if_pos c2).trans rfl)).symm), by (exact congrArg (fun x => x) (((if_pos c2).trans rfl)).symm)⟩
def fc_select1_r (x : Int32) (g s : Nat → Nat → Int32) (ρ : Nat → Nat) (c9 : Nat) : Int32 := (if (hbC (g 1 35) x) = 0 then (-100002) else (g 1 38))
def fc_select1_w (x : Int32) (g s : Nat → Nat → Int32) (σ τ : Nat → Nat → Nat) (ρ : Nat → Nat) (c9 : Nat) : Wd := (if (hbC (g 1 35) x) = 0 then (layF g s σ τ ρ c9) else (layF (ug g 1 38 x) (svs g s ρ c9) σ τ (svr ρ c9) (svc c9)))
set_option maxRecDepth 100000 in
set_option maxHeartbeats 8000000 in
theorem fc_select1 {l : Launch} {D : va_G} {cA : FieldType → ClassId} {z0 : Nat} {SK : Nat → Nat} {SV : Nat → Int32} {ad : Nat → Nat} (hE : aD (fun q => z0 ≤ q) ad 182) (g s : Nat → Nat → Int32) (σ τ : Nat → Nat → Nat) (hσ : pmF σ τ) (ρ : Nat → Nat) (c9 : Nat) (x : Int32) (hb : bo3 (g 1)) (hρ : ∀ k, k < 6 → ρ k < 6) (hc : c9 ≤ 6) : bF l D cA z0 SK SV ad shF 182 yX8_select cX8_select 4 (some .int) 3 [.ref 0, .int (1), .int x] (layF g s σ τ ρ c9) (some (.int (fc_select1_r x g s ρ c9))) (fc_select1_w x g s σ τ ρ c9) := by
  refine bCT_intro (tb := tb_X8_select) (own := RX8) hE pn_X8 rfl tk_X8_select rfl (Nat.le_of_ble_eq_true rfl) ?_
  intro p e s0 m args below meth c C hr
  refine bv_blk C frk_X8 csk_X8 1 1 rfl (L1 := ([(0, .ref 0), (1, .int (1)), (2, .int x)] : Lc)) (st1 := ([.int (1)] : List Value)) (w1 := (layF g s σ τ ρ c9)) (by rfl) ?_
  refine bv_fS1 C rfl (cs_isStation hE _ (1)) ml_X8_69 st_X8_isStation ini_X8 cd_X8_isStation ok_X8_isStation rfl ⟨Nat.le_of_ble_eq_true rfl, Nat.le_of_ble_eq_true rfl⟩ ⟨Nat.zero_le _, Nat.zero_le _⟩ (rest := ([] : List Value)) rfl (Nat.le_of_ble_eq_true rfl) ?_
  refine bv_if_ne (j := 5) C rfl rfl (fun _ => ?_) (fun h => absurd h ((by decide)))
  refine bv_blk C frk_X8 csk_X8 3 8 rfl (L1 := ([(0, .ref 0), (1, .int (1)), (2, .int x)] : Lc)) (st1 := ([.int (1), .ref 6] : List Value)) (w1 := (layF g s σ τ ρ c9)) (by rfl) ?_
  refine bv_eV1 (io := io 0) (N' := 26) (w2 := (layF g s σ τ ρ c9)) C rfl (cs_station1 (io_aD (b := 0) (by decide) hE) g (σ 0) (τ 0) (hσ 0 (by decide))) ml_X8_74 im_X6_station sel_X6_station ini_X6 cd_X6_station ok_X6_station rfl ⟨Nat.le_of_ble_eq_true rfl, Nat.le_of_ble_eq_true rfl⟩ ⟨Nat.zero_le _, Nat.zero_le _⟩ (by decide) rfl rfl rfl (rest := ([] : List Value)) rfl (Nat.le_of_ble_eq_true rfl) (emb_F0 hσ) (aft_F0i hσ) rfl ?_
  refine bv_blk C frk_X8 csk_X8 1 10 rfl (L1 := ([(0, .ref 0), (1, .int (1)), (2, .int x)] : Lc)) (st1 := ([.int x, .ref 9] : List Value)) (w1 := (layF g s σ τ ρ c9)) (by rfl) ?_
  refine bv_eV1 (io := io 0) (N' := 26) (w2 := (layF g s σ τ ρ c9)) C rfl (cs_hasBeam_3 (io_aD (b := 0) (by decide) hE) g (σ 0) (τ 0) (hσ 0 (by decide)) x) ml_X8_174 im_X7_hasBeam sel_X7_hasBeam ini_X7 cd_X7_hasBeam ok_X7_hasBeam rfl ⟨Nat.le_of_ble_eq_true rfl, Nat.le_of_ble_eq_true rfl⟩ ⟨Nat.zero_le _, Nat.zero_le _⟩ (by decide) rfl rfl rfl (rest := ([] : List Value)) rfl (Nat.le_of_ble_eq_true rfl) (emb_F0 hσ) (aft_F0i hσ) rfl ?_
  refine bv_if_ne (j := 14) C rfl rfl (fun c2 => ?_) (fun c2 => ?_)
  · refine bv_blk C frk_X8 csk_X8 1 15 rfl (L1 := ([(0, .ref 0), (1, .int (1)), (2, .int x)] : Lc)) (st1 := ([.ref 0] : List Value)) (w1 := (layF g s σ τ ρ c9)) (by rfl) ?_
    refine bv_fV0 C rfl (fc_save hE g s σ τ hσ ρ c9 hb hρ hc) ml_X8_59 im_X8_save sel_X8_save ini_X8 cd_X8_save ok_X8_save rfl ⟨Nat.le_of_ble_eq_true rfl, Nat.le_of_ble_eq_true rfl⟩ ⟨Nat.zero_le _, Nat.zero_le _⟩ (by decide) rfl rfl rfl (rest := ([] : List Value)) rfl (Nat.le_of_ble_eq_true rfl) ?_
    refine bv_blk C frk_X8 csk_X8 3 19 rfl (L1 := ([(0, .ref 0), (1, .int (1)), (2, .int x)] : Lc)) (st1 := ([.int (1), .ref 6] : List Value)) (w1 := (layF g (svs g s ρ c9) σ τ (svr ρ c9) (svc c9))) (by rfl) ?_
    refine bv_eV1 (io := io 0) (N' := 26) (w2 := (layF g (svs g s ρ c9) σ τ (svr ρ c9) (svc c9))) C rfl (cs_station1 (io_aD (b := 0) (by decide) hE) g (σ 0) (τ 0) (hσ 0 (by decide))) ml_X8_74 im_X6_station sel_X6_station ini_X6 cd_X6_station ok_X6_station rfl ⟨Nat.le_of_ble_eq_true rfl, Nat.le_of_ble_eq_true rfl⟩ ⟨Nat.zero_le _, Nat.zero_le _⟩ (by decide) rfl rfl rfl (rest := ([] : List Value)) rfl (Nat.le_of_ble_eq_true rfl) (emb_F0 hσ) (aft_F0i hσ) rfl ?_
    refine bv_blk C frk_X8 csk_X8 5 25 rfl (L1 := ([(3, .int (g 1 38)), (0, .ref 0), (1, .int (1)), (2, .int x)] : Lc)) (st1 := ([.int (1), .ref 6] : List Value)) (w1 := (layF g (svs g s ρ c9) σ τ (svr ρ c9) (svc c9))) (by rfl) ?_
    refine bv_eV1 (io := io 0) (N' := 26) (w2 := (layF g (svs g s ρ c9) σ τ (svr ρ c9) (svc c9))) C rfl (cs_station1 (io_aD (b := 0) (by decide) hE) g (σ 0) (τ 0) (hσ 0 (by decide))) ml_X8_74 im_X6_station sel_X6_station ini_X6 cd_X6_station ok_X6_station rfl ⟨Nat.le_of_ble_eq_true rfl, Nat.le_of_ble_eq_true rfl⟩ ⟨Nat.zero_le _, Nat.zero_le _⟩ (by decide) rfl rfl rfl (rest := ([] : List Value)) rfl (Nat.le_of_ble_eq_true rfl) (emb_F0 hσ) (aft_F0i hσ) rfl ?_
    refine bv_blk C frk_X8 csk_X8 2 28 rfl (L1 := ([(3, .int (g 1 38)), (0, .ref 0), (1, .int (1)), (2, .int x)] : Lc)) (st1 := ([] : List Value)) (w1 := up2 (layF g (svs g s ρ c9) σ τ (svr ρ c9) (svc c9)) 9 3 (.int x)) (by rfl) ?_
    refine bv_w (lf_up (o := 3) (k := 3) (b := 38) hσ (by decide) (by decide) (by rfl) (by rfl)) ?_
    refine bv_blk C frk_X8 csk_X8 1 29 rfl (L1 := ([(3, .int (g 1 38)), (0, .ref 0), (1, .int (1)), (2, .int x)] : Lc)) (st1 := ([.int (g 1 38)] : List Value)) (w1 := (layF (ug g 1 38 x) (svs g s ρ c9) σ τ (svr ρ c9) (svc c9))) (by rfl) ?_
    exact bv_iret C rfl hr rfl ⟨by (exact congrArg (fun x => some (Value.int x)) (((if_neg c2).trans rfl)).symm), by (exact congrArg (fun x => x) (((if_neg c2).trans rfl)).symm)⟩
  · refine bv_blk C frk_X8 csk_X8 1 13 rfl (L1 := ([(0, .ref 0), (1, .int (1)), (2, .int x)] : Lc)) (st1 := ([.int (-100002)] : List Value)) (w1 := (layF g s σ τ ρ c9)) (by rfl) ?_
    exact bv_iret C rfl hr rfl ⟨by (exact congrArg (fun x => some (Value.int x)) (((if_pos c2).trans rfl)).symm), by (exact congrArg (fun x => x) (((if_pos c2).trans rfl)).symm)⟩
def fc_sweepx_r (a : Int32) (g s : Nat → Nat → Int32) (ρ : Nat → Nat) (c9 : Nat) : Int32 := (-100001)
set_option maxRecDepth 100000 in
set_option maxHeartbeats 8000000 in
theorem fc_sweepx {l : Launch} {D : va_G} {cA : FieldType → ClassId} {z0 : Nat} {SK : Nat → Nat} {SV : Nat → Int32} {ad : Nat → Nat} (hE : aD (fun q => z0 ≤ q) ad 182) (g s : Nat → Nat → Int32) (σ τ : Nat → Nat → Nat) (hσ : pmF σ τ) (ρ : Nat → Nat) (c9 : Nat) (a : Int32) (ha : isI a = 0) : bF l D cA z0 SK SV ad shF 182 yX8_sweep cX8_sweep 2 (some .int) 6 [.ref 0, .int a] (layF g s σ τ ρ c9) (some (.int (fc_sweepx_r a g s ρ c9))) (layF g s σ τ ρ c9) := by
  refine bCT_intro (tb := tb_X8_sweep) (own := RX8) hE pn_X8 rfl tk_X8_sweep rfl (Nat.le_of_ble_eq_true rfl) ?_
  intro p e s0 m args below meth c C hr
  refine bv_blk C frk_X8 csk_X8 1 1 rfl (L1 := ([(0, .ref 0), (1, .int a)] : Lc)) (st1 := ([.int a] : List Value)) (w1 := (layF g s σ τ ρ c9)) (by rfl) ?_
  refine bv_fS1 C rfl (cs_isStation hE _ a) ml_X8_69 st_X8_isStation ini_X8 cd_X8_isStation ok_X8_isStation rfl ⟨Nat.le_of_ble_eq_true rfl, Nat.le_of_ble_eq_true rfl⟩ ⟨Nat.zero_le _, Nat.zero_le _⟩ (rest := ([] : List Value)) rfl (Nat.le_of_ble_eq_true rfl) ?_
  refine bv_if_ne (j := 5) C rfl rfl (fun h => absurd (ha) h) (fun _ => ?_)
  refine bv_blk C frk_X8 csk_X8 1 4 rfl (L1 := ([(0, .ref 0), (1, .int a)] : Lc)) (st1 := ([.int (-100001)] : List Value)) (w1 := (layF g s σ τ ρ c9)) (by rfl) ?_
  exact bv_iret C rfl hr rfl ⟨by (rfl), by (rfl)⟩
