set_option maxRecDepth 100000 in
set_option maxHeartbeats 8000000 in
theorem sc_isLetter {l : Launch} {D : va_G} {cA : FieldType → ClassId} {z0 : Nat} {SK SV : Nat → Nat} {ad : Nat → Nat} {sh : Sh} {N : Nat} (hE : aD (fun q => z0 ≤ q) ad N) (w : Wd) (x : Int32) : bF l D cA z0 SK SV ad sh N yX5_isLetter cX5_isLetter 1 (some .boolean) 0 [.int x] w (some (.int (b2i (smB x)))) w := by
  refine bCT_intro (tb := tb_X5_isLetter) (own := RX5) hE pn_X5 rfl tk_X5_isLetter rfl (Nat.le_of_ble_eq_true rfl) ?_
  intro p e s0 m args below meth c C hr
  refine bv_blk C frk_X5 csk_X5 2 2 rfl (L1 := ([(0, .int x)] : Lc)) (st1 := ([.int (97), .int x] : List Value)) (w1 := w) (by rfl) ?_
  refine bv_icmp_lt (j := 8) C rfl rfl (fun c1 => ?_) (fun c1 => ?_)
  · refine bv_blk C frk_X5 csk_X5 1 9 rfl (L1 := ([(0, .int x)] : Lc)) (st1 := ([.int (0)] : List Value)) (w1 := w) (by rfl) ?_
    exact bv_iret C rfl hr rfl ⟨by (exact congrArg (fun b => some (Value.int (b2i b))) (show smB x = false from decide_eq_false (fun z => Int32.not_lt.mpr z.1 c1)).symm), by (rfl)⟩
  · refine bv_blk C frk_X5 csk_X5 2 5 rfl (L1 := ([(0, .int x)] : Lc)) (st1 := ([.int (122), .int x] : List Value)) (w1 := w) (by rfl) ?_
    refine bv_icmp_gt (j := 8) C rfl rfl (fun c2 => ?_) (fun c2 => ?_)
    · refine bv_blk C frk_X5 csk_X5 1 9 rfl (L1 := ([(0, .int x)] : Lc)) (st1 := ([.int (0)] : List Value)) (w1 := w) (by rfl) ?_
      exact bv_iret C rfl hr rfl ⟨by (exact congrArg (fun b => some (Value.int (b2i b))) (show smB x = false from decide_eq_false (fun z => Int32.not_lt.mpr z.2 c2)).symm), by (rfl)⟩
    · refine bv_blk C frk_X5 csk_X5 1 7 rfl (L1 := ([(0, .int x)] : Lc)) (st1 := ([.int (1)] : List Value)) (w1 := w) (by rfl) ?_
      refine bv_goto (j := 9) C rfl rfl ?_
      exact bv_iret C rfl hr rfl ⟨by (exact congrArg (fun b => some (Value.int (b2i b))) (show smB x = true from decide_eq_true ⟨Int32.not_lt.mp c1, Int32.not_lt.mp c2⟩).symm), by (rfl)⟩
set_option maxRecDepth 100000 in
set_option maxHeartbeats 8000000 in
theorem sc_isDigit {l : Launch} {D : va_G} {cA : FieldType → ClassId} {z0 : Nat} {SK SV : Nat → Nat} {ad : Nat → Nat} {sh : Sh} {N : Nat} (hE : aD (fun q => z0 ≤ q) ad N) (w : Wd) (x : Int32) : bF l D cA z0 SK SV ad sh N yX5_isDigit cX5_isDigit 1 (some .boolean) 0 [.int x] w (some (.int (b2i (dgB x)))) w := by
  refine bCT_intro (tb := tb_X5_isDigit) (own := RX5) hE pn_X5 rfl tk_X5_isDigit rfl (Nat.le_of_ble_eq_true rfl) ?_
  intro p e s0 m args below meth c C hr
  refine bv_blk C frk_X5 csk_X5 2 2 rfl (L1 := ([(0, .int x)] : Lc)) (st1 := ([.int (48), .int x] : List Value)) (w1 := w) (by rfl) ?_
  refine bv_icmp_lt (j := 8) C rfl rfl (fun c1 => ?_) (fun c1 => ?_)
  · refine bv_blk C frk_X5 csk_X5 1 9 rfl (L1 := ([(0, .int x)] : Lc)) (st1 := ([.int (0)] : List Value)) (w1 := w) (by rfl) ?_
    exact bv_iret C rfl hr rfl ⟨by (exact congrArg (fun b => some (Value.int (b2i b))) (show dgB x = false from decide_eq_false (fun z => Int32.not_lt.mpr z.1 c1)).symm), by (rfl)⟩
  · refine bv_blk C frk_X5 csk_X5 2 5 rfl (L1 := ([(0, .int x)] : Lc)) (st1 := ([.int (57), .int x] : List Value)) (w1 := w) (by rfl) ?_
    refine bv_icmp_gt (j := 8) C rfl rfl (fun c2 => ?_) (fun c2 => ?_)
    · refine bv_blk C frk_X5 csk_X5 1 9 rfl (L1 := ([(0, .int x)] : Lc)) (st1 := ([.int (0)] : List Value)) (w1 := w) (by rfl) ?_
      exact bv_iret C rfl hr rfl ⟨by (exact congrArg (fun b => some (Value.int (b2i b))) (show dgB x = false from decide_eq_false (fun z => Int32.not_lt.mpr z.2 c2)).symm), by (rfl)⟩
    · refine bv_blk C frk_X5 csk_X5 1 7 rfl (L1 := ([(0, .int x)] : Lc)) (st1 := ([.int (1)] : List Value)) (w1 := w) (by rfl) ?_
      refine bv_goto (j := 9) C rfl rfl ?_
      exact bv_iret C rfl hr rfl ⟨by (exact congrArg (fun b => some (Value.int (b2i b))) (show dgB x = true from decide_eq_true ⟨Int32.not_lt.mp c1, Int32.not_lt.mp c2⟩).symm), by (rfl)⟩
set_option maxRecDepth 100000 in
set_option maxHeartbeats 8000000 in
theorem sc_at_lt {l : Launch} {D : va_G} {cA : FieldType → ClassId} {z0 : Nat} {SK SV : Nat → Nat} {ad : Nat → Nat} (hE : aD (fun q => z0 ≤ q) ad 26) (g : Nat → Nat → Int32) (σ τ : Nat → Nat) (hσ : pmK σ τ) (Ln p9 : Nat) (hl : g 0 4 = nI Ln) (hL : Ln ≤ 120) (hp : p9 < Ln) : bF l D cA z0 SK SV ad shB 26 yX5_at cX5_at 2 (some .int) 0 [.ref 24, .int (nI p9)] (layB g σ τ) (some (.int (g 3 p9))) (layB g σ τ) := by
  refine bCT_intro (tb := tb_X5_at) (own := RX5) hE pn_X5 rfl tk_X5_at rfl (Nat.le_of_ble_eq_true rfl) ?_
  intro p e s0 m args below meth c C hr
  refine bv_blk C frk_X5 csk_X5 1 1 rfl (L1 := ([(0, .ref 24), (1, .int (nI p9))] : Lc)) (st1 := ([.int (nI p9)] : List Value)) (w1 := (layB g σ τ)) (by rfl) ?_
  refine bv_if_lt (j := 14) C rfl rfl (fun h => absurd h (nI_nlt (a := p9) (b := 0) (by omega) (by omega))) (fun _ => ?_)
  refine bv_blk C frk_X5 csk_X5 3 5 rfl (L1 := ([(0, .ref 24), (1, .int (nI p9))] : Lc)) (st1 := ([.int (g 0 4), .int (nI p9)] : List Value)) (w1 := (layB g σ τ)) (by rfl) ?_
  refine bv_icmp_ge (j := 14) C rfl rfl (fun h => absurd h (by rw [show (g 0 4) = nI Ln from hl]; exact (nI_ge (a := p9) (b := Ln) (by omega) (by omega)))) (fun _ => ?_)
  refine bv_blk C frk_X5 csk_X5 2 8 rfl (L1 := ([(0, .ref 24), (1, .int (nI p9))] : Lc)) (st1 := ([.int (120), .int (nI p9)] : List Value)) (w1 := (layB g σ τ)) (by rfl) ?_
  refine bv_icmp_ge (j := 14) C rfl rfl (fun h => absurd h (nI_ge (a := p9) (b := 120) (by omega) (by omega))) (fun _ => ?_)
  refine bv_blk C frk_X5 csk_X5 3 12 rfl (L1 := ([(0, .ref 24), (1, .int (nI p9))] : Lc)) (st1 := ([.int (nI p9), .ref 25] : List Value)) (w1 := (layB g σ τ)) (by rfl) ?_
  refine bv_cald C rfl rfl (by decide) (j := p9) (by exact rfl) (by first | decide | omega) (by decide) (y := (g 3 (p9))) (by rfl) ?_
  refine bv_goto (j := 15) C rfl rfl ?_
  exact bv_iret C rfl hr rfl ⟨by (rfl), by (rfl)⟩
set_option maxRecDepth 100000 in
set_option maxHeartbeats 8000000 in
theorem sc_at_ge {l : Launch} {D : va_G} {cA : FieldType → ClassId} {z0 : Nat} {SK SV : Nat → Nat} {ad : Nat → Nat} (hE : aD (fun q => z0 ≤ q) ad 26) (g : Nat → Nat → Int32) (σ τ : Nat → Nat) (hσ : pmK σ τ) (Ln p9 : Nat) (hl : g 0 4 = nI Ln) (hL : Ln ≤ 120) (hp : Ln ≤ p9 ∧ p9 ≤ 120) : bF l D cA z0 SK SV ad shB 26 yX5_at cX5_at 2 (some .int) 0 [.ref 24, .int (nI p9)] (layB g σ τ) (some (.int (-1))) (layB g σ τ) := by
  refine bCT_intro (tb := tb_X5_at) (own := RX5) hE pn_X5 rfl tk_X5_at rfl (Nat.le_of_ble_eq_true rfl) ?_
  intro p e s0 m args below meth c C hr
  refine bv_blk C frk_X5 csk_X5 1 1 rfl (L1 := ([(0, .ref 24), (1, .int (nI p9))] : Lc)) (st1 := ([.int (nI p9)] : List Value)) (w1 := (layB g σ τ)) (by rfl) ?_
  refine bv_if_lt (j := 14) C rfl rfl (fun h => absurd h (nI_nlt (a := p9) (b := 0) (by omega) (by omega))) (fun _ => ?_)
  refine bv_blk C frk_X5 csk_X5 3 5 rfl (L1 := ([(0, .ref 24), (1, .int (nI p9))] : Lc)) (st1 := ([.int (g 0 4), .int (nI p9)] : List Value)) (w1 := (layB g σ τ)) (by rfl) ?_
  refine bv_icmp_ge (j := 14) C rfl rfl (fun _ => ?_) (fun h => absurd (by rw [show (g 0 4) = nI Ln from hl]; exact (nI_le (a := Ln) (b := p9) (by omega) (by omega))) h)
  refine bv_blk C frk_X5 csk_X5 1 15 rfl (L1 := ([(0, .ref 24), (1, .int (nI p9))] : Lc)) (st1 := ([.int (-1)] : List Value)) (w1 := (layB g σ τ)) (by rfl) ?_
  exact bv_iret C rfl hr rfl ⟨by (rfl), by (rfl)⟩
set_option maxRecDepth 100000 in
set_option maxHeartbeats 8000000 in
theorem sc_nextToken {l : Launch} {D : va_G} {cA : FieldType → ClassId} {z0 : Nat} {SK SV : Nat → Nat} {ad : Nat → Nat} (hE : aD (fun q => z0 ≤ q) ad 26) (g : Nat → Nat → Int32) (σ τ : Nat → Nat) (hσ : pmK σ τ) (Ln b0 : Nat) (hl : g 0 4 = nI Ln) (hL : Ln ≤ 120) (hb : g 0 10 = nI b0) (hbL : b0 ≤ Ln) : bF l D cA z0 SK SV ad shB 26 yX5_nextToken cX5_nextToken 3 none 1 [.ref 24] (layB g σ τ) none (layB (ntG Ln b0 g) σ τ) := by
  refine bCT_intro (tb := tb_X5_nextToken) (own := RX5) hE pn_X5 rfl tk_X5_nextToken rfl (Nat.le_of_ble_eq_true rfl) ?_
  intro p e s0 m args below meth c C hr
  refine bv_blk C frk_X5 csk_X5 4 4 rfl (L1 := ([(0, .ref 24)] : Lc)) (st1 := ([] : List Value)) (w1 := up2 (layB g σ τ) 24 2 (.int (g 0 10))) (by rfl) ?_
  refine bv_w (lb_up (o := 24) (k := 2) (a := 0) (b := 9) hσ (by decide) (by decide) (by rfl) (by rfl)) ?_
  have ex : ∀ (f : Nat), f ≤ Ln → ntF (g 3) Ln b0 = f → bV p l e (bR 1) s0 m args below meth c D cA shB (adA ad 26) 3 tb_X5_nextToken (MQ below (bQ D cA ad shB 26 (fun r w1 => r = none ∧ w1 = (layB (ntG Ln b0 g) σ τ))) args s0 0 0 (adA ad 26)) ad 26 0 0 (layB (ug g 0 9 (nI f)) σ τ) 22 ([(0, .ref 24)] : Lc) ([] : List Value) := by
    intro f hf hF
    rcases (by omega : f = Ln ∨ f < Ln) with hq | hq
    · refine bv_blk C frk_X5 csk_X5 3 25 rfl (L1 := ([(0, .ref 24)] : Lc)) (st1 := ([.int (nI f), .ref 24] : List Value)) (w1 := (layB (ug g 0 9 (nI f)) σ τ)) (by rfl) ?_
      refine bv_fV1 C rfl (sc_at_ge hE (ug g 0 9 (nI f)) σ τ hσ Ln f ((ug_ne (by omega)).trans hl) hL (by omega)) ml_X5_49 im_X5_at sel_X5_at ini_X5 cd_X5_at ok_X5_at rfl ⟨Nat.le_of_ble_eq_true rfl, Nat.le_of_ble_eq_true rfl⟩ ⟨Nat.zero_le _, Nat.zero_le _⟩ (by decide) rfl rfl rfl (rest := ([] : List Value)) rfl (Nat.le_of_ble_eq_true rfl) ?_
      refine bv_fS1 C rfl (sc_isLetter hE _ (-1)) ml_X5_53 st_X5_isLetter ini_X5 cd_X5_isLetter ok_X5_isLetter rfl ⟨Nat.le_of_ble_eq_true rfl, Nat.le_of_ble_eq_true rfl⟩ ⟨Nat.zero_le _, Nat.zero_le _⟩ (rest := ([] : List Value)) rfl (Nat.le_of_ble_eq_true rfl) ?_
      refine bv_blk C frk_X5 csk_X5 4 31 rfl (L1 := ([(1, .int (b2i (smB (-1)))), (0, .ref 24)] : Lc)) (st1 := ([.int (nI f), .ref 24] : List Value)) (w1 := (layB (ug g 0 9 (nI f)) σ τ)) (by rfl) ?_
      refine bv_fV1 C rfl (sc_at_ge hE (ug g 0 9 (nI f)) σ τ hσ Ln f ((ug_ne (by omega)).trans hl) hL (by omega)) ml_X5_49 im_X5_at sel_X5_at ini_X5 cd_X5_at ok_X5_at rfl ⟨Nat.le_of_ble_eq_true rfl, Nat.le_of_ble_eq_true rfl⟩ ⟨Nat.zero_le _, Nat.zero_le _⟩ (by decide) rfl rfl rfl (rest := ([] : List Value)) rfl (Nat.le_of_ble_eq_true rfl) ?_
      refine bv_fS1 C rfl (sc_isDigit hE _ (-1)) ml_X5_57 st_X5_isDigit ini_X5 cd_X5_isDigit ok_X5_isDigit rfl ⟨Nat.le_of_ble_eq_true rfl, Nat.le_of_ble_eq_true rfl⟩ ⟨Nat.zero_le _, Nat.zero_le _⟩ (rest := ([] : List Value)) rfl (Nat.le_of_ble_eq_true rfl) ?_
      refine bv_blk C frk_X5 csk_X5 6 39 rfl (L1 := ([(2, .int (b2i (dgB (-1)))), (1, .int (b2i (smB (-1)))), (0, .ref 24)] : Lc)) (st1 := ([.int (g 0 4), .int (nI f), .ref 24] : List Value)) (w1 := (layB (ug g 0 9 (nI f)) σ τ)) (by rfl) ?_
      refine bv_icmp_ge (j := 45) C rfl rfl (fun _ => ?_) (fun h => absurd (by rw [show (g 0 4) = nI Ln from hl]; exact (nI_le (a := Ln) (b := f) (by omega) (by omega))) h)
      refine bv_blk C frk_X5 csk_X5 3 48 rfl (L1 := ([(2, .int (b2i (dgB (-1)))), (1, .int (b2i (smB (-1)))), (0, .ref 24)] : Lc)) (st1 := ([] : List Value)) (w1 := up2 (layB (ug g 0 9 (nI f)) σ τ) 24 3 (.int (g 0 4))) (by rfl) ?_
      refine bv_w (lb_up (o := 24) (k := 3) (a := 0) (b := 10) hσ (by decide) (by decide) (by rfl) (by rfl)) ?_
      refine bv_blk C frk_X5 csk_X5 4 52 rfl (L1 := ([(2, .int (b2i (dgB (-1)))), (1, .int (b2i (smB (-1)))), (0, .ref 24)] : Lc)) (st1 := ([.int (g 0 4), .int (g 0 4)] : List Value)) (w1 := (layB (ug (ug g 0 9 (nI f)) 0 10 (g 0 4)) σ τ)) (by rfl) ?_
      refine bv_icmp_ge (j := 76) C rfl rfl (fun _ => ?_) (fun h => absurd (by rw [show (g 0 4) = nI Ln from hl]; exact (nI_le (a := Ln) (b := Ln) (by omega) (by omega))) h)
      exact bv_vret C rfl hr ⟨by (rfl), by (unfold ntG; rw [hF, show ntB (g 3) Ln f = f from if_neg (by omega), show g 0 4 = nI f from hl.trans (by rw [hq])])⟩
    · refine bv_blk C frk_X5 csk_X5 3 25 rfl (L1 := ([(0, .ref 24)] : Lc)) (st1 := ([.int (nI f), .ref 24] : List Value)) (w1 := (layB (ug g 0 9 (nI f)) σ τ)) (by rfl) ?_
      refine bv_fV1 C rfl (sc_at_lt hE (ug g 0 9 (nI f)) σ τ hσ Ln f ((ug_ne (by omega)).trans hl) hL (by omega)) ml_X5_49 im_X5_at sel_X5_at ini_X5 cd_X5_at ok_X5_at rfl ⟨Nat.le_of_ble_eq_true rfl, Nat.le_of_ble_eq_true rfl⟩ ⟨Nat.zero_le _, Nat.zero_le _⟩ (by decide) rfl rfl rfl (rest := ([] : List Value)) rfl (Nat.le_of_ble_eq_true rfl) ?_
      refine bv_fS1 C rfl (sc_isLetter hE _ (g 3 f)) ml_X5_53 st_X5_isLetter ini_X5 cd_X5_isLetter ok_X5_isLetter rfl ⟨Nat.le_of_ble_eq_true rfl, Nat.le_of_ble_eq_true rfl⟩ ⟨Nat.zero_le _, Nat.zero_le _⟩ (rest := ([] : List Value)) rfl (Nat.le_of_ble_eq_true rfl) ?_
      refine bv_blk C frk_X5 csk_X5 4 31 rfl (L1 := ([(1, .int (b2i (smB (g 3 f)))), (0, .ref 24)] : Lc)) (st1 := ([.int (nI f), .ref 24] : List Value)) (w1 := (layB (ug g 0 9 (nI f)) σ τ)) (by rfl) ?_
      refine bv_fV1 C rfl (sc_at_lt hE (ug g 0 9 (nI f)) σ τ hσ Ln f ((ug_ne (by omega)).trans hl) hL (by omega)) ml_X5_49 im_X5_at sel_X5_at ini_X5 cd_X5_at ok_X5_at rfl ⟨Nat.le_of_ble_eq_true rfl, Nat.le_of_ble_eq_true rfl⟩ ⟨Nat.zero_le _, Nat.zero_le _⟩ (by decide) rfl rfl rfl (rest := ([] : List Value)) rfl (Nat.le_of_ble_eq_true rfl) ?_
      refine bv_fS1 C rfl (sc_isDigit hE _ (g 3 f)) ml_X5_57 st_X5_isDigit ini_X5 cd_X5_isDigit ok_X5_isDigit rfl ⟨Nat.le_of_ble_eq_true rfl, Nat.le_of_ble_eq_true rfl⟩ ⟨Nat.zero_le _, Nat.zero_le _⟩ (rest := ([] : List Value)) rfl (Nat.le_of_ble_eq_true rfl) ?_
      refine bv_blk C frk_X5 csk_X5 6 39 rfl (L1 := ([(2, .int (b2i (dgB (g 3 f)))), (1, .int (b2i (smB (g 3 f)))), (0, .ref 24)] : Lc)) (st1 := ([.int (g 0 4), .int (nI f), .ref 24] : List Value)) (w1 := (layB (ug g 0 9 (nI f)) σ τ)) (by rfl) ?_
      refine bv_icmp_ge (j := 45) C rfl rfl (fun h => absurd h (by rw [show (g 0 4) = nI Ln from hl]; exact (nI_ge (a := f) (b := Ln) (by omega) (by omega)))) (fun _ => ?_)
      refine bv_blk C frk_X5 csk_X5 4 44 rfl (L1 := ([(2, .int (b2i (dgB (g 3 f)))), (1, .int (b2i (smB (g 3 f)))), (0, .ref 24)] : Lc)) (st1 := ([.int ((nI f) + (1)), .ref 24] : List Value)) (w1 := (layB (ug g 0 9 (nI f)) σ τ)) (by rfl) ?_
      refine bv_goto (j := 47) C rfl rfl ?_
      refine bv_blk C frk_X5 csk_X5 1 48 rfl (L1 := ([(2, .int (b2i (dgB (g 3 f)))), (1, .int (b2i (smB (g 3 f)))), (0, .ref 24)] : Lc)) (st1 := ([] : List Value)) (w1 := up2 (layB (ug g 0 9 (nI f)) σ τ) 24 3 (.int ((nI f) + (1)))) (by rfl) ?_
      refine bv_w (lb_up (o := 24) (k := 3) (a := 0) (b := 10) hσ (by decide) (by decide) (by rfl) (by rfl)) ?_
      have lp2 : ∀ (q b : Nat), b + q = Ln → f < b → exF (g 3) f q b = ntB (g 3) Ln f → bV p l e (bR 1) s0 m args below meth c D cA shB (adA ad 26) 3 tb_X5_nextToken (MQ below (bQ D cA ad shB 26 (fun r w1 => r = none ∧ w1 = (layB (ntG Ln b0 g) σ τ))) args s0 0 0 (adA ad 26)) ad 26 0 0 (layB (ug (ug g 0 9 (nI f)) 0 10 (nI b)) σ τ) 48 ([(0, .ref 24), (1, .int (b2i (smB (g 3 f)))), (2, .int (b2i (dgB (g 3 f))))] : Lc) ([] : List Value) := by
        intro q
        induction q with
        | zero =>
          intro b hb2 hfb heq
          rw [exF_0] at heq
          refine bv_blk C frk_X5 csk_X5 4 52 rfl (L1 := ([(0, .ref 24), (1, .int (b2i (smB (g 3 f)))), (2, .int (b2i (dgB (g 3 f))))] : Lc)) (st1 := ([.int (g 0 4), .int (nI b)] : List Value)) (w1 := (layB (ug (ug g 0 9 (nI f)) 0 10 (nI b)) σ τ)) (by rfl) ?_
          refine bv_icmp_ge (j := 76) C rfl rfl (fun _ => ?_) (fun h => absurd (by rw [show (g 0 4) = nI Ln from hl]; exact (nI_le (a := Ln) (b := b) (by omega) (by omega))) h)
          exact bv_vret C rfl hr ⟨by (rfl), by (unfold ntG; rw [hF, ← heq])⟩
        | succ q ih =>
          intro b hb2 hfb heq
          refine bv_blk C frk_X5 csk_X5 4 52 rfl (L1 := ([(0, .ref 24), (1, .int (b2i (smB (g 3 f)))), (2, .int (b2i (dgB (g 3 f))))] : Lc)) (st1 := ([.int (g 0 4), .int (nI b)] : List Value)) (w1 := (layB (ug (ug g 0 9 (nI f)) 0 10 (nI b)) σ τ)) (by rfl) ?_
          refine bv_icmp_ge (j := 76) C rfl rfl (fun h => absurd h (by rw [show (g 0 4) = nI Ln from hl]; exact (nI_ge (a := b) (b := Ln) (by omega) (by omega)))) (fun _ => ?_)
          refine bv_blk C frk_X5 csk_X5 1 54 rfl (L1 := ([(0, .ref 24), (1, .int (b2i (smB (g 3 f)))), (2, .int (b2i (dgB (g 3 f))))] : Lc)) (st1 := ([.int (b2i (smB (g 3 f)))] : List Value)) (w1 := (layB (ug (ug g 0 9 (nI f)) 0 10 (nI b)) σ τ)) (by rfl) ?_
          refine bv_if_eq (j := 61) C rfl rfl (fun c6 => ?_) (fun c6 => ?_)
          · refine bv_blk C frk_X5 csk_X5 1 62 rfl (L1 := ([(0, .ref 24), (1, .int (b2i (smB (g 3 f)))), (2, .int (b2i (dgB (g 3 f))))] : Lc)) (st1 := ([.int (b2i (dgB (g 3 f)))] : List Value)) (w1 := (layB (ug (ug g 0 9 (nI f)) 0 10 (nI b)) σ τ)) (by rfl) ?_
            refine bv_if_eq (j := 76) C rfl rfl (fun c7 => ?_) (fun c7 => ?_)
            · exact bv_vret C rfl hr ⟨by (rfl), by (unfold ntG; rw [hF, ← heq, exF_f (show exC (g 3) f b = false by simp [exC, b2i_0 c6, b2i_0 c7])])⟩
            · refine bv_blk C frk_X5 csk_X5 3 66 rfl (L1 := ([(0, .ref 24), (1, .int (b2i (smB (g 3 f)))), (2, .int (b2i (dgB (g 3 f))))] : Lc)) (st1 := ([.int (nI b), .ref 24] : List Value)) (w1 := (layB (ug (ug g 0 9 (nI f)) 0 10 (nI b)) σ τ)) (by rfl) ?_
              refine bv_fV1 C rfl (sc_at_lt hE (ug (ug g 0 9 (nI f)) 0 10 (nI b)) σ τ hσ Ln b ((ug_ne (by omega)).trans ((ug_ne (by omega)).trans hl)) hL (by omega)) ml_X5_49 im_X5_at sel_X5_at ini_X5 cd_X5_at ok_X5_at rfl ⟨Nat.le_of_ble_eq_true rfl, Nat.le_of_ble_eq_true rfl⟩ ⟨Nat.zero_le _, Nat.zero_le _⟩ (by decide) rfl rfl rfl (rest := ([] : List Value)) rfl (Nat.le_of_ble_eq_true rfl) ?_
              refine bv_fS1 C rfl (sc_isDigit hE _ (g 3 b)) ml_X5_57 st_X5_isDigit ini_X5 cd_X5_isDigit ok_X5_isDigit rfl ⟨Nat.le_of_ble_eq_true rfl, Nat.le_of_ble_eq_true rfl⟩ ⟨Nat.zero_le _, Nat.zero_le _⟩ (rest := ([] : List Value)) rfl (Nat.le_of_ble_eq_true rfl) ?_
              refine bv_if_eq (j := 76) C rfl rfl (fun c8 => ?_) (fun c8 => ?_)
              · exact bv_vret C rfl hr ⟨by (rfl), by (unfold ntG; rw [hF, ← heq, exF_f (show exC (g 3) f b = false by simp [exC, b2i_0 c6, b2i_1 c7, b2i_0 c8])])⟩
              · refine bv_blk C frk_X5 csk_X5 6 75 rfl (L1 := ([(0, .ref 24), (1, .int (b2i (smB (g 3 f)))), (2, .int (b2i (dgB (g 3 f))))] : Lc)) (st1 := ([] : List Value)) (w1 := up2 (layB (ug (ug g 0 9 (nI f)) 0 10 (nI b)) σ τ) 24 3 (.int ((nI b) + (1)))) (by rfl) ?_
                refine bv_w (lb_up (o := 24) (k := 3) (a := 0) (b := 10) hσ (by decide) (by decide) (by rfl) (by rfl)) ?_
                refine bv_goto (j := 48) C rfl rfl ?_
                have hc : exC (g 3) f b = true := by simp [exC, b2i_0 c6, b2i_1 c7, b2i_1 c8]
                refine bv_weq (show (layB (ug (ug (ug g 0 9 (nI f)) 0 10 (nI b)) 0 10 ((nI b) + (1))) σ τ) = (layB (ug (ug g 0 9 (nI f)) 0 10 (nI (b + 1))) σ τ) from by rw [ug_ug, show ((nI b) + (1)) = nI (b + 1) from (nIa rfl rfl)]) ?_
                refine bv_sub [0, 1, 2] (by rfl) ?_
                exact ih (b + 1) (by omega) (by omega) (by rw [← heq, exF_t hc])
          · refine bv_blk C frk_X5 csk_X5 3 58 rfl (L1 := ([(0, .ref 24), (1, .int (b2i (smB (g 3 f)))), (2, .int (b2i (dgB (g 3 f))))] : Lc)) (st1 := ([.int (nI b), .ref 24] : List Value)) (w1 := (layB (ug (ug g 0 9 (nI f)) 0 10 (nI b)) σ τ)) (by rfl) ?_
            refine bv_fV1 C rfl (sc_at_lt hE (ug (ug g 0 9 (nI f)) 0 10 (nI b)) σ τ hσ Ln b ((ug_ne (by omega)).trans ((ug_ne (by omega)).trans hl)) hL (by omega)) ml_X5_49 im_X5_at sel_X5_at ini_X5 cd_X5_at ok_X5_at rfl ⟨Nat.le_of_ble_eq_true rfl, Nat.le_of_ble_eq_true rfl⟩ ⟨Nat.zero_le _, Nat.zero_le _⟩ (by decide) rfl rfl rfl (rest := ([] : List Value)) rfl (Nat.le_of_ble_eq_true rfl) ?_
            refine bv_fS1 C rfl (sc_isLetter hE _ (g 3 b)) ml_X5_53 st_X5_isLetter ini_X5 cd_X5_isLetter ok_X5_isLetter rfl ⟨Nat.le_of_ble_eq_true rfl, Nat.le_of_ble_eq_true rfl⟩ ⟨Nat.zero_le _, Nat.zero_le _⟩ (rest := ([] : List Value)) rfl (Nat.le_of_ble_eq_true rfl) ?_
            refine bv_if_ne (j := 69) C rfl rfl (fun c9 => ?_) (fun c9 => ?_)
            · refine bv_blk C frk_X5 csk_X5 6 75 rfl (L1 := ([(0, .ref 24), (1, .int (b2i (smB (g 3 f)))), (2, .int (b2i (dgB (g 3 f))))] : Lc)) (st1 := ([] : List Value)) (w1 := up2 (layB (ug (ug g 0 9 (nI f)) 0 10 (nI b)) σ τ) 24 3 (.int ((nI b) + (1)))) (by rfl) ?_
              refine bv_w (lb_up (o := 24) (k := 3) (a := 0) (b := 10) hσ (by decide) (by decide) (by rfl) (by rfl)) ?_
              refine bv_goto (j := 48) C rfl rfl ?_
              have hc : exC (g 3) f b = true := by simp [exC, b2i_1 c6, b2i_1 c9]
              refine bv_weq (show (layB (ug (ug (ug g 0 9 (nI f)) 0 10 (nI b)) 0 10 ((nI b) + (1))) σ τ) = (layB (ug (ug g 0 9 (nI f)) 0 10 (nI (b + 1))) σ τ) from by rw [ug_ug, show ((nI b) + (1)) = nI (b + 1) from (nIa rfl rfl)]) ?_
              refine bv_sub [0, 1, 2] (by rfl) ?_
              exact ih (b + 1) (by omega) (by omega) (by rw [← heq, exF_t hc])
            · refine bv_blk C frk_X5 csk_X5 1 62 rfl (L1 := ([(0, .ref 24), (1, .int (b2i (smB (g 3 f)))), (2, .int (b2i (dgB (g 3 f))))] : Lc)) (st1 := ([.int (b2i (dgB (g 3 f)))] : List Value)) (w1 := (layB (ug (ug g 0 9 (nI f)) 0 10 (nI b)) σ τ)) (by rfl) ?_
              refine bv_if_eq (j := 76) C rfl rfl (fun c10 => ?_) (fun c10 => ?_)
              · exact bv_vret C rfl hr ⟨by (rfl), by (unfold ntG; rw [hF, ← heq, exF_f (show exC (g 3) f b = false by simp [exC, b2i_1 c6, b2i_0 c9, b2i_0 c10])])⟩
              · refine bv_blk C frk_X5 csk_X5 3 66 rfl (L1 := ([(0, .ref 24), (1, .int (b2i (smB (g 3 f)))), (2, .int (b2i (dgB (g 3 f))))] : Lc)) (st1 := ([.int (nI b), .ref 24] : List Value)) (w1 := (layB (ug (ug g 0 9 (nI f)) 0 10 (nI b)) σ τ)) (by rfl) ?_
                refine bv_fV1 C rfl (sc_at_lt hE (ug (ug g 0 9 (nI f)) 0 10 (nI b)) σ τ hσ Ln b ((ug_ne (by omega)).trans ((ug_ne (by omega)).trans hl)) hL (by omega)) ml_X5_49 im_X5_at sel_X5_at ini_X5 cd_X5_at ok_X5_at rfl ⟨Nat.le_of_ble_eq_true rfl, Nat.le_of_ble_eq_true rfl⟩ ⟨Nat.zero_le _, Nat.zero_le _⟩ (by decide) rfl rfl rfl (rest := ([] : List Value)) rfl (Nat.le_of_ble_eq_true rfl) ?_
                refine bv_fS1 C rfl (sc_isDigit hE _ (g 3 b)) ml_X5_57 st_X5_isDigit ini_X5 cd_X5_isDigit ok_X5_isDigit rfl ⟨Nat.le_of_ble_eq_true rfl, Nat.le_of_ble_eq_true rfl⟩ ⟨Nat.zero_le _, Nat.zero_le _⟩ (rest := ([] : List Value)) rfl (Nat.le_of_ble_eq_true rfl) ?_
                refine bv_if_eq (j := 76) C rfl rfl (fun c11 => ?_) (fun c11 => ?_)
                · exact bv_vret C rfl hr ⟨by (rfl), by (unfold ntG; rw [hF, ← heq, exF_f (show exC (g 3) f b = false by simp [exC, b2i_1 c6, b2i_0 c9, b2i_1 c10, b2i_0 c11])])⟩
                · refine bv_blk C frk_X5 csk_X5 6 75 rfl (L1 := ([(0, .ref 24), (1, .int (b2i (smB (g 3 f)))), (2, .int (b2i (dgB (g 3 f))))] : Lc)) (st1 := ([] : List Value)) (w1 := up2 (layB (ug (ug g 0 9 (nI f)) 0 10 (nI b)) σ τ) 24 3 (.int ((nI b) + (1)))) (by rfl) ?_
                  refine bv_w (lb_up (o := 24) (k := 3) (a := 0) (b := 10) hσ (by decide) (by decide) (by rfl) (by rfl)) ?_
                  refine bv_goto (j := 48) C rfl rfl ?_
                  have hc : exC (g 3) f b = true := by simp [exC, b2i_1 c6, b2i_0 c9, b2i_1 c10, b2i_1 c11]
                  refine bv_weq (show (layB (ug (ug (ug g 0 9 (nI f)) 0 10 (nI b)) 0 10 ((nI b) + (1))) σ τ) = (layB (ug (ug g 0 9 (nI f)) 0 10 (nI (b + 1))) σ τ) from by rw [ug_ug, show ((nI b) + (1)) = nI (b + 1) from (nIa rfl rfl)]) ?_
                  refine bv_sub [0, 1, 2] (by rfl) ?_
                  exact ih (b + 1) (by omega) (by omega) (by rw [← heq, exF_t hc])
      refine bv_weq (show (layB (ug (ug g 0 9 (nI f)) 0 10 ((nI f) + (1))) σ τ) = (layB (ug (ug g 0 9 (nI f)) 0 10 (nI (f + 1))) σ τ) from by rw [show ((nI f) + (1)) = nI (f + 1) from (nIa rfl rfl)]) ?_
      refine bv_sub [2, 1, 0] (by rfl) ?_
      exact lp2 (Ln - (f + 1)) (f + 1) (by omega) (by omega) (by unfold ntB; rw [if_pos hq])
  have lp : ∀ (q f : Nat), f + q = Ln → skF (g 3) q f = ntF (g 3) Ln b0 → bV p l e (bR 1) s0 m args below meth c D cA shB (adA ad 26) 3 tb_X5_nextToken (MQ below (bQ D cA ad shB 26 (fun r w1 => r = none ∧ w1 = (layB (ntG Ln b0 g) σ τ))) args s0 0 0 (adA ad 26)) ad 26 0 0 (layB (ug g 0 9 (nI f)) σ τ) 4 ([(0, .ref 24)] : Lc) ([] : List Value) := by
    intro q
    induction q with
    | zero =>
      intro f hf heq
      rw [skF_0] at heq
      refine bv_blk C frk_X5 csk_X5 4 8 rfl (L1 := ([(0, .ref 24)] : Lc)) (st1 := ([.int (g 0 4), .int (nI f)] : List Value)) (w1 := (layB (ug g 0 9 (nI f)) σ τ)) (by rfl) ?_
      refine bv_icmp_ge (j := 22) C rfl rfl (fun _ => ?_) (fun h => absurd (by rw [show (g 0 4) = nI Ln from hl]; exact (nI_le (a := Ln) (b := f) (by omega) (by omega))) h)
      refine bv_sub [0] (by rfl) ?_
      exact ex f (by omega) heq.symm
    | succ q ih =>
      intro f hf heq
      refine bv_blk C frk_X5 csk_X5 4 8 rfl (L1 := ([(0, .ref 24)] : Lc)) (st1 := ([.int (g 0 4), .int (nI f)] : List Value)) (w1 := (layB (ug g 0 9 (nI f)) σ τ)) (by rfl) ?_
      refine bv_icmp_ge (j := 22) C rfl rfl (fun h => absurd h (by rw [show (g 0 4) = nI Ln from hl]; exact (nI_ge (a := f) (b := Ln) (by omega) (by omega)))) (fun _ => ?_)
      refine bv_blk C frk_X5 csk_X5 3 12 rfl (L1 := ([(0, .ref 24)] : Lc)) (st1 := ([.int (nI f), .ref 24] : List Value)) (w1 := (layB (ug g 0 9 (nI f)) σ τ)) (by rfl) ?_
      refine bv_fV1 C rfl (sc_at_lt hE (ug g 0 9 (nI f)) σ τ hσ Ln f ((ug_ne (by omega)).trans hl) hL (by omega)) ml_X5_49 im_X5_at sel_X5_at ini_X5 cd_X5_at ok_X5_at rfl ⟨Nat.le_of_ble_eq_true rfl, Nat.le_of_ble_eq_true rfl⟩ ⟨Nat.zero_le _, Nat.zero_le _⟩ (by decide) rfl rfl rfl (rest := ([] : List Value)) rfl (Nat.le_of_ble_eq_true rfl) ?_
      refine bv_blk C frk_X5 csk_X5 1 14 rfl (L1 := ([(0, .ref 24)] : Lc)) (st1 := ([.int (32), .int (g 3 f)] : List Value)) (w1 := (layB (ug g 0 9 (nI f)) σ τ)) (by rfl) ?_
      refine bv_icmp_ne (j := 22) C rfl rfl (fun c14 => ?_) (fun c14 => ?_)
      · refine bv_sub [0] (by rfl) ?_
        exact ex f (by omega) (by rw [← heq, skF_f c14])
      · refine bv_blk C frk_X5 csk_X5 6 21 rfl (L1 := ([(0, .ref 24)] : Lc)) (st1 := ([] : List Value)) (w1 := up2 (layB (ug g 0 9 (nI f)) σ τ) 24 2 (.int ((nI f) + (1)))) (by rfl) ?_
        refine bv_w (lb_up (o := 24) (k := 2) (a := 0) (b := 9) hσ (by decide) (by decide) (by rfl) (by rfl)) ?_
        refine bv_goto (j := 4) C rfl rfl ?_
        refine bv_weq (show (layB (ug (ug g 0 9 (nI f)) 0 9 ((nI f) + (1))) σ τ) = (layB (ug g 0 9 (nI (f + 1))) σ τ) from by rw [ug_ug, show ((nI f) + (1)) = nI (f + 1) from (nIa rfl rfl)]) ?_
        refine bv_sub [0] (by rfl) ?_
        exact ih (f + 1) (by omega) (by rw [← heq, skF_t c14])
  refine bv_weq (show (layB (ug g 0 9 (g 0 10)) σ τ) = (layB (ug g 0 9 (nI b0)) σ τ) from by rw [show g 0 10 = nI b0 from hb]) ?_
  refine bv_sub [0] (by rfl) ?_
  exact lp (Ln - b0) b0 (by omega) rfl
