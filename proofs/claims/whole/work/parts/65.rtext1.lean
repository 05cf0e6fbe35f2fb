def smB (x : Int32) : Bool := decide ((97 : Int32) ≤ x ∧ x ≤ 122)
def dgB (x : Int32) : Bool := decide ((48 : Int32) ≤ x ∧ x ≤ 57)
theorem b2i_t0 {b : Bool} (h : b = true) : b2i b = 1 := by rw [h]; rfl
theorem b2i_f0 {b : Bool} (h : b = false) : b2i b = 0 := by rw [h]; rfl
def skF (t : Nat → Int32) : Nat → Nat → Nat
  | 0, f => f
  | q + 1, f => if t f = 32 then skF t q (f + 1) else f
def exC (t : Nat → Int32) (f b : Nat) : Bool := (smB (t f) && smB (t b)) || (dgB (t f) && dgB (t b))
def exF (t : Nat → Int32) (f : Nat) : Nat → Nat → Nat
  | 0, b => b
  | q + 1, b => if exC t f b = true then exF t f q (b + 1) else b
theorem skF_0 {t : Nat → Int32} {f : Nat} : skF t 0 f = f := rfl
theorem skF_t {t : Nat → Int32} {q f : Nat} (h : t f = 32) : skF t (q + 1) f = skF t q (f + 1) := if_pos h
theorem skF_f {t : Nat → Int32} {q f : Nat} (h : ¬ t f = 32) : skF t (q + 1) f = f := if_neg h
theorem exF_0 {t : Nat → Int32} {f b : Nat} : exF t f 0 b = b := rfl
theorem exF_t {t : Nat → Int32} {f q b : Nat} (h : exC t f b = true) : exF t f (q + 1) b = exF t f q (b + 1) := if_pos h
theorem exF_f {t : Nat → Int32} {f q b : Nat} (h : exC t f b = false) : exF t f (q + 1) b = b := if_neg (fun z => absurd (z.symm.trans h) Bool.noConfusion)
theorem skF_b {t : Nat → Int32} : ∀ q f, f ≤ skF t q f ∧ skF t q f ≤ f + q := by
  intro q
  induction q with
  | zero => intro f; exact ⟨Nat.le_refl _, Nat.le_refl _⟩
  | succ q ih =>
    intro f
    by_cases c : t f = 32
    · rw [skF_t c]
      have z := ih (f + 1)
      omega
    · rw [skF_f c]
      omega
theorem exF_b {t : Nat → Int32} {f : Nat} : ∀ q b, b ≤ exF t f q b ∧ exF t f q b ≤ b + q := by
  intro q
  induction q with
  | zero => intro b; exact ⟨Nat.le_refl _, Nat.le_refl _⟩
  | succ q ih =>
    intro b
    cases c : exC t f b with
    | true =>
      rw [exF_t c]
      have z := ih (b + 1)
      omega
    | false =>
      rw [exF_f c]
      omega
def ntF (t : Nat → Int32) (Ln b0 : Nat) : Nat := skF t (Ln - b0) b0
def ntB (t : Nat → Int32) (Ln f : Nat) : Nat := if f < Ln then exF t f (Ln - (f + 1)) (f + 1) else f
def ntG (Ln b0 : Nat) (g : Nat → Nat → Int32) : Nat → Nat → Int32 := ug (ug g 0 9 (nI (ntF (g 3) Ln b0))) 0 10 (nI (ntB (g 3) Ln (ntF (g 3) Ln b0)))
theorem ntF_b {t : Nat → Int32} {Ln b0 : Nat} (h : b0 ≤ Ln) : b0 ≤ ntF t Ln b0 ∧ ntF t Ln b0 ≤ Ln := by
  have z := skF_b (t := t) (Ln - b0) b0
  unfold ntF
  omega
theorem ntB_b {t : Nat → Int32} {Ln f : Nat} (h : f ≤ Ln) : f ≤ ntB t Ln f ∧ ntB t Ln f ≤ Ln ∧ (f < Ln → f < ntB t Ln f) := by
  unfold ntB
  by_cases c : f < Ln
  · rw [if_pos c]
    have z := exF_b (t := t) (f := f) (Ln - (f + 1)) (f + 1)
    omega
  · rw [if_neg c]
    omega
set_option maxRecDepth 100000 in
set_option maxHeartbeats 8000000 in
theorem ct_isSmall {l : Launch} {D : va_G} {cA : FieldType → ClassId} {z0 : Nat} {SK SV : Nat → Nat} {ad : Nat → Nat} {sh : Sh} {N : Nat} (hE : aD (fun q => z0 ≤ q) ad N) (w : Wd) (x : Int32) : bF l D cA z0 SK SV ad sh N yX9_isSmall cX9_isSmall 1 (some .boolean) 1 [.int x] w (some (.int (b2i (smB x)))) w := by
  refine bCT_intro (tb := tb_X9_isSmall) (own := RX9) hE pn_X9 rfl tk_X9_isSmall rfl (Nat.le_of_ble_eq_true rfl) ?_
  intro p e s0 m args below meth c C hr
  refine bv_blk C frk_X9 csk_X9 4 4 rfl (L1 := ([(0, .int x)] : Lc)) (st1 := ([.long (122), .long (97), .long (Int32.toInt64 x)] : List Value)) (w1 := w) (by rfl) ?_
  by_cases c1 : ((97) ≤ x ∧ x ≤ (122))
  · refine bv_fS1 C rfl (ct_in_t hE _ (x := x) (lo := (97)) (hi := (122)) c1) ml_X9_65 st_X9_in ini_X9 cd_X9_in ok_X9_in rfl ⟨Nat.le_of_ble_eq_true rfl, Nat.le_of_ble_eq_true rfl⟩ ⟨Nat.zero_le _, Nat.zero_le _⟩ (rest := ([] : List Value)) rfl (Nat.le_of_ble_eq_true rfl) ?_
    exact bv_iret C rfl hr rfl ⟨by (unfold smB; rw [decide_eq_true c1]; rfl), by (rfl)⟩
  · refine bv_fS1 C rfl (ct_in_f hE _ (x := x) (lo := (97)) (hi := (122)) c1) ml_X9_65 st_X9_in ini_X9 cd_X9_in ok_X9_in rfl ⟨Nat.le_of_ble_eq_true rfl, Nat.le_of_ble_eq_true rfl⟩ ⟨Nat.zero_le _, Nat.zero_le _⟩ (rest := ([] : List Value)) rfl (Nat.le_of_ble_eq_true rfl) ?_
    exact bv_iret C rfl hr rfl ⟨by (unfold smB; rw [decide_eq_false c1]; rfl), by (rfl)⟩
set_option maxRecDepth 100000 in
set_option maxHeartbeats 8000000 in
theorem ct_isDigit {l : Launch} {D : va_G} {cA : FieldType → ClassId} {z0 : Nat} {SK SV : Nat → Nat} {ad : Nat → Nat} {sh : Sh} {N : Nat} (hE : aD (fun q => z0 ≤ q) ad N) (w : Wd) (x : Int32) : bF l D cA z0 SK SV ad sh N yX9_isDigit cX9_isDigit 1 (some .boolean) 1 [.int x] w (some (.int (b2i (dgB x)))) w := by
  refine bCT_intro (tb := tb_X9_isDigit) (own := RX9) hE pn_X9 rfl tk_X9_isDigit rfl (Nat.le_of_ble_eq_true rfl) ?_
  intro p e s0 m args below meth c C hr
  refine bv_blk C frk_X9 csk_X9 4 4 rfl (L1 := ([(0, .int x)] : Lc)) (st1 := ([.long (57), .long (48), .long (Int32.toInt64 x)] : List Value)) (w1 := w) (by rfl) ?_
  by_cases c1 : ((48) ≤ x ∧ x ≤ (57))
  · refine bv_fS1 C rfl (ct_in_t hE _ (x := x) (lo := (48)) (hi := (57)) c1) ml_X9_65 st_X9_in ini_X9 cd_X9_in ok_X9_in rfl ⟨Nat.le_of_ble_eq_true rfl, Nat.le_of_ble_eq_true rfl⟩ ⟨Nat.zero_le _, Nat.zero_le _⟩ (rest := ([] : List Value)) rfl (Nat.le_of_ble_eq_true rfl) ?_
    exact bv_iret C rfl hr rfl ⟨by (unfold dgB; rw [decide_eq_true c1]; rfl), by (rfl)⟩
  · refine bv_fS1 C rfl (ct_in_f hE _ (x := x) (lo := (48)) (hi := (57)) c1) ml_X9_65 st_X9_in ini_X9 cd_X9_in ok_X9_in rfl ⟨Nat.le_of_ble_eq_true rfl, Nat.le_of_ble_eq_true rfl⟩ ⟨Nat.zero_le _, Nat.zero_le _⟩ (rest := ([] : List Value)) rfl (Nat.le_of_ble_eq_true rfl) ?_
    exact bv_iret C rfl hr rfl ⟨by (unfold dgB; rw [decide_eq_false c1]; rfl), by (rfl)⟩
set_option maxRecDepth 100000 in
set_option maxHeartbeats 8000000 in
theorem ct_nextToken {l : Launch} {D : va_G} {cA : FieldType → ClassId} {z0 : Nat} {SK SV : Nat → Nat} {ad : Nat → Nat} (hE : aD (fun q => z0 ≤ q) ad 9) (g : Nat → Nat → Int32) (h : Int64) (Ln b0 : Nat) (hl : g 0 4 = nI Ln) (hL : Ln ≤ 120) (hb : g 0 10 = nI b0) (hbL : b0 ≤ Ln) : bF l D cA z0 SK SV ad shM 9 yX9_nextToken cX9_nextToken 3 none 2 [.ref 0] (layM g h) none (layM (ntG Ln b0 g) h) := by
  refine bCT_intro (tb := tb_X9_nextToken) (own := RX9) hE pn_X9 rfl tk_X9_nextToken rfl (Nat.le_of_ble_eq_true rfl) ?_
  intro p e s0 m args below meth c C hr
  refine bv_blk C frk_X9 csk_X9 4 4 rfl (L1 := ([(0, .ref 0)] : Lc)) (st1 := ([] : List Value)) (w1 := up2 (layM g h) 0 9 (.int (g 0 10))) (by rfl) ?_
  rw [lm_up rfl]
  have ex : ∀ (f : Nat), f ≤ Ln → ntF (g 3) Ln b0 = f → bV p l e (bR 2) s0 m args below meth c D cA shM (adA ad 9) 3 tb_X9_nextToken (MQ below (bQ D cA ad shM 9 (fun r w1 => r = none ∧ w1 = (layM (ntG Ln b0 g) h))) args s0 0 0 (adA ad 9)) ad 9 0 0 (layM (ug g 0 9 (nI f)) h) 23 ([(0, .ref 0)] : Lc) ([] : List Value) := by
    intro f hf hF
    rcases (by omega : f = Ln ∨ f < Ln) with hq | hq
    · refine bv_blk C frk_X9 csk_X9 5 28 rfl (L1 := ([(0, .ref 0)] : Lc)) (st1 := ([.int (g 0 4), .int (nI f), .ref 0] : List Value)) (w1 := (layM (ug g 0 9 (nI f)) h)) (by rfl) ?_
      refine bv_icmp_ge (j := 34) C rfl rfl (fun _ => ?_) (fun h => absurd (by rw [show (g 0 4) = nI Ln from hl]; exact (nI_le (a := Ln) (b := f) (by omega) (by omega))) h)
      refine bv_blk C frk_X9 csk_X9 3 37 rfl (L1 := ([(0, .ref 0)] : Lc)) (st1 := ([] : List Value)) (w1 := up2 (layM (ug g 0 9 (nI f)) h) 0 10 (.int (nI f))) (by rfl) ?_
      rw [lm_up rfl]
      refine bv_blk C frk_X9 csk_X9 4 41 rfl (L1 := ([(0, .ref 0)] : Lc)) (st1 := ([.int (g 0 4), .int (nI f)] : List Value)) (w1 := (layM (ug (ug g 0 9 (nI f)) 0 10 (nI f)) h)) (by rfl) ?_
      refine bv_icmp_ne (j := 43) C rfl rfl (fun h => absurd (by rw [show (g 0 4) = nI Ln from hl]; exact ((nI_eq (a := f) (b := Ln) (by omega) (by omega)).mpr (by omega))) h) (fun _ => ?_)
      exact bv_vret C rfl hr ⟨by (rfl), by (unfold ntG; rw [hF, show ntB (g 3) Ln f = f from if_neg (by omega)])⟩
    · refine bv_blk C frk_X9 csk_X9 5 28 rfl (L1 := ([(0, .ref 0)] : Lc)) (st1 := ([.int (g 0 4), .int (nI f), .ref 0] : List Value)) (w1 := (layM (ug g 0 9 (nI f)) h)) (by rfl) ?_
      refine bv_icmp_ge (j := 34) C rfl rfl (fun h => absurd h (by rw [show (g 0 4) = nI Ln from hl]; exact (nI_ge (a := f) (b := Ln) (by omega) (by omega)))) (fun _ => ?_)
      refine bv_blk C frk_X9 csk_X9 4 33 rfl (L1 := ([(0, .ref 0)] : Lc)) (st1 := ([.int ((nI f) + (1)), .ref 0] : List Value)) (w1 := (layM (ug g 0 9 (nI f)) h)) (by rfl) ?_
      refine bv_goto (j := 36) C rfl rfl ?_
      refine bv_blk C frk_X9 csk_X9 1 37 rfl (L1 := ([(0, .ref 0)] : Lc)) (st1 := ([] : List Value)) (w1 := up2 (layM (ug g 0 9 (nI f)) h) 0 10 (.int ((nI f) + (1)))) (by rfl) ?_
      rw [lm_up rfl]
      refine bv_blk C frk_X9 csk_X9 4 41 rfl (L1 := ([(0, .ref 0)] : Lc)) (st1 := ([.int (g 0 4), .int (nI f)] : List Value)) (w1 := (layM (ug (ug g 0 9 (nI f)) 0 10 ((nI f) + (1))) h)) (by rfl) ?_
      refine bv_icmp_ne (j := 43) C rfl rfl (fun _ => ?_) (fun h => absurd h (by rw [show (g 0 4) = nI Ln from hl]; exact (fun z => absurd ((nI_eq (a := f) (b := Ln) (by omega) (by omega)).mp z) (by omega))))
      refine bv_blk C frk_X9 csk_X9 4 47 rfl (L1 := ([(0, .ref 0)] : Lc)) (st1 := ([.int (nI f), .ref 3] : List Value)) (w1 := (layM (ug (ug g 0 9 (nI f)) 0 10 ((nI f) + (1))) h)) (by rfl) ?_
      refine bv_iald C rfl rfl (by decide) (j := f) (by exact rfl) (by first | decide | omega) (by decide) (y := (g 3 f)) (by rfl) ?_
      refine bv_fS1 C rfl (ct_isSmall hE _ (g 3 f)) ml_X9_209 st_X9_isSmall ini_X9 cd_X9_isSmall ok_X9_isSmall rfl ⟨Nat.le_of_ble_eq_true rfl, Nat.le_of_ble_eq_true rfl⟩ ⟨Nat.zero_le _, Nat.zero_le _⟩ (rest := ([] : List Value)) rfl (Nat.le_of_ble_eq_true rfl) ?_
      refine bv_blk C frk_X9 csk_X9 5 54 rfl (L1 := ([(1, .int (b2i (smB (g 3 f)))), (0, .ref 0)] : Lc)) (st1 := ([.int (nI f), .ref 3] : List Value)) (w1 := (layM (ug (ug g 0 9 (nI f)) 0 10 ((nI f) + (1))) h)) (by rfl) ?_
      refine bv_iald C rfl rfl (by decide) (j := f) (by exact rfl) (by first | decide | omega) (by decide) (y := (g 3 f)) (by rfl) ?_
      refine bv_fS1 C rfl (ct_isDigit hE _ (g 3 f)) ml_X9_212 st_X9_isDigit ini_X9 cd_X9_isDigit ok_X9_isDigit rfl ⟨Nat.le_of_ble_eq_true rfl, Nat.le_of_ble_eq_true rfl⟩ ⟨Nat.zero_le _, Nat.zero_le _⟩ (rest := ([] : List Value)) rfl (Nat.le_of_ble_eq_true rfl) ?_
      refine bv_blk C frk_X9 csk_X9 1 57 rfl (L1 := ([(2, .int (b2i (dgB (g 3 f)))), (1, .int (b2i (smB (g 3 f)))), (0, .ref 0)] : Lc)) (st1 := ([] : List Value)) (w1 := (layM (ug (ug g 0 9 (nI f)) 0 10 ((nI f) + (1))) h)) (by rfl) ?_
      have lp2 : ∀ (q b : Nat), b + q = Ln → f < b → exF (g 3) f q b = ntB (g 3) Ln f → bV p l e (bR 2) s0 m args below meth c D cA shM (adA ad 9) 3 tb_X9_nextToken (MQ below (bQ D cA ad shM 9 (fun r w1 => r = none ∧ w1 = (layM (ntG Ln b0 g) h))) args s0 0 0 (adA ad 9)) ad 9 0 0 (layM (ug (ug g 0 9 (nI f)) 0 10 (nI b)) h) 57 ([(0, .ref 0), (1, .int (b2i (smB (g 3 f)))), (2, .int (b2i (dgB (g 3 f))))] : Lc) ([] : List Value) := by
        intro q
        induction q with
        | zero =>
          intro b hb2 hfb heq
          rw [exF_0] at heq
          refine bv_blk C frk_X9 csk_X9 4 61 rfl (L1 := ([(0, .ref 0), (1, .int (b2i (smB (g 3 f)))), (2, .int (b2i (dgB (g 3 f))))] : Lc)) (st1 := ([.int (g 0 4), .int (nI b)] : List Value)) (w1 := (layM (ug (ug g 0 9 (nI f)) 0 10 (nI b)) h)) (by rfl) ?_
          refine bv_icmp_ge (j := 87) C rfl rfl (fun _ => ?_) (fun h => absurd (by rw [show (g 0 4) = nI Ln from hl]; exact (nI_le (a := Ln) (b := b) (by omega) (by omega))) h)
          exact bv_vret C rfl hr ⟨by (rfl), by (unfold ntG; rw [hF, ← heq])⟩
        | succ q ih =>
          intro b hb2 hfb heq
          refine bv_blk C frk_X9 csk_X9 4 61 rfl (L1 := ([(0, .ref 0), (1, .int (b2i (smB (g 3 f)))), (2, .int (b2i (dgB (g 3 f))))] : Lc)) (st1 := ([.int (g 0 4), .int (nI b)] : List Value)) (w1 := (layM (ug (ug g 0 9 (nI f)) 0 10 (nI b)) h)) (by rfl) ?_
          refine bv_icmp_ge (j := 87) C rfl rfl (fun h => absurd h (by rw [show (g 0 4) = nI Ln from hl]; exact (nI_ge (a := b) (b := Ln) (by omega) (by omega)))) (fun _ => ?_)
          refine bv_blk C frk_X9 csk_X9 1 63 rfl (L1 := ([(0, .ref 0), (1, .int (b2i (smB (g 3 f)))), (2, .int (b2i (dgB (g 3 f))))] : Lc)) (st1 := ([.int (b2i (smB (g 3 f)))] : List Value)) (w1 := (layM (ug (ug g 0 9 (nI f)) 0 10 (nI b)) h)) (by rfl) ?_
          refine bv_if_eq (j := 71) C rfl rfl (fun c7 => ?_) (fun c7 => ?_)
          · refine bv_blk C frk_X9 csk_X9 1 72 rfl (L1 := ([(0, .ref 0), (1, .int (b2i (smB (g 3 f)))), (2, .int (b2i (dgB (g 3 f))))] : Lc)) (st1 := ([.int (b2i (dgB (g 3 f)))] : List Value)) (w1 := (layM (ug (ug g 0 9 (nI f)) 0 10 (nI b)) h)) (by rfl) ?_
            refine bv_if_eq (j := 87) C rfl rfl (fun c8 => ?_) (fun c8 => ?_)
            · exact bv_vret C rfl hr ⟨by (rfl), by (unfold ntG; rw [hF, ← heq, exF_f (show exC (g 3) f b = false by simp [exC, b2i_0 c7, b2i_0 c8])])⟩
            · refine bv_blk C frk_X9 csk_X9 4 77 rfl (L1 := ([(0, .ref 0), (1, .int (b2i (smB (g 3 f)))), (2, .int (b2i (dgB (g 3 f))))] : Lc)) (st1 := ([.int (nI b), .ref 3] : List Value)) (w1 := (layM (ug (ug g 0 9 (nI f)) 0 10 (nI b)) h)) (by rfl) ?_
              refine bv_iald C rfl rfl (by decide) (j := b) (by exact rfl) (by first | decide | omega) (by decide) (y := (g 3 b)) (by rfl) ?_
              refine bv_fS1 C rfl (ct_isDigit hE _ (g 3 b)) ml_X9_212 st_X9_isDigit ini_X9 cd_X9_isDigit ok_X9_isDigit rfl ⟨Nat.le_of_ble_eq_true rfl, Nat.le_of_ble_eq_true rfl⟩ ⟨Nat.zero_le _, Nat.zero_le _⟩ (rest := ([] : List Value)) rfl (Nat.le_of_ble_eq_true rfl) ?_
              refine bv_if_eq (j := 87) C rfl rfl (fun c9 => ?_) (fun c9 => ?_)
              · exact bv_vret C rfl hr ⟨by (rfl), by (unfold ntG; rw [hF, ← heq, exF_f (show exC (g 3) f b = false by simp [exC, b2i_0 c7, b2i_1 c8, b2i_0 c9])])⟩
              · refine bv_blk C frk_X9 csk_X9 6 86 rfl (L1 := ([(0, .ref 0), (1, .int (b2i (smB (g 3 f)))), (2, .int (b2i (dgB (g 3 f))))] : Lc)) (st1 := ([] : List Value)) (w1 := up2 (layM (ug (ug g 0 9 (nI f)) 0 10 (nI b)) h) 0 10 (.int ((nI b) + (1)))) (by rfl) ?_
                rw [lm_up rfl]
                refine bv_goto (j := 57) C rfl rfl ?_
                have hc : exC (g 3) f b = true := by simp [exC, b2i_0 c7, b2i_1 c8, b2i_1 c9]
                refine bv_weq (show (layM (ug (ug (ug g 0 9 (nI f)) 0 10 (nI b)) 0 10 ((nI b) + (1))) h) = (layM (ug (ug g 0 9 (nI f)) 0 10 (nI (b + 1))) h) from by rw [ug_ug, show ((nI b) + (1)) = nI (b + 1) from (nIa rfl rfl)]) ?_
                refine bv_sub [0, 1, 2] (by rfl) ?_
                exact ih (b + 1) (by omega) (by omega) (by rw [← heq, exF_t hc])
          · refine bv_blk C frk_X9 csk_X9 4 68 rfl (L1 := ([(0, .ref 0), (1, .int (b2i (smB (g 3 f)))), (2, .int (b2i (dgB (g 3 f))))] : Lc)) (st1 := ([.int (nI b), .ref 3] : List Value)) (w1 := (layM (ug (ug g 0 9 (nI f)) 0 10 (nI b)) h)) (by rfl) ?_
            refine bv_iald C rfl rfl (by decide) (j := b) (by exact rfl) (by first | decide | omega) (by decide) (y := (g 3 b)) (by rfl) ?_
            refine bv_fS1 C rfl (ct_isSmall hE _ (g 3 b)) ml_X9_209 st_X9_isSmall ini_X9 cd_X9_isSmall ok_X9_isSmall rfl ⟨Nat.le_of_ble_eq_true rfl, Nat.le_of_ble_eq_true rfl⟩ ⟨Nat.zero_le _, Nat.zero_le _⟩ (rest := ([] : List Value)) rfl (Nat.le_of_ble_eq_true rfl) ?_
            refine bv_if_ne (j := 80) C rfl rfl (fun c10 => ?_) (fun c10 => ?_)
            · refine bv_blk C frk_X9 csk_X9 6 86 rfl (L1 := ([(0, .ref 0), (1, .int (b2i (smB (g 3 f)))), (2, .int (b2i (dgB (g 3 f))))] : Lc)) (st1 := ([] : List Value)) (w1 := up2 (layM (ug (ug g 0 9 (nI f)) 0 10 (nI b)) h) 0 10 (.int ((nI b) + (1)))) (by rfl) ?_
              rw [lm_up rfl]
              refine bv_goto (j := 57) C rfl rfl ?_
              have hc : exC (g 3) f b = true := by simp [exC, b2i_1 c7, b2i_1 c10]
              refine bv_weq (show (layM (ug (ug (ug g 0 9 (nI f)) 0 10 (nI b)) 0 10 ((nI b) + (1))) h) = (layM (ug (ug g 0 9 (nI f)) 0 10 (nI (b + 1))) h) from by rw [ug_ug, show ((nI b) + (1)) = nI (b + 1) from (nIa rfl rfl)]) ?_
              refine bv_sub [0, 1, 2] (by rfl) ?_
              exact ih (b + 1) (by omega) (by omega) (by rw [← heq, exF_t hc])
            · refine bv_blk C frk_X9 csk_X9 1 72 rfl (L1 := ([(0, .ref 0), (1, .int (b2i (smB (g 3 f)))), (2, .int (b2i (dgB (g 3 f))))] : Lc)) (st1 := ([.int (b2i (dgB (g 3 f)))] : List Value)) (w1 := (layM (ug (ug g 0 9 (nI f)) 0 10 (nI b)) h)) (by rfl) ?_
              refine bv_if_eq (j := 87) C rfl rfl (fun c11 => ?_) (fun c11 => ?_)
              · exact bv_vret C rfl hr ⟨by (rfl), by (unfold ntG; rw [hF, ← heq, exF_f (show exC (g 3) f b = false by simp [exC, b2i_1 c7, b2i_0 c10, b2i_0 c11])])⟩
              · refine bv_blk C frk_X9 csk_X9 4 77 rfl (L1 := ([(0, .ref 0), (1, .int (b2i (smB (g 3 f)))), (2, .int (b2i (dgB (g 3 f))))] : Lc)) (st1 := ([.int (nI b), .ref 3] : List Value)) (w1 := (layM (ug (ug g 0 9 (nI f)) 0 10 (nI b)) h)) (by rfl) ?_
                refine bv_iald C rfl rfl (by decide) (j := b) (by exact rfl) (by first | decide | omega) (by decide) (y := (g 3 b)) (by rfl) ?_
                refine bv_fS1 C rfl (ct_isDigit hE _ (g 3 b)) ml_X9_212 st_X9_isDigit ini_X9 cd_X9_isDigit ok_X9_isDigit rfl ⟨Nat.le_of_ble_eq_true rfl, Nat.le_of_ble_eq_true rfl⟩ ⟨Nat.zero_le _, Nat.zero_le _⟩ (rest := ([] : List Value)) rfl (Nat.le_of_ble_eq_true rfl) ?_
                refine bv_if_eq (j := 87) C rfl rfl (fun c12 => ?_) (fun c12 => ?_)
                · exact bv_vret C rfl hr ⟨by (rfl), by (unfold ntG; rw [hF, ← heq, exF_f (show exC (g 3) f b = false by simp [exC, b2i_1 c7, b2i_0 c10, b2i_1 c11, b2i_0 c12])])⟩
                · refine bv_blk C frk_X9 csk_X9 6 86 rfl (L1 := ([(0, .ref 0), (1, .int (b2i (smB (g 3 f)))), (2, .int (b2i (dgB (g 3 f))))] : Lc)) (st1 := ([] : List Value)) (w1 := up2 (layM (ug (ug g 0 9 (nI f)) 0 10 (nI b)) h) 0 10 (.int ((nI b) + (1)))) (by rfl) ?_
                  rw [lm_up rfl]
                  refine bv_goto (j := 57) C rfl rfl ?_
                  have hc : exC (g 3) f b = true := by simp [exC, b2i_1 c7, b2i_0 c10, b2i_1 c11, b2i_1 c12]
                  refine bv_weq (show (layM (ug (ug (ug g 0 9 (nI f)) 0 10 (nI b)) 0 10 ((nI b) + (1))) h) = (layM (ug (ug g 0 9 (nI f)) 0 10 (nI (b + 1))) h) from by rw [ug_ug, show ((nI b) + (1)) = nI (b + 1) from (nIa rfl rfl)]) ?_
                  refine bv_sub [0, 1, 2] (by rfl) ?_
                  exact ih (b + 1) (by omega) (by omega) (by rw [← heq, exF_t hc])
      refine bv_weq (show (layM (ug (ug g 0 9 (nI f)) 0 10 ((nI f) + (1))) h) = (layM (ug (ug g 0 9 (nI f)) 0 10 (nI (f + 1))) h) from by rw [show ((nI f) + (1)) = nI (f + 1) from (nIa rfl rfl)]) ?_
      refine bv_sub [2, 1, 0] (by rfl) ?_
      exact lp2 (Ln - (f + 1)) (f + 1) (by omega) (by omega) (by unfold ntB; rw [if_pos hq])
  have lp : ∀ (q f : Nat), f + q = Ln → skF (g 3) q f = ntF (g 3) Ln b0 → bV p l e (bR 2) s0 m args below meth c D cA shM (adA ad 9) 3 tb_X9_nextToken (MQ below (bQ D cA ad shM 9 (fun r w1 => r = none ∧ w1 = (layM (ntG Ln b0 g) h))) args s0 0 0 (adA ad 9)) ad 9 0 0 (layM (ug g 0 9 (nI f)) h) 4 ([(0, .ref 0)] : Lc) ([] : List Value) := by
    intro q
    induction q with
    | zero =>
      intro f hf heq
      rw [skF_0] at heq
      refine bv_blk C frk_X9 csk_X9 4 8 rfl (L1 := ([(0, .ref 0)] : Lc)) (st1 := ([.int (g 0 4), .int (nI f)] : List Value)) (w1 := (layM (ug g 0 9 (nI f)) h)) (by rfl) ?_
      refine bv_icmp_ge (j := 23) C rfl rfl (fun _ => ?_) (fun h => absurd (by rw [show (g 0 4) = nI Ln from hl]; exact (nI_le (a := Ln) (b := f) (by omega) (by omega))) h)
      refine bv_sub [0] (by rfl) ?_
      exact ex f (by omega) heq.symm
    | succ q ih =>
      intro f hf heq
      refine bv_blk C frk_X9 csk_X9 4 8 rfl (L1 := ([(0, .ref 0)] : Lc)) (st1 := ([.int (g 0 4), .int (nI f)] : List Value)) (w1 := (layM (ug g 0 9 (nI f)) h)) (by rfl) ?_
      refine bv_icmp_ge (j := 23) C rfl rfl (fun h => absurd h (by rw [show (g 0 4) = nI Ln from hl]; exact (nI_ge (a := f) (b := Ln) (by omega) (by omega)))) (fun _ => ?_)
      refine bv_blk C frk_X9 csk_X9 4 13 rfl (L1 := ([(0, .ref 0)] : Lc)) (st1 := ([.int (nI f), .ref 3] : List Value)) (w1 := (layM (ug g 0 9 (nI f)) h)) (by rfl) ?_
      refine bv_iald C rfl rfl (by decide) (j := f) (by exact rfl) (by first | decide | omega) (by decide) (y := (g 3 f)) (by rfl) ?_
      refine bv_blk C frk_X9 csk_X9 1 15 rfl (L1 := ([(0, .ref 0)] : Lc)) (st1 := ([.int (32), .int (g 3 f)] : List Value)) (w1 := (layM (ug g 0 9 (nI f)) h)) (by rfl) ?_
      refine bv_icmp_ne (j := 23) C rfl rfl (fun c15 => ?_) (fun c15 => ?_)
      · refine bv_sub [0] (by rfl) ?_
        exact ex f (by omega) (by rw [← heq, skF_f c15])
      · refine bv_blk C frk_X9 csk_X9 6 22 rfl (L1 := ([(0, .ref 0)] : Lc)) (st1 := ([] : List Value)) (w1 := up2 (layM (ug g 0 9 (nI f)) h) 0 9 (.int ((nI f) + (1)))) (by rfl) ?_
        rw [lm_up rfl]
        refine bv_goto (j := 4) C rfl rfl ?_
        refine bv_weq (show (layM (ug (ug g 0 9 (nI f)) 0 9 ((nI f) + (1))) h) = (layM (ug g 0 9 (nI (f + 1))) h) from by rw [ug_ug, show ((nI f) + (1)) = nI (f + 1) from (nIa rfl rfl)]) ?_
        refine bv_sub [0] (by rfl) ?_
        exact ih (f + 1) (by omega) (by rw [← heq, skF_t c15])
  refine bv_weq (show (layM (ug g 0 9 (g 0 10)) h) = (layM (ug g 0 9 (nI b0)) h) from by rw [show g 0 10 = nI b0 from hb]) ?_
  refine bv_sub [0] (by rfl) ?_
  exact lp (Ln - b0) b0 (by omega) rfl
