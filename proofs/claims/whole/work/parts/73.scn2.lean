def wsL (k : Nat) (t : Nat → Int32) (f : Nat) : Nat → Nat → Bool
  | 0, _ => true
  | q + 1, j => if t (f + j) = (sByt.getD k []).getD j 0 then wsL k t f q (j + 1) else false
theorem wsL_0 {k : Nat} {t : Nat → Int32} {f j : Nat} : wsL k t f 0 j = true := rfl
theorem wsL_t {k : Nat} {t : Nat → Int32} {f q j : Nat} (h : t (f + j) = (sByt.getD k []).getD j 0) : wsL k t f (q + 1) j = wsL k t f q (j + 1) := if_pos h
theorem wsL_f {k : Nat} {t : Nat → Int32} {f q j : Nat} (h : ¬ t (f + j) = (sByt.getD k []).getD j 0) : wsL k t f (q + 1) j = false := if_neg h
def wsB (k : Nat) (t : Nat → Int32) (f b : Nat) : Bool := if b - f = sLen.getD k 0 then wsL k t f (sLen.getD k 0) 0 else false
set_option maxRecDepth 100000 in
set_option maxHeartbeats 8000000 in
theorem sc_atEnd {l : Launch} {D : va_G} {cA : FieldType → ClassId} {z0 : Nat} {SK SV : Nat → Nat} {ad : Nat → Nat} (hE : aD (fun q => z0 ≤ q) ad 26) (g : Nat → Nat → Int32) (σ τ : Nat → Nat) (hσ : pmK σ τ) (Ln f b : Nat) (ht : tokI g Ln f b) : bF l D cA z0 SK SV ad shB 26 yX5_atEnd cX5_atEnd 1 (some .boolean) 0 [.ref 24] (layB g σ τ) (some (.int (b2i (decide (Ln ≤ f))))) (layB g σ τ) := by
  refine bCT_intro (tb := tb_X5_atEnd) (own := RX5) hE pn_X5 rfl tk_X5_atEnd rfl (Nat.le_of_ble_eq_true rfl) ?_
  intro p e s0 m args below meth c C hr
  obtain ⟨hl, hL, hf, hb, hfb, hbL, hfl⟩ := ht
  rcases (by omega : Ln ≤ f ∨ f < Ln) with hq0 | hq0
  · refine bv_blk C frk_X5 csk_X5 4 4 rfl (L1 := ([(0, .ref 24)] : Lc)) (st1 := ([.int (g 0 4), .int (g 0 9)] : List Value)) (w1 := (layB g σ τ)) (by rfl) ?_
    refine bv_icmp_lt (j := 7) C rfl rfl (fun h => absurd h (by rw [show (g 0 4) = nI Ln from hl]; exact (by rw [show (g 0 9) = nI f from hf]; exact (nI_nlt (a := f) (b := Ln) (by omega) (by omega))))) (fun _ => ?_)
    refine bv_blk C frk_X5 csk_X5 1 6 rfl (L1 := ([(0, .ref 24)] : Lc)) (st1 := ([.int (1)] : List Value)) (w1 := (layB g σ τ)) (by rfl) ?_
    refine bv_goto (j := 8) C rfl rfl ?_
    exact bv_iret C rfl hr rfl ⟨by (exact congrArg (fun x => some (Value.int (b2i x))) (decide_eq_true hq0).symm), by (rfl)⟩
  · refine bv_blk C frk_X5 csk_X5 4 4 rfl (L1 := ([(0, .ref 24)] : Lc)) (st1 := ([.int (g 0 4), .int (g 0 9)] : List Value)) (w1 := (layB g σ τ)) (by rfl) ?_
    refine bv_icmp_lt (j := 7) C rfl rfl (fun _ => ?_) (fun h => absurd (by rw [show (g 0 4) = nI Ln from hl]; exact (by rw [show (g 0 9) = nI f from hf]; exact (nI_lt (a := f) (b := Ln) (by omega) (by omega)))) h)
    refine bv_blk C frk_X5 csk_X5 1 8 rfl (L1 := ([(0, .ref 24)] : Lc)) (st1 := ([.int (0)] : List Value)) (w1 := (layB g σ τ)) (by rfl) ?_
    exact bv_iret C rfl hr rfl ⟨by (exact congrArg (fun x => some (Value.int (b2i x))) (decide_eq_false (show ¬ Ln ≤ f by omega)).symm), by (rfl)⟩
set_option maxRecDepth 100000 in
set_option maxHeartbeats 8000000 in
theorem sc_isWord {l : Launch} {D : va_G} {cA : FieldType → ClassId} {z0 : Nat} {SK SV : Nat → Nat} {ad : Nat → Nat} (hE : aD (fun q => z0 ≤ q) ad 26) (g : Nat → Nat → Int32) (σ τ : Nat → Nat) (hσ : pmK σ τ) (Ln f b k : Nat) (ht : tokI g Ln f b) (hk : k < 8) (hK : adK ad SK SV) : bF l D cA z0 SK SV ad shB 26 yX5_isWord cX5_isWord 3 (some .boolean) 5 [.ref 24, .ref (200 + k)] (layB g σ τ) (some (.int (b2i (wsB k (g 3) f b)))) (layB g σ τ) := by
  refine bCT_intro (tb := tb_X5_isWord) (own := RX5) hE pn_X5 rfl tk_X5_isWord rfl (Nat.le_of_ble_eq_true rfl) ?_
  intro p e s0 m args below meth c C hr
  obtain ⟨hl, hL, hf, hb, hfb, hbL, hfl⟩ := ht
  have hsl := sLen_le k hk
  rcases (by omega : b - f = sLen.getD k 0 ∨ ¬ b - f = sLen.getD k 0) with hq0 | hq0
  · refine bv_blk C frk_X5 csk_X5 6 6 rfl (L1 := ([(0, .ref 24), (1, .ref (200 + k))] : Lc)) (st1 := ([.ref (200 + k), .int ((g 0 10) - (g 0 9))] : List Value)) (w1 := (layB g σ τ)) (by rfl) ?_
    refine bv_callK (k := k) C rfl (cs_slen hE _ k hK hk) ml_X5_60 im_J0_length_8abf5 sel_J0_length_8abf5 ini_J0 cd_J0_length_8abf5 ok_J0_length_8abf5 rfl ⟨Nat.le_of_ble_eq_true rfl, Nat.le_of_ble_eq_true rfl⟩ ⟨Nat.zero_le _, Nat.zero_le _⟩ hK hk rfl (rest := ([.int ((g 0 10) - (g 0 9))] : List Value)) rfl (Nat.le_of_ble_eq_true rfl) ?_
    refine bv_icmp_eq (j := 10) C rfl rfl (fun _ => ?_) (fun h => absurd (by rw [show ((g 0 10) - (g 0 9)) = nI (b - f) from (nIs hb hf (by omega))]; exact ((nI_eq (a := (b - f)) (b := (sLen.getD k 0)) (by omega) (by omega)).mpr (by omega))) h)
    refine bv_blk C frk_X5 csk_X5 2 12 rfl (L1 := ([(2, .int (0)), (0, .ref 24), (1, .ref (200 + k))] : Lc)) (st1 := ([] : List Value)) (w1 := (layB g σ τ)) (by rfl) ?_
    have lp : ∀ (q j : Nat), j + q = sLen.getD k 0 → wsL k (g 3) f q j = wsB k (g 3) f b → bV p l e (bR 5) s0 m args below meth c D cA shB (adA ad 26) 3 tb_X5_isWord (MQ below (bQ D cA ad shB 26 (fun r w1 => r = (some (.int (b2i (wsB k (g 3) f b)))) ∧ w1 = (layB g σ τ))) args s0 0 0 (adA ad 26)) ad 26 0 0 (layB g σ τ) 12 ([(2, .int (nI j)), (0, .ref 24), (1, .ref (200 + k))] : Lc) ([] : List Value) := by
      intro q
      induction q with
      | zero =>
        intro j hj heq
        rw [wsL_0] at heq
        refine bv_blk C frk_X5 csk_X5 2 14 rfl (L1 := ([(2, .int (nI j)), (0, .ref 24), (1, .ref (200 + k))] : Lc)) (st1 := ([.ref (200 + k), .int (nI j)] : List Value)) (w1 := (layB g σ τ)) (by rfl) ?_
        refine bv_callK (k := k) C rfl (cs_slen hE _ k hK hk) ml_X5_60 im_J0_length_8abf5 sel_J0_length_8abf5 ini_J0 cd_J0_length_8abf5 ok_J0_length_8abf5 rfl ⟨Nat.le_of_ble_eq_true rfl, Nat.le_of_ble_eq_true rfl⟩ ⟨Nat.zero_le _, Nat.zero_le _⟩ hK hk rfl (rest := ([.int (nI j)] : List Value)) rfl (Nat.le_of_ble_eq_true rfl) ?_
        refine bv_icmp_ge (j := 30) C rfl rfl (fun _ => ?_) (fun h => absurd (nI_le (a := (sLen.getD k 0)) (b := j) (by omega) (by omega)) h)
        refine bv_blk C frk_X5 csk_X5 1 31 rfl (L1 := ([(2, .int (nI j)), (0, .ref 24), (1, .ref (200 + k))] : Lc)) (st1 := ([.int (1)] : List Value)) (w1 := (layB g σ τ)) (by rfl) ?_
        exact bv_iret C rfl hr rfl ⟨by (rw [← heq]; rfl), by (rfl)⟩
      | succ q ih =>
        intro j hj heq
        refine bv_blk C frk_X5 csk_X5 2 14 rfl (L1 := ([(2, .int (nI j)), (0, .ref 24), (1, .ref (200 + k))] : Lc)) (st1 := ([.ref (200 + k), .int (nI j)] : List Value)) (w1 := (layB g σ τ)) (by rfl) ?_
        refine bv_callK (k := k) C rfl (cs_slen hE _ k hK hk) ml_X5_60 im_J0_length_8abf5 sel_J0_length_8abf5 ini_J0 cd_J0_length_8abf5 ok_J0_length_8abf5 rfl ⟨Nat.le_of_ble_eq_true rfl, Nat.le_of_ble_eq_true rfl⟩ ⟨Nat.zero_le _, Nat.zero_le _⟩ hK hk rfl (rest := ([.int (nI j)] : List Value)) rfl (Nat.le_of_ble_eq_true rfl) ?_
        refine bv_icmp_ge (j := 30) C rfl rfl (fun h => absurd h (nI_ge (a := j) (b := (sLen.getD k 0)) (by omega) (by omega))) (fun _ => ?_)
        refine bv_blk C frk_X5 csk_X5 5 21 rfl (L1 := ([(2, .int (nI j)), (0, .ref 24), (1, .ref (200 + k))] : Lc)) (st1 := ([.int ((g 0 9) + (nI j)), .ref 24] : List Value)) (w1 := (layB g σ τ)) (by rfl) ?_
        refine bv_fV1 C rfl (sc_at_lt hE g σ τ hσ Ln (f + j) hl hL (by omega)) ml_X5_49 im_X5_at sel_X5_at ini_X5 cd_X5_at ok_X5_at rfl ⟨Nat.le_of_ble_eq_true rfl, Nat.le_of_ble_eq_true rfl⟩ ⟨Nat.zero_le _, Nat.zero_le _⟩ (by decide) rfl rfl rfl (rest := ([] : List Value)) (by first | (rw [show ((g 0 9) + (nI j)) = nI (f + j) from (nIa hf rfl)]; done) | (rw [show ((g 0 9) + (nI j)) = nI (f + j) from (nIa hf rfl)]; rfl)) (Nat.le_of_ble_eq_true rfl) ?_
        refine bv_blk C frk_X5 csk_X5 2 24 rfl (L1 := ([(2, .int (nI j)), (0, .ref 24), (1, .ref (200 + k))] : Lc)) (st1 := ([.int (nI j), .ref (200 + k), .int (g 3 (f + j))] : List Value)) (w1 := (layB g σ τ)) (by rfl) ?_
        refine bv_callK (k := k) C rfl (cs_charAt hE _ k j hK hk (by omega)) ml_X5_65 im_J0_charAt_5068e sel_J0_charAt_5068e ini_J0 cd_J0_charAt_5068e ok_J0_charAt_5068e rfl ⟨Nat.le_of_ble_eq_true rfl, Nat.le_of_ble_eq_true rfl⟩ ⟨Nat.zero_le _, Nat.zero_le _⟩ hK hk rfl (rest := ([.int (g 3 (f + j))] : List Value)) rfl (Nat.le_of_ble_eq_true rfl) ?_
        refine bv_icmp_eq (j := 28) C rfl rfl (fun c4 => ?_) (fun c4 => ?_)
        · refine bv_blk C frk_X5 csk_X5 1 29 rfl (L1 := ([(2, .int ((nI j) + Int32.ofInt 1)), (0, .ref 24), (1, .ref (200 + k))] : Lc)) (st1 := ([] : List Value)) (w1 := (layB g σ τ)) (by rfl) ?_
          rw [show ((nI j) + Int32.ofInt 1) = nI (j + 1) from (nIi rfl)]
          refine bv_goto (j := 12) C rfl rfl ?_
          refine bv_sub [0, 1, 2] (by rfl) ?_
          exact ih (j + 1) (by omega) (by rw [← heq, wsL_t c4])
        · refine bv_blk C frk_X5 csk_X5 1 27 rfl (L1 := ([(2, .int (nI j)), (0, .ref 24), (1, .ref (200 + k))] : Lc)) (st1 := ([.int (0)] : List Value)) (w1 := (layB g σ τ)) (by rfl) ?_
          exact bv_iret C rfl hr rfl ⟨by (rw [← heq, wsL_f c4]; rfl), by (rfl)⟩
    refine bv_sub [0, 1, 2] (by rfl) ?_
    exact lp (sLen.getD k 0) 0 (by omega) (by unfold wsB; rw [if_pos hq0])
  · refine bv_blk C frk_X5 csk_X5 6 6 rfl (L1 := ([(0, .ref 24), (1, .ref (200 + k))] : Lc)) (st1 := ([.ref (200 + k), .int ((g 0 10) - (g 0 9))] : List Value)) (w1 := (layB g σ τ)) (by rfl) ?_
    refine bv_callK (k := k) C rfl (cs_slen hE _ k hK hk) ml_X5_60 im_J0_length_8abf5 sel_J0_length_8abf5 ini_J0 cd_J0_length_8abf5 ok_J0_length_8abf5 rfl ⟨Nat.le_of_ble_eq_true rfl, Nat.le_of_ble_eq_true rfl⟩ ⟨Nat.zero_le _, Nat.zero_le _⟩ hK hk rfl (rest := ([.int ((g 0 10) - (g 0 9))] : List Value)) rfl (Nat.le_of_ble_eq_true rfl) ?_
    refine bv_icmp_eq (j := 10) C rfl rfl (fun h => absurd h (by rw [show ((g 0 10) - (g 0 9)) = nI (b - f) from (nIs hb hf (by omega))]; exact (fun z => absurd ((nI_eq (a := (b - f)) (b := (sLen.getD k 0)) (by omega) (by omega)).mp z) (by omega)))) (fun _ => ?_)
    refine bv_blk C frk_X5 csk_X5 1 9 rfl (L1 := ([(0, .ref 24), (1, .ref (200 + k))] : Lc)) (st1 := ([.int (0)] : List Value)) (w1 := (layB g σ τ)) (by rfl) ?_
    exact bv_iret C rfl hr rfl ⟨by (rw [show wsB k (g 3) f b = false from if_neg hq0]; rfl), by (rfl)⟩
def sc_reject_w  (g : Nat → Nat → Int32) : Nat → Nat → Int32 := (if (g 0 20) = (-100000) then (ug g 0 20 (g 0 9)) else g)
set_option maxRecDepth 100000 in
set_option maxHeartbeats 8000000 in
theorem sc_reject {l : Launch} {D : va_G} {cA : FieldType → ClassId} {z0 : Nat} {SK SV : Nat → Nat} {ad : Nat → Nat} (hE : aD (fun q => z0 ≤ q) ad 26) (g : Nat → Nat → Int32) (σ τ : Nat → Nat) (hσ : pmK σ τ)  : bF l D cA z0 SK SV ad shB 26 yX5_reject cX5_reject 1 none 0 [.ref 24] (layB g σ τ) none (layB (sc_reject_w  g) σ τ) := by
  refine bCT_intro (tb := tb_X5_reject) (own := RX5) hE pn_X5 rfl tk_X5_reject rfl (Nat.le_of_ble_eq_true rfl) ?_
  intro p e s0 m args below meth c C hr
  refine bv_blk C frk_X5 csk_X5 3 3 rfl (L1 := ([(0, .ref 24)] : Lc)) (st1 := ([.int (-100000), .int (g 0 20)] : List Value)) (w1 := (layB g σ τ)) (by rfl) ?_
  refine bv_icmp_ne (j := 8) C rfl rfl (fun c1 => ?_) (fun c1 => ?_)
  · exact bv_vret C rfl hr ⟨by (rfl), by (exact congrArg (fun x => (layB x σ τ)) (((if_neg c1).trans rfl)).symm)⟩
  · refine bv_blk C frk_X5 csk_X5 4 8 rfl (L1 := ([(0, .ref 24)] : Lc)) (st1 := ([] : List Value)) (w1 := up2 (layB g σ τ) 24 4 (.int (g 0 9))) (by rfl) ?_
    refine bv_w (lb_up (o := 24) (k := 4) (a := 0) (b := 20) hσ (by decide) (by decide) (by rfl) (by rfl)) ?_
    exact bv_vret C rfl hr ⟨by (rfl), by (exact congrArg (fun x => (layB x σ τ)) (((if_pos c1).trans rfl)).symm)⟩
def iwS (k : Nat) (g : Nat → Nat → Int32) : Bool := wsB k (g 3) (cl (g 0 9)) (cl (g 0 10))
theorem sd_next {l : Launch} {D : va_G} {cA : FieldType → ClassId} {z0 : Nat} {SK SV : Nat → Nat} {ad : Nat → Nat} (hE : aD (fun q => z0 ≤ q) ad 26) (g : Nat → Nat → Int32) (σ τ : Nat → Nat) (hσ : pmK σ τ)  (ht : tkI g) : bF l D cA z0 SK SV ad shB 26 yX5_nextToken cX5_nextToken 3 none 1 [.ref 24] (layB g σ τ) none (layB (nxW g) σ τ) := sc_nextToken hE g σ τ hσ _ _ (tk_cl ht).1 (tk_cl ht).2.1 (tk_cl ht).2.2.2.1 (tk_cl ht).2.2.2.2.2.1
theorem sd_word {l : Launch} {D : va_G} {cA : FieldType → ClassId} {z0 : Nat} {SK SV : Nat → Nat} {ad : Nat → Nat} (hE : aD (fun q => z0 ≤ q) ad 26) (g : Nat → Nat → Int32) (σ τ : Nat → Nat) (hσ : pmK σ τ) (k : Nat) (ht : tkI g) (hk : k < 8) (hK : adK ad SK SV) : bF l D cA z0 SK SV ad shB 26 yX5_isWord cX5_isWord 3 (some .boolean) 5 [.ref 24, .ref (200 + k)] (layB g σ τ) (some (.int (b2i (iwS k g)))) (layB g σ τ) := sc_isWord hE g σ τ hσ _ _ _ k (tk_cl ht) hk hK
theorem sd_atEnd {l : Launch} {D : va_G} {cA : FieldType → ClassId} {z0 : Nat} {SK SV : Nat → Nat} {ad : Nat → Nat} (hE : aD (fun q => z0 ≤ q) ad 26) (g : Nat → Nat → Int32) (σ τ : Nat → Nat) (hσ : pmK σ τ)  (ht : tkI g) : bF l D cA z0 SK SV ad shB 26 yX5_atEnd cX5_atEnd 1 (some .boolean) 0 [.ref 24] (layB g σ τ) (some (.int (b2i (decide (cl (g 0 4) ≤ cl (g 0 9)))))) (layB g σ τ) := sc_atEnd hE g σ τ hσ _ _ _ (tk_cl ht)
theorem tk_rj {g : Nat → Nat → Int32} (h : tkI g) : tkI (sc_reject_w g) := by
  unfold sc_reject_w
  split
  · exact tk_ug (by omega) h
  · exact h
def sc_takeWord_r (k : Nat) (g : Nat → Nat → Int32) : Int32 := (if (g 0 20) = (-100000) then (if (b2i (iwS k g)) = 0 then (0) else (1)) else (0))
def sc_takeWord_w (k : Nat) (g : Nat → Nat → Int32) : Nat → Nat → Int32 := (if (g 0 20) = (-100000) then (if (b2i (iwS k g)) = 0 then g else (nxW g)) else g)
set_option maxRecDepth 100000 in
set_option maxHeartbeats 8000000 in
theorem sc_takeWord {l : Launch} {D : va_G} {cA : FieldType → ClassId} {z0 : Nat} {SK SV : Nat → Nat} {ad : Nat → Nat} (hE : aD (fun q => z0 ≤ q) ad 26) (g : Nat → Nat → Int32) (σ τ : Nat → Nat) (hσ : pmK σ τ) (k : Nat) (ht : tkI g) (hk : k < 8) (hK : adK ad SK SV) : bF l D cA z0 SK SV ad shB 26 yX5_takeWord cX5_takeWord 2 (some .boolean) 6 [.ref 24, .ref (200 + k)] (layB g σ τ) (some (.int (sc_takeWord_r k g))) (layB (sc_takeWord_w k g) σ τ) := by
  refine bCT_intro (tb := tb_X5_takeWord) (own := RX5) hE pn_X5 rfl tk_X5_takeWord rfl (Nat.le_of_ble_eq_true rfl) ?_
  intro p e s0 m args below meth c C hr
  refine bv_blk C frk_X5 csk_X5 3 3 rfl (L1 := ([(0, .ref 24), (1, .ref (200 + k))] : Lc)) (st1 := ([.int (-100000), .int (g 0 20)] : List Value)) (w1 := (layB g σ τ)) (by rfl) ?_
  refine bv_icmp_ne (j := 8) C rfl rfl (fun c1 => ?_) (fun c1 => ?_)
  · refine bv_blk C frk_X5 csk_X5 1 9 rfl (L1 := ([(0, .ref 24), (1, .ref (200 + k))] : Lc)) (st1 := ([.int (0)] : List Value)) (w1 := (layB g σ τ)) (by rfl) ?_
    exact bv_iret C rfl hr rfl ⟨by (exact congrArg (fun x => some (Value.int x)) (((if_neg c1).trans rfl)).symm), by (exact congrArg (fun x => (layB x σ τ)) (((if_neg c1).trans rfl)).symm)⟩
  · refine bv_blk C frk_X5 csk_X5 2 6 rfl (L1 := ([(0, .ref 24), (1, .ref (200 + k))] : Lc)) (st1 := ([.ref (200 + k), .ref 24] : List Value)) (w1 := (layB g σ τ)) (by rfl) ?_
    refine bv_fV1 C rfl (sd_word hE g σ τ hσ k ht hk hK) ml_X5_69 im_X5_isWord sel_X5_isWord ini_X5 cd_X5_isWord ok_X5_isWord rfl ⟨Nat.le_of_ble_eq_true rfl, Nat.le_of_ble_eq_true rfl⟩ ⟨Nat.zero_le _, Nat.zero_le _⟩ (by decide) rfl rfl rfl (rest := ([] : List Value)) rfl (Nat.le_of_ble_eq_true rfl) ?_
    refine bv_if_ne (j := 10) C rfl rfl (fun c2 => ?_) (fun c2 => ?_)
    · refine bv_blk C frk_X5 csk_X5 1 11 rfl (L1 := ([(0, .ref 24), (1, .ref (200 + k))] : Lc)) (st1 := ([.ref 24] : List Value)) (w1 := (layB g σ τ)) (by rfl) ?_
      refine bv_fV0 C rfl (sd_next hE g σ τ hσ ht) ml_X5_35 im_X5_nextToken sel_X5_nextToken ini_X5 cd_X5_nextToken ok_X5_nextToken rfl ⟨Nat.le_of_ble_eq_true rfl, Nat.le_of_ble_eq_true rfl⟩ ⟨Nat.zero_le _, Nat.zero_le _⟩ (by decide) rfl rfl rfl (rest := ([] : List Value)) rfl (Nat.le_of_ble_eq_true rfl) ?_
      refine bv_blk C frk_X5 csk_X5 1 13 rfl (L1 := ([(0, .ref 24), (1, .ref (200 + k))] : Lc)) (st1 := ([.int (1)] : List Value)) (w1 := (layB (nxW g) σ τ)) (by rfl) ?_
      exact bv_iret C rfl hr rfl ⟨by (exact congrArg (fun x => some (Value.int x)) (((if_pos c1).trans ((if_neg c2).trans rfl))).symm), by (exact congrArg (fun x => (layB x σ τ)) (((if_pos c1).trans ((if_neg c2).trans rfl))).symm)⟩
    · refine bv_blk C frk_X5 csk_X5 1 9 rfl (L1 := ([(0, .ref 24), (1, .ref (200 + k))] : Lc)) (st1 := ([.int (0)] : List Value)) (w1 := (layB g σ τ)) (by rfl) ?_
      exact bv_iret C rfl hr rfl ⟨by (exact congrArg (fun x => some (Value.int x)) (((if_pos c1).trans ((if_pos c2).trans rfl))).symm), by (exact congrArg (fun x => (layB x σ τ)) (((if_pos c1).trans ((if_pos c2).trans rfl))).symm)⟩
theorem tk_tw {k : Nat} {g : Nat → Nat → Int32} (h : tkI g) : tkI (sc_takeWord_w k g) := by
  unfold sc_takeWord_w
  repeat' split
  all_goals first | exact tk_nx h | exact h
theorem tw_01 {k : Nat} {g : Nat → Nat → Int32} : sc_takeWord_r k g = 0 ∨ sc_takeWord_r k g = 1 := by
  unfold sc_takeWord_r
  repeat' split
  all_goals first | exact Or.inl rfl | exact Or.inr rfl
def sc_takeSeparator_v1  (g : Nat → Nat → Int32) : Nat → Nat → Int32 := (sc_takeWord_w 6 g)
def sc_takeSeparator_v2  (g : Nat → Nat → Int32) : Nat → Nat → Int32 := (sc_reject_w (sc_takeSeparator_v1  g))
def sc_takeSeparator_w  (g : Nat → Nat → Int32) : Nat → Nat → Int32 := (if (sc_takeWord_r 6 g) = 0 then (sc_takeSeparator_v2  g) else (sc_takeSeparator_v1  g))
set_option maxRecDepth 100000 in
set_option maxHeartbeats 8000000 in
theorem sc_takeSeparator {l : Launch} {D : va_G} {cA : FieldType → ClassId} {z0 : Nat} {SK SV : Nat → Nat} {ad : Nat → Nat} (hE : aD (fun q => z0 ≤ q) ad 26) (g : Nat → Nat → Int32) (σ τ : Nat → Nat) (hσ : pmK σ τ)  (ht : tkI g) (hK : adK ad SK SV) : bF l D cA z0 SK SV ad shB 26 yX5_takeSeparator cX5_takeSeparator 1 none 7 [.ref 24] (layB g σ τ) none (layB (sc_takeSeparator_w  g) σ τ) := by
  refine bCT_intro (tb := tb_X5_takeSeparator) (own := RX5) hE pn_X5 rfl tk_X5_takeSeparator rfl (Nat.le_of_ble_eq_true rfl) ?_
  intro p e s0 m args below meth c C hr
  refine bv_blk C frk_X5 csk_X5 1 1 rfl (L1 := ([(0, .ref 24)] : Lc)) (st1 := ([.ref 24] : List Value)) (w1 := (layB g σ τ)) (by rfl) ?_
  refine bv_ldcS (k := 6) (q := 200 + 6) C rfl rfl (by decide) (hK.1 6 (by decide)) ?_
  refine bv_fV1 C rfl (sc_takeWord hE g σ τ hσ 6 ht (by decide) hK) ml_X5_75 im_X5_takeWord sel_X5_takeWord ini_X5 cd_X5_takeWord ok_X5_takeWord rfl ⟨Nat.le_of_ble_eq_true rfl, Nat.le_of_ble_eq_true rfl⟩ ⟨Nat.zero_le _, Nat.zero_le _⟩ (by decide) rfl rfl rfl (rest := ([] : List Value)) rfl (Nat.le_of_ble_eq_true rfl) ?_
  obtain ⟨v1, ev1⟩ : ∃ x : Nat → Nat → Int32, x = (sc_takeSeparator_v1  g) := ⟨_, rfl⟩
  have eq_v1 : (sc_takeWord_w 6 g) = v1 := by rw [ev1, show (sc_takeSeparator_v1  g) = (sc_takeWord_w 6 g) from rfl]
  refine bv_weq (show (layB (sc_takeWord_w 6 g) σ τ) = (layB v1 σ τ) from by rw [eq_v1]) ?_
  have ht_v1 : tkI v1 := by rw [← eq_v1]; exact (tk_tw ht)
  refine bv_if_ne (j := 6) C rfl rfl (fun c1 => ?_) (fun c1 => ?_)
  · exact bv_vret C rfl hr ⟨by (rfl), by (replace ev1 := ev1.symm; subst ev1; exact congrArg (fun x => (layB x σ τ)) (((if_neg c1).trans rfl)).symm)⟩
  · refine bv_blk C frk_X5 csk_X5 1 5 rfl (L1 := ([(0, .ref 24)] : Lc)) (st1 := ([.ref 24] : List Value)) (w1 := (layB v1 σ τ)) (by rfl) ?_
    refine bv_fV0 C rfl (sc_reject hE v1 σ τ hσ) ml_X5_78 im_X5_reject sel_X5_reject ini_X5 cd_X5_reject ok_X5_reject rfl ⟨Nat.le_of_ble_eq_true rfl, Nat.le_of_ble_eq_true rfl⟩ ⟨Nat.zero_le _, Nat.zero_le _⟩ (by decide) rfl rfl rfl (rest := ([] : List Value)) rfl (Nat.le_of_ble_eq_true rfl) ?_
    obtain ⟨v2, ev2⟩ : ∃ x : Nat → Nat → Int32, x = (sc_takeSeparator_v2  g) := ⟨_, rfl⟩
    have eq_v2 : (sc_reject_w v1) = v2 := by rw [ev2, show (sc_takeSeparator_v2  g) = (sc_reject_w (sc_takeSeparator_v1  g)) from rfl, ← ev1]
    refine bv_weq (show (layB (sc_reject_w v1) σ τ) = (layB v2 σ τ) from by rw [eq_v2]) ?_
    have ht_v2 : tkI v2 := by rw [← eq_v2]; exact (tk_rj ht_v1)
    exact bv_vret C rfl hr ⟨by (rfl), by (replace ev1 := ev1.symm; subst ev1; replace ev2 := ev2.symm; subst ev2; exact congrArg (fun x => (layB x σ τ)) (((if_pos c1).trans rfl)).symm)⟩
def tvB (lo hi sg : Int32) (Ln f b : Nat) (g : Nat → Nat → Int32) : Bool := rdB (g 3) lo hi sg Ln f b
def tvR (lo hi sg : Int32) (Ln f b : Nat) (g : Nat → Nat → Int32) : Int32 := if g 0 20 = -100000 then (if rdB (g 3) lo hi sg Ln f b = true then sg * nmF (g 3) (b - f) f 0 else lo) else lo
def tvW (lo hi sg : Int32) (Ln f b : Nat) (g : Nat → Nat → Int32) : Nat → Nat → Int32 := if g 0 20 = -100000 then (if rdB (g 3) lo hi sg Ln f b = true then ntG Ln b g else ug g 0 20 (g 0 9)) else g
theorem tv_n {lo hi sg : Int32} {Ln f b : Nat} {g : Nat → Nat → Int32} (h : ¬ g 0 20 = -100000) : tvR lo hi sg Ln f b g = lo ∧ tvW lo hi sg Ln f b g = sc_reject_w g := ⟨if_neg h, (if_neg h).trans (show sc_reject_w g = g from if_neg h).symm⟩
theorem tv_f {lo hi sg : Int32} {Ln f b : Nat} {g : Nat → Nat → Int32} (h : g 0 20 = -100000) (h1 : rdB (g 3) lo hi sg Ln f b = false) : tvR lo hi sg Ln f b g = lo ∧ tvW lo hi sg Ln f b g = sc_reject_w g := ⟨(if_pos h).trans (if_neg (fun z => absurd (z.symm.trans h1) Bool.noConfusion)), ((if_pos h).trans (if_neg (fun z => absurd (z.symm.trans h1) Bool.noConfusion))).trans (show sc_reject_w g = _ from if_pos h).symm⟩
theorem tv_t {lo hi sg v : Int32} {Ln f b : Nat} {g : Nat → Nat → Int32} (h : g 0 20 = -100000) (h1 : rdB (g 3) lo hi sg Ln f b = true) (h4 : v = nmF (g 3) (b - f) f 0) : tvR lo hi sg Ln f b g = sg * v ∧ tvW lo hi sg Ln f b g = ntG Ln b g := ⟨by rw [h4]; exact (if_pos h).trans (if_pos h1), (if_pos h).trans (if_pos h1)⟩
theorem wn_t {v lo hi : Int32} (h : ¬ wnI v lo hi = 0) : lo ≤ v ∧ v ≤ hi := by
  unfold wnI at h
  by_cases c1 : v < lo
  · rw [if_pos c1] at h; exact absurd rfl h
  · rw [if_neg c1] at h
    by_cases c2 : hi < v
    · rw [if_pos c2] at h; exact absurd rfl h
    · exact ⟨Int32.not_lt.mp c1, Int32.not_lt.mp c2⟩
theorem wn_f {v lo hi : Int32} (h : wnI v lo hi = 0) : ¬ (lo ≤ v ∧ v ≤ hi) := by
  intro z
  unfold wnI at h
  rw [if_neg (Int32.not_lt.mpr z.1), if_neg (Int32.not_lt.mpr z.2)] at h
  cases h
theorem rdB_le {t : Nat → Int32} {lo hi sg : Int32} {Ln f b : Nat} (h : rdB t lo hi sg Ln f b = true) : b - f ≤ 3 := by
  unfold rdB at h
  split at h
  · cases h
  · split at h
    · cases h
    · split at h
      · cases h
      · omega
theorem tv_3 {lo hi sg : Int32} {Ln f b : Nat} {g : Nat → Nat → Int32} (h : g 0 20 = -100000) (h1 : 3 < b - f) : tvR lo hi sg Ln f b g = lo ∧ tvW lo hi sg Ln f b g = sc_reject_w g := by
  cases hd : rdB (g 3) lo hi sg Ln f b with
  | true => exact absurd (rdB_le hd) (by omega)
  | false => exact tv_f h hd
set_option maxRecDepth 100000 in
set_option maxHeartbeats 8000000 in
theorem sc_takeValue {l : Launch} {D : va_G} {cA : FieldType → ClassId} {z0 : Nat} {SK SV : Nat → Nat} {ad : Nat → Nat} (hE : aD (fun q => z0 ≤ q) ad 26) (g : Nat → Nat → Int32) (σ τ : Nat → Nat) (hσ : pmK σ τ) (Ln f b : Nat) (lo hi sg : Int32) (ht : tokI g Ln f b) : bF l D cA z0 SK SV ad shB 26 yX5_takeValue cX5_takeValue 7 (some .int) 2 [.ref 24, .int sg, .int lo, .int hi] (layB g σ τ) (some (.int (tvR lo hi sg Ln f b g))) (layB (tvW lo hi sg Ln f b g) σ τ) := by
  refine bCT_intro (tb := tb_X5_takeValue) (own := RX5) hE pn_X5 rfl tk_X5_takeValue rfl (Nat.le_of_ble_eq_true rfl) ?_
  intro p e s0 m args below meth c C hr
  have ht0 := ht
  obtain ⟨hl, hL, hf, hb, hfb, hbL, hfl⟩ := ht
  by_cases c1 : g 0 20 = -100000
  · refine bv_blk C frk_X5 csk_X5 9 9 rfl (L1 := ([(4, .int ((g 0 10) - (g 0 9))), (0, .ref 24), (1, .int sg), (2, .int lo), (3, .int hi)] : Lc)) (st1 := ([.int (-100000), .int (g 0 20)] : List Value)) (w1 := (layB g σ τ)) (by rfl) ?_
    refine bv_icmp_ne (j := 19) C rfl rfl (fun h => absurd (c1) h) (fun _ => ?_)
    refine bv_blk C frk_X5 csk_X5 2 12 rfl (L1 := ([(4, .int ((g 0 10) - (g 0 9))), (0, .ref 24), (1, .int sg), (2, .int lo), (3, .int hi)] : Lc)) (st1 := ([.int (3), .int ((g 0 10) - (g 0 9))] : List Value)) (w1 := (layB g σ τ)) (by rfl) ?_
    rcases (by omega : b - f ≤ 3 ∨ 3 < b - f) with hq12 | hq12
    · refine bv_icmp_gt (j := 19) C rfl rfl (fun h => absurd h (by rw [show ((g 0 10) - (g 0 9)) = nI (b - f) from (nIs hb hf (by omega))]; exact (nI_nlt (a := 3) (b := (b - f)) (by omega) (by omega)))) (fun _ => ?_)
      rcases (by omega : f = Ln ∨ f < Ln) with hq13 | hq13
      · refine bv_blk C frk_X5 csk_X5 3 16 rfl (L1 := ([(4, .int ((g 0 10) - (g 0 9))), (0, .ref 24), (1, .int sg), (2, .int lo), (3, .int hi)] : Lc)) (st1 := ([.int (g 0 9), .ref 24] : List Value)) (w1 := (layB g σ τ)) (by rfl) ?_
        refine bv_fV1 C rfl (sc_at_ge hE g σ τ hσ Ln f hl hL (by omega)) ml_X5_49 im_X5_at sel_X5_at ini_X5 cd_X5_at ok_X5_at rfl ⟨Nat.le_of_ble_eq_true rfl, Nat.le_of_ble_eq_true rfl⟩ ⟨Nat.zero_le _, Nat.zero_le _⟩ (by decide) rfl rfl rfl (rest := ([] : List Value)) (by first | (rw [show (g 0 9) = nI f from hf]; done) | (rw [show (g 0 9) = nI f from hf]; rfl)) (Nat.le_of_ble_eq_true rfl) ?_
        refine bv_fS1 C rfl (sc_isDigit hE _ (-1)) ml_X5_57 st_X5_isDigit ini_X5 cd_X5_isDigit ok_X5_isDigit rfl ⟨Nat.le_of_ble_eq_true rfl, Nat.le_of_ble_eq_true rfl⟩ ⟨Nat.zero_le _, Nat.zero_le _⟩ (rest := ([] : List Value)) rfl (Nat.le_of_ble_eq_true rfl) ?_
        refine bv_if_ne (j := 23) C rfl rfl (fun h => absurd ((show b2i (dgB (-1)) = 0 by decide)) h) (fun _ => ?_)
        refine bv_blk C frk_X5 csk_X5 1 20 rfl (L1 := ([(4, .int ((g 0 10) - (g 0 9))), (0, .ref 24), (1, .int sg), (2, .int lo), (3, .int hi)] : Lc)) (st1 := ([.ref 24] : List Value)) (w1 := (layB g σ τ)) (by rfl) ?_
        refine bv_fV0 C rfl (sc_reject hE g σ τ hσ) ml_X5_78 im_X5_reject sel_X5_reject ini_X5 cd_X5_reject ok_X5_reject rfl ⟨Nat.le_of_ble_eq_true rfl, Nat.le_of_ble_eq_true rfl⟩ ⟨Nat.zero_le _, Nat.zero_le _⟩ (by decide) rfl rfl rfl (rest := ([] : List Value)) rfl (Nat.le_of_ble_eq_true rfl) ?_
        refine bv_blk C frk_X5 csk_X5 1 22 rfl (L1 := ([(4, .int ((g 0 10) - (g 0 9))), (0, .ref 24), (1, .int sg), (2, .int lo), (3, .int hi)] : Lc)) (st1 := ([.int lo] : List Value)) (w1 := (layB (sc_reject_w g) σ τ)) (by rfl) ?_
        exact bv_iret C rfl hr rfl ⟨by (rw [(tv_f c1 (rdB_1 hq13)).1]), by (rw [(tv_f c1 (rdB_1 hq13)).2])⟩
      · refine bv_blk C frk_X5 csk_X5 3 16 rfl (L1 := ([(4, .int ((g 0 10) - (g 0 9))), (0, .ref 24), (1, .int sg), (2, .int lo), (3, .int hi)] : Lc)) (st1 := ([.int (g 0 9), .ref 24] : List Value)) (w1 := (layB g σ τ)) (by rfl) ?_
        refine bv_fV1 C rfl (sc_at_lt hE g σ τ hσ Ln f hl hL (by omega)) ml_X5_49 im_X5_at sel_X5_at ini_X5 cd_X5_at ok_X5_at rfl ⟨Nat.le_of_ble_eq_true rfl, Nat.le_of_ble_eq_true rfl⟩ ⟨Nat.zero_le _, Nat.zero_le _⟩ (by decide) rfl rfl rfl (rest := ([] : List Value)) (by first | (rw [show (g 0 9) = nI f from hf]; done) | (rw [show (g 0 9) = nI f from hf]; rfl)) (Nat.le_of_ble_eq_true rfl) ?_
        refine bv_fS1 C rfl (sc_isDigit hE _ (g 3 f)) ml_X5_57 st_X5_isDigit ini_X5 cd_X5_isDigit ok_X5_isDigit rfl ⟨Nat.le_of_ble_eq_true rfl, Nat.le_of_ble_eq_true rfl⟩ ⟨Nat.zero_le _, Nat.zero_le _⟩ (rest := ([] : List Value)) rfl (Nat.le_of_ble_eq_true rfl) ?_
        refine bv_if_ne (j := 23) C rfl rfl (fun c5 => ?_) (fun c5 => ?_)
        · refine bv_blk C frk_X5 csk_X5 5 28 rfl (L1 := ([(6, .int (g 0 9)), (5, .int (0)), (4, .int ((g 0 10) - (g 0 9))), (0, .ref 24), (1, .int sg), (2, .int lo), (3, .int hi)] : Lc)) (st1 := ([] : List Value)) (w1 := (layB g σ τ)) (by rfl) ?_
          have lp : ∀ (q k : Nat) (v : Int32), k + q = b → f ≤ k → nmF (g 3) q k v = nmF (g 3) (b - f) f 0 → bV p l e (bR 2) s0 m args below meth c D cA shB (adA ad 26) 7 tb_X5_takeValue (MQ below (bQ D cA ad shB 26 (fun r w1 => r = (some (.int (tvR lo hi sg Ln f b g))) ∧ w1 = (layB (tvW lo hi sg Ln f b g) σ τ))) args s0 0 0 (adA ad 26)) ad 26 0 0 (layB g σ τ) 28 ([(6, .int (nI k)), (5, .int v), (0, .ref 24), (1, .int sg), (2, .int lo), (3, .int hi)] : Lc) ([] : List Value) := by
            intro q
            induction q with
            | zero =>
              intro k v hk hfk heq
              rw [nmF_0] at heq
              refine bv_blk C frk_X5 csk_X5 3 31 rfl (L1 := ([(6, .int (nI k)), (5, .int v), (0, .ref 24), (1, .int sg), (2, .int lo), (3, .int hi)] : Lc)) (st1 := ([.int (g 0 10), .int (nI k)] : List Value)) (w1 := (layB g σ τ)) (by rfl) ?_
              refine bv_icmp_ge (j := 44) C rfl rfl (fun _ => ?_) (fun h => absurd (by rw [show (g 0 10) = nI b from hb]; exact (nI_le (a := b) (b := k) (by omega) (by omega))) h)
              refine bv_blk C frk_X5 csk_X5 7 51 rfl (L1 := ([(5, .int (sg * v)), (6, .int (nI k)), (0, .ref 24), (1, .int sg), (2, .int lo), (3, .int hi)] : Lc)) (st1 := ([.int hi, .int lo, .int (sg * v)] : List Value)) (w1 := (layB g σ τ)) (by rfl) ?_
              refine bv_fN1 C rfl (cs_within hE _ (sg * v) lo hi) (List.mem_of_getElem? (i := 3) rfl) st_X8_within ini_X8 cd_X8_within ok_X8_within rfl ⟨Nat.le_of_ble_eq_true rfl, Nat.le_of_ble_eq_true rfl⟩ ⟨Nat.zero_le _, Nat.zero_le _⟩ (rest := ([] : List Value)) rfl (Nat.le_of_ble_eq_true rfl) ?_
              refine bv_if_ne (j := 57) C rfl rfl (fun c7 => ?_) (fun c7 => ?_)
              · refine bv_blk C frk_X5 csk_X5 1 58 rfl (L1 := ([(5, .int (sg * v)), (6, .int (nI k)), (0, .ref 24), (1, .int sg), (2, .int lo), (3, .int hi)] : Lc)) (st1 := ([.ref 24] : List Value)) (w1 := (layB g σ τ)) (by rfl) ?_
                refine bv_fV0 C rfl (sc_nextToken hE g σ τ hσ Ln b hl hL hb hbL) ml_X5_35 im_X5_nextToken sel_X5_nextToken ini_X5 cd_X5_nextToken ok_X5_nextToken rfl ⟨Nat.le_of_ble_eq_true rfl, Nat.le_of_ble_eq_true rfl⟩ ⟨Nat.zero_le _, Nat.zero_le _⟩ (by decide) rfl rfl rfl (rest := ([] : List Value)) rfl (Nat.le_of_ble_eq_true rfl) ?_
                refine bv_blk C frk_X5 csk_X5 1 60 rfl (L1 := ([(5, .int (sg * v)), (6, .int (nI k)), (0, .ref 24), (1, .int sg), (2, .int lo), (3, .int hi)] : Lc)) (st1 := ([.int (sg * v)] : List Value)) (w1 := (layB (ntG Ln b g) σ τ)) (by rfl) ?_
                exact bv_iret C rfl hr rfl ⟨by (rw [(tv_t c1 ((rdB_4 hq13 (b2i_1 c5) hq12 heq).trans (decide_eq_true (wn_t c7))) heq).1]), by (rw [(tv_t c1 ((rdB_4 hq13 (b2i_1 c5) hq12 heq).trans (decide_eq_true (wn_t c7))) heq).2])⟩
              · refine bv_blk C frk_X5 csk_X5 1 54 rfl (L1 := ([(5, .int (sg * v)), (6, .int (nI k)), (0, .ref 24), (1, .int sg), (2, .int lo), (3, .int hi)] : Lc)) (st1 := ([.ref 24] : List Value)) (w1 := (layB g σ τ)) (by rfl) ?_
                refine bv_fV0 C rfl (sc_reject hE g σ τ hσ) ml_X5_78 im_X5_reject sel_X5_reject ini_X5 cd_X5_reject ok_X5_reject rfl ⟨Nat.le_of_ble_eq_true rfl, Nat.le_of_ble_eq_true rfl⟩ ⟨Nat.zero_le _, Nat.zero_le _⟩ (by decide) rfl rfl rfl (rest := ([] : List Value)) rfl (Nat.le_of_ble_eq_true rfl) ?_
                refine bv_blk C frk_X5 csk_X5 1 56 rfl (L1 := ([(5, .int (sg * v)), (6, .int (nI k)), (0, .ref 24), (1, .int sg), (2, .int lo), (3, .int hi)] : Lc)) (st1 := ([.int lo] : List Value)) (w1 := (layB (sc_reject_w g) σ τ)) (by rfl) ?_
                exact bv_iret C rfl hr rfl ⟨by (rw [(tv_f c1 ((rdB_4 hq13 (b2i_1 c5) hq12 heq).trans (decide_eq_false (wn_f c7)))).1]), by (rw [(tv_f c1 ((rdB_4 hq13 (b2i_1 c5) hq12 heq).trans (decide_eq_false (wn_f c7)))).2])⟩
            | succ q ih =>
              intro k v hk hfk heq
              rw [nmF_s] at heq
              refine bv_blk C frk_X5 csk_X5 3 31 rfl (L1 := ([(6, .int (nI k)), (5, .int v), (0, .ref 24), (1, .int sg), (2, .int lo), (3, .int hi)] : Lc)) (st1 := ([.int (g 0 10), .int (nI k)] : List Value)) (w1 := (layB g σ τ)) (by rfl) ?_
              refine bv_icmp_ge (j := 44) C rfl rfl (fun h => absurd h (by rw [show (g 0 10) = nI b from hb]; exact (nI_ge (a := k) (b := b) (by omega) (by omega)))) (fun _ => ?_)
              refine bv_blk C frk_X5 csk_X5 5 37 rfl (L1 := ([(6, .int (nI k)), (5, .int v), (0, .ref 24), (1, .int sg), (2, .int lo), (3, .int hi)] : Lc)) (st1 := ([.int (nI k), .ref 24, .int ((10) * v)] : List Value)) (w1 := (layB g σ τ)) (by rfl) ?_
              refine bv_fV1 C rfl (sc_at_lt hE g σ τ hσ Ln k hl hL (by omega)) ml_X5_49 im_X5_at sel_X5_at ini_X5 cd_X5_at ok_X5_at rfl ⟨Nat.le_of_ble_eq_true rfl, Nat.le_of_ble_eq_true rfl⟩ ⟨Nat.zero_le _, Nat.zero_le _⟩ (by decide) rfl rfl rfl (rest := ([.int ((10) * v)] : List Value)) rfl (Nat.le_of_ble_eq_true rfl) ?_
              refine bv_blk C frk_X5 csk_X5 5 43 rfl (L1 := ([(6, .int ((nI k) + Int32.ofInt 1)), (5, .int ((((10) * v) + (g 3 k)) - (48))), (0, .ref 24), (1, .int sg), (2, .int lo), (3, .int hi)] : Lc)) (st1 := ([] : List Value)) (w1 := (layB g σ τ)) (by rfl) ?_
              rw [show ((nI k) + Int32.ofInt 1) = nI (k + 1) from (nIi rfl)]
              refine bv_goto (j := 28) C rfl rfl ?_
              refine bv_sub [0, 1, 2, 3, 4, 5] (by rfl) ?_
              exact ih (k + 1) ((((10) * v) + (g 3 k)) - (48)) (by omega) (by omega) heq
          refine bv_sub [0, 1, 3, 4, 5, 6] (by rfl) ?_
          exact (by rw [hf]; exact lp (b - f) f 0 (by omega) (by omega) rfl)
        · refine bv_blk C frk_X5 csk_X5 1 20 rfl (L1 := ([(4, .int ((g 0 10) - (g 0 9))), (0, .ref 24), (1, .int sg), (2, .int lo), (3, .int hi)] : Lc)) (st1 := ([.ref 24] : List Value)) (w1 := (layB g σ τ)) (by rfl) ?_
          refine bv_fV0 C rfl (sc_reject hE g σ τ hσ) ml_X5_78 im_X5_reject sel_X5_reject ini_X5 cd_X5_reject ok_X5_reject rfl ⟨Nat.le_of_ble_eq_true rfl, Nat.le_of_ble_eq_true rfl⟩ ⟨Nat.zero_le _, Nat.zero_le _⟩ (by decide) rfl rfl rfl (rest := ([] : List Value)) rfl (Nat.le_of_ble_eq_true rfl) ?_
          refine bv_blk C frk_X5 csk_X5 1 22 rfl (L1 := ([(4, .int ((g 0 10) - (g 0 9))), (0, .ref 24), (1, .int sg), (2, .int lo), (3, .int hi)] : Lc)) (st1 := ([.int lo] : List Value)) (w1 := (layB (sc_reject_w g) σ τ)) (by rfl) ?_
          exact bv_iret C rfl hr rfl ⟨by (rw [(tv_f c1 (rdB_2 hq13 (b2i_0 c5))).1]), by (rw [(tv_f c1 (rdB_2 hq13 (b2i_0 c5))).2])⟩
    · refine bv_icmp_gt (j := 19) C rfl rfl (fun _ => ?_) (fun h => absurd (by rw [show ((g 0 10) - (g 0 9)) = nI (b - f) from (nIs hb hf (by omega))]; exact (nI_lt (a := 3) (b := (b - f)) (by omega) (by omega))) h)
      refine bv_blk C frk_X5 csk_X5 1 20 rfl (L1 := ([(4, .int ((g 0 10) - (g 0 9))), (0, .ref 24), (1, .int sg), (2, .int lo), (3, .int hi)] : Lc)) (st1 := ([.ref 24] : List Value)) (w1 := (layB g σ τ)) (by rfl) ?_
      refine bv_fV0 C rfl (sc_reject hE g σ τ hσ) ml_X5_78 im_X5_reject sel_X5_reject ini_X5 cd_X5_reject ok_X5_reject rfl ⟨Nat.le_of_ble_eq_true rfl, Nat.le_of_ble_eq_true rfl⟩ ⟨Nat.zero_le _, Nat.zero_le _⟩ (by decide) rfl rfl rfl (rest := ([] : List Value)) rfl (Nat.le_of_ble_eq_true rfl) ?_
      refine bv_blk C frk_X5 csk_X5 1 22 rfl (L1 := ([(4, .int ((g 0 10) - (g 0 9))), (0, .ref 24), (1, .int sg), (2, .int lo), (3, .int hi)] : Lc)) (st1 := ([.int lo] : List Value)) (w1 := (layB (sc_reject_w g) σ τ)) (by rfl) ?_
      exact bv_iret C rfl hr rfl ⟨by (rw [(tv_3 c1 hq12).1]), by (rw [(tv_3 c1 hq12).2])⟩
  · refine bv_blk C frk_X5 csk_X5 9 9 rfl (L1 := ([(4, .int ((g 0 10) - (g 0 9))), (0, .ref 24), (1, .int sg), (2, .int lo), (3, .int hi)] : Lc)) (st1 := ([.int (-100000), .int (g 0 20)] : List Value)) (w1 := (layB g σ τ)) (by rfl) ?_
    refine bv_icmp_ne (j := 19) C rfl rfl (fun _ => ?_) (fun h => absurd h (c1))
    refine bv_blk C frk_X5 csk_X5 1 20 rfl (L1 := ([(4, .int ((g 0 10) - (g 0 9))), (0, .ref 24), (1, .int sg), (2, .int lo), (3, .int hi)] : Lc)) (st1 := ([.ref 24] : List Value)) (w1 := (layB g σ τ)) (by rfl) ?_
    refine bv_fV0 C rfl (sc_reject hE g σ τ hσ) ml_X5_78 im_X5_reject sel_X5_reject ini_X5 cd_X5_reject ok_X5_reject rfl ⟨Nat.le_of_ble_eq_true rfl, Nat.le_of_ble_eq_true rfl⟩ ⟨Nat.zero_le _, Nat.zero_le _⟩ (by decide) rfl rfl rfl (rest := ([] : List Value)) rfl (Nat.le_of_ble_eq_true rfl) ?_
    refine bv_blk C frk_X5 csk_X5 1 22 rfl (L1 := ([(4, .int ((g 0 10) - (g 0 9))), (0, .ref 24), (1, .int sg), (2, .int lo), (3, .int hi)] : Lc)) (st1 := ([.int lo] : List Value)) (w1 := (layB (sc_reject_w g) σ τ)) (by rfl) ?_
    exact bv_iret C rfl hr rfl ⟨by (rw [(tv_n c1).1]), by (rw [(tv_n c1).2])⟩
def tvr (lo hi sg : Int32) (g : Nat → Nat → Int32) : Int32 := tvR lo hi sg (cl (g 0 4)) (cl (g 0 9)) (cl (g 0 10)) g
def tvw (lo hi sg : Int32) (g : Nat → Nat → Int32) : Nat → Nat → Int32 := tvW lo hi sg (cl (g 0 4)) (cl (g 0 9)) (cl (g 0 10)) g
theorem tk_tv {lo hi sg : Int32} {g : Nat → Nat → Int32} (h : tkI g) : tkI (tvw lo hi sg g) := by
  unfold tvw tvW
  split
  · split
    · exact tk_nx h
    · exact tk_ug (by omega) h
  · exact h
theorem sd_value {l : Launch} {D : va_G} {cA : FieldType → ClassId} {z0 : Nat} {SK SV : Nat → Nat} {ad : Nat → Nat} (hE : aD (fun q => z0 ≤ q) ad 26) (g : Nat → Nat → Int32) (σ τ : Nat → Nat) (hσ : pmK σ τ) (lo hi sg : Int32) (ht : tkI g) : bF l D cA z0 SK SV ad shB 26 yX5_takeValue cX5_takeValue 7 (some .int) 2 [.ref 24, .int sg, .int lo, .int hi] (layB g σ τ) (some (.int (tvr lo hi sg g))) (layB (tvw lo hi sg g) σ τ) := sc_takeValue hE g σ τ hσ _ _ _ lo hi sg (tk_cl ht)
set_option maxRecDepth 100000 in
set_option maxHeartbeats 8000000 in
theorem sc_takeNumber {l : Launch} {D : va_G} {cA : FieldType → ClassId} {z0 : Nat} {SK SV : Nat → Nat} {ad : Nat → Nat} (hE : aD (fun q => z0 ≤ q) ad 26) (g : Nat → Nat → Int32) (σ τ : Nat → Nat) (hσ : pmK σ τ) (lo hi : Int32) (ht : tkI g) : bF l D cA z0 SK SV ad shB 26 yX5_takeNumber cX5_takeNumber 3 (some .int) 3 [.ref 24, .int lo, .int hi] (layB g σ τ) (some (.int (tvr lo hi 1 g))) (layB (tvw lo hi 1 g) σ τ) := by
  refine bCT_intro (tb := tb_X5_takeNumber) (own := RX5) hE pn_X5 rfl tk_X5_takeNumber rfl (Nat.le_of_ble_eq_true rfl) ?_
  intro p e s0 m args below meth c C hr
  refine bv_blk C frk_X5 csk_X5 4 4 rfl (L1 := ([(0, .ref 24), (1, .int lo), (2, .int hi)] : Lc)) (st1 := ([.int hi, .int lo, .int (1), .ref 24] : List Value)) (w1 := (layB g σ τ)) (by rfl) ?_
  refine bv_fV1 C rfl (sd_value hE g σ τ hσ lo hi (1) ht) ml_X5_81 im_X5_takeValue sel_X5_takeValue ini_X5 cd_X5_takeValue ok_X5_takeValue rfl ⟨Nat.le_of_ble_eq_true rfl, Nat.le_of_ble_eq_true rfl⟩ ⟨Nat.zero_le _, Nat.zero_le _⟩ (by decide) rfl rfl rfl (rest := ([] : List Value)) rfl (Nat.le_of_ble_eq_true rfl) ?_
  exact bv_iret C rfl hr rfl ⟨by (rfl), by (rfl)⟩
def sc_takeSigned_v1 (lo hi : Int32) (g : Nat → Nat → Int32) : Nat → Nat → Int32 := (sc_takeWord_w 7 g)
def sc_takeSigned_v2 (lo hi : Int32) (g : Nat → Nat → Int32) : Nat → Nat → Int32 := (tvw lo hi (1) (sc_takeSigned_v1 lo hi g))
def sc_takeSigned_v3 (lo hi : Int32) (g : Nat → Nat → Int32) : Nat → Nat → Int32 := (tvw lo hi (-1) (sc_takeSigned_v1 lo hi g))
def sc_takeSigned_r (lo hi : Int32) (g : Nat → Nat → Int32) : Int32 := (if (sc_takeWord_r 7 g) = 0 then (tvr lo hi (1) (sc_takeSigned_v1 lo hi g)) else (tvr lo hi (-1) (sc_takeSigned_v1 lo hi g)))
def sc_takeSigned_w (lo hi : Int32) (g : Nat → Nat → Int32) : Nat → Nat → Int32 := (if (sc_takeWord_r 7 g) = 0 then (sc_takeSigned_v2 lo hi g) else (sc_takeSigned_v3 lo hi g))
set_option maxRecDepth 100000 in
set_option maxHeartbeats 8000000 in
theorem sc_takeSigned {l : Launch} {D : va_G} {cA : FieldType → ClassId} {z0 : Nat} {SK SV : Nat → Nat} {ad : Nat → Nat} (hE : aD (fun q => z0 ≤ q) ad 26) (g : Nat → Nat → Int32) (σ τ : Nat → Nat) (hσ : pmK σ τ) (lo hi : Int32) (ht : tkI g) (hK : adK ad SK SV) : bF l D cA z0 SK SV ad shB 26 yX5_takeSigned cX5_takeSigned 3 (some .int) 7 [.ref 24, .int lo, .int hi] (layB g σ τ) (some (.int (sc_takeSigned_r lo hi g))) (layB (sc_takeSigned_w lo hi g) σ τ) := by
  refine bCT_intro (tb := tb_X5_takeSigned) (own := RX5) hE pn_X5 rfl tk_X5_takeSigned rfl (Nat.le_of_ble_eq_true rfl) ?_
  intro p e s0 m args below meth c C hr
  refine bv_blk C frk_X5 csk_X5 2 2 rfl (L1 := ([(0, .ref 24), (1, .int lo), (2, .int hi)] : Lc)) (st1 := ([.ref 24, .ref 24] : List Value)) (w1 := (layB g σ τ)) (by rfl) ?_
  refine bv_ldcS (k := 7) (q := 200 + 7) C rfl rfl (by decide) (hK.1 7 (by decide)) ?_
  refine bv_fV1 C rfl (sc_takeWord hE g σ τ hσ 7 ht (by decide) hK) ml_X5_75 im_X5_takeWord sel_X5_takeWord ini_X5 cd_X5_takeWord ok_X5_takeWord rfl ⟨Nat.le_of_ble_eq_true rfl, Nat.le_of_ble_eq_true rfl⟩ ⟨Nat.zero_le _, Nat.zero_le _⟩ (by decide) rfl rfl rfl (rest := ([.ref 24] : List Value)) rfl (Nat.le_of_ble_eq_true rfl) ?_
  obtain ⟨v1, ev1⟩ : ∃ x : Nat → Nat → Int32, x = (sc_takeSigned_v1 lo hi g) := ⟨_, rfl⟩
  have eq_v1 : (sc_takeWord_w 7 g) = v1 := by rw [ev1, show (sc_takeSigned_v1 lo hi g) = (sc_takeWord_w 7 g) from rfl]
  refine bv_weq (show (layB (sc_takeWord_w 7 g) σ τ) = (layB v1 σ τ) from by rw [eq_v1]) ?_
  have ht_v1 : tkI v1 := by rw [← eq_v1]; exact (tk_tw ht)
  refine bv_if_eq (j := 7) C rfl rfl (fun c1 => ?_) (fun c1 => ?_)
  · refine bv_blk C frk_X5 csk_X5 3 10 rfl (L1 := ([(0, .ref 24), (1, .int lo), (2, .int hi)] : Lc)) (st1 := ([.int hi, .int lo, .int (1), .ref 24] : List Value)) (w1 := (layB v1 σ τ)) (by rfl) ?_
    refine bv_fV1 C rfl (sd_value hE v1 σ τ hσ lo hi (1) ht_v1) ml_X5_81 im_X5_takeValue sel_X5_takeValue ini_X5 cd_X5_takeValue ok_X5_takeValue rfl ⟨Nat.le_of_ble_eq_true rfl, Nat.le_of_ble_eq_true rfl⟩ ⟨Nat.zero_le _, Nat.zero_le _⟩ (by decide) rfl rfl rfl (rest := ([] : List Value)) rfl (Nat.le_of_ble_eq_true rfl) ?_
    obtain ⟨v2, ev2⟩ : ∃ x : Nat → Nat → Int32, x = (sc_takeSigned_v2 lo hi g) := ⟨_, rfl⟩
    have eq_v2 : (tvw lo hi (1) v1) = v2 := by rw [ev2, show (sc_takeSigned_v2 lo hi g) = (tvw lo hi (1) (sc_takeSigned_v1 lo hi g)) from rfl, ← ev1]
    refine bv_weq (show (layB (tvw lo hi (1) v1) σ τ) = (layB v2 σ τ) from by rw [eq_v2]) ?_
    have ht_v2 : tkI v2 := by rw [← eq_v2]; exact (tk_tv ht_v1)
    exact bv_iret C rfl hr rfl ⟨by (replace ev1 := ev1.symm; subst ev1; replace ev2 := ev2.symm; subst ev2; exact congrArg (fun x => some (Value.int x)) (((if_pos c1).trans rfl)).symm), by (replace ev1 := ev1.symm; subst ev1; replace ev2 := ev2.symm; subst ev2; exact congrArg (fun x => (layB x σ τ)) (((if_pos c1).trans rfl)).symm)⟩
  · refine bv_blk C frk_X5 csk_X5 1 6 rfl (L1 := ([(0, .ref 24), (1, .int lo), (2, .int hi)] : Lc)) (st1 := ([.int (-1), .ref 24] : List Value)) (w1 := (layB v1 σ τ)) (by rfl) ?_
    refine bv_goto (j := 8) C rfl rfl ?_
    refine bv_blk C frk_X5 csk_X5 2 10 rfl (L1 := ([(0, .ref 24), (1, .int lo), (2, .int hi)] : Lc)) (st1 := ([.int hi, .int lo, .int (-1), .ref 24] : List Value)) (w1 := (layB v1 σ τ)) (by rfl) ?_
    refine bv_fV1 C rfl (sd_value hE v1 σ τ hσ lo hi (-1) ht_v1) ml_X5_81 im_X5_takeValue sel_X5_takeValue ini_X5 cd_X5_takeValue ok_X5_takeValue rfl ⟨Nat.le_of_ble_eq_true rfl, Nat.le_of_ble_eq_true rfl⟩ ⟨Nat.zero_le _, Nat.zero_le _⟩ (by decide) rfl rfl rfl (rest := ([] : List Value)) rfl (Nat.le_of_ble_eq_true rfl) ?_
    obtain ⟨v3, ev3⟩ : ∃ x : Nat → Nat → Int32, x = (sc_takeSigned_v3 lo hi g) := ⟨_, rfl⟩
    have eq_v3 : (tvw lo hi (-1) v1) = v3 := by rw [ev3, show (sc_takeSigned_v3 lo hi g) = (tvw lo hi (-1) (sc_takeSigned_v1 lo hi g)) from rfl, ← ev1]
    refine bv_weq (show (layB (tvw lo hi (-1) v1) σ τ) = (layB v3 σ τ) from by rw [eq_v3]) ?_
    have ht_v3 : tkI v3 := by rw [← eq_v3]; exact (tk_tv ht_v1)
    exact bv_iret C rfl hr rfl ⟨by (replace ev1 := ev1.symm; subst ev1; replace ev3 := ev3.symm; subst ev3; exact congrArg (fun x => some (Value.int x)) (((if_neg c1).trans rfl)).symm), by (replace ev1 := ev1.symm; subst ev1; replace ev3 := ev3.symm; subst ev3; exact congrArg (fun x => (layB x σ τ)) (((if_neg c1).trans rfl)).symm)⟩
theorem tk_ts {lo hi : Int32} {g : Nat → Nat → Int32} (h : tkI g) : tkI (sc_takeSigned_w lo hi g) := by
  unfold sc_takeSigned_w
  have h1 : tkI (sc_takeSigned_v1 lo hi g) := tk_tw h
  split
  · exact tk_tv h1
  · exact tk_tv h1
