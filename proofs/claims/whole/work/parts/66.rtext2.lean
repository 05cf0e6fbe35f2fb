def letT (k : Nat) : Int32 := if k < 32 then lettT k else restT (k - 32)
def bgN (k : Nat) : Nat := [0, 7, 11, 16, 25, 29, 37].getD k 0
theorem bg_at0 : ∀ k, k < 7 → begT k = nI (bgN k) := by decide
theorem bg_at {k : Nat} (h : k < 7) : begT k = nI (bgN k) := bg_at0 k h
theorem bg_mo0 : ∀ k, k < 6 → bgN k ≤ bgN (k + 1) ∧ bgN (k + 1) ≤ 37 := by decide
def wdL (t : Nat → Int32) (f o : Nat) : Nat → Nat → Bool
  | 0, _ => true
  | q + 1, j => if t (f + j) = letT (o + j) then wdL t f o q (j + 1) else false
theorem wdL_0 {t : Nat → Int32} {f o j : Nat} : wdL t f o 0 j = true := rfl
theorem wdL_t {t : Nat → Int32} {f o q j : Nat} (h : t (f + j) = letT (o + j)) : wdL t f o (q + 1) j = wdL t f o q (j + 1) := if_pos h
theorem wdL_f {t : Nat → Int32} {f o q j : Nat} (h : ¬ t (f + j) = letT (o + j)) : wdL t f o (q + 1) j = false := if_neg h
def wdB (t : Nat → Int32) (w f b : Nat) : Bool := if b - f = bgN (w + 1) - bgN w then wdL t f (bgN w) (b - f) 0 else false
def tokI (g : Nat → Nat → Int32) (Ln f b : Nat) : Prop := g 0 4 = nI Ln ∧ Ln ≤ 120 ∧ g 0 9 = nI f ∧ g 0 10 = nI b ∧ f ≤ b ∧ b ≤ Ln ∧ (f < Ln → f < b)
theorem tok_nt {g : Nat → Nat → Int32} {Ln b0 : Nat} (hl : g 0 4 = nI Ln) (hL : Ln ≤ 120) (hbL : b0 ≤ Ln) : tokI (ntG Ln b0 g) Ln (ntF (g 3) Ln b0) (ntB (g 3) Ln (ntF (g 3) Ln b0)) := by
  have z1 := ntF_b (t := g 3) hbL
  have z2 := ntB_b (t := g 3) z1.2
  exact ⟨(ug_ne (by omega)).trans ((ug_ne (by omega)).trans hl), hL, (ug_ne (by omega)).trans ug_same, ug_same, z2.1, z2.2.1, z2.2.2⟩
def nmF (t : Nat → Int32) : Nat → Nat → Int32 → Int32
  | 0, _, v => v
  | q + 1, k, v => nmF t q (k + 1) (10 * v + t k - 48)
theorem nmF_0 {t : Nat → Int32} {k : Nat} {v : Int32} : nmF t 0 k v = v := rfl
theorem nmF_s {t : Nat → Int32} {q k : Nat} {v : Int32} : nmF t (q + 1) k v = nmF t q (k + 1) (10 * v + t k - 48) := rfl
def rdB (t : Nat → Int32) (lo hi sg : Int32) (Ln f b : Nat) : Bool := if f = Ln then false else if dgB (t f) = false then false else if 3 < b - f then false else decide (lo ≤ sg * nmF t (b - f) f 0 ∧ sg * nmF t (b - f) f 0 ≤ hi)
def rdG (g : Nat → Nat → Int32) (lo hi sg : Int32) (Ln f b : Nat) : Nat → Nat → Int32 := if rdB (g 3) lo hi sg Ln f b = true then ntG Ln b (ug g 0 16 (sg * nmF (g 3) (b - f) f 0)) else g
set_option maxRecDepth 100000 in
set_option maxHeartbeats 8000000 in
theorem ct_letter {l : Launch} {D : va_G} {cA : FieldType → ClassId} {z0 : Nat} {SK SV : Nat → Nat} {ad : Nat → Nat} (hE : aD (fun q => z0 ≤ q) ad 9) (g : Nat → Nat → Int32) (h : Int64) (k : Nat) (hk : k < 37) : bF l D cA z0 SK SV ad shM 9 yX9_letter cX9_letter 2 (some .int) 0 [.ref 0, .int (nI k)] (layM g h) (some (.int (letT k))) (layM g h) := by
  refine bCT_intro (tb := tb_X9_letter) (own := RX9) hE pn_X9 rfl tk_X9_letter rfl (Nat.le_of_ble_eq_true rfl) ?_
  intro p e s0 m args below meth c C hr
  refine bv_blk C frk_X9 csk_X9 2 2 rfl (L1 := ([(0, .ref 0), (1, .int (nI k))] : Lc)) (st1 := ([.int (32), .int (nI k)] : List Value)) (w1 := (layM g h)) (by rfl) ?_
  rcases (by omega : k < 32 ∨ ¬ k < 32) with hq | hq
  · refine bv_icmp_ge (j := 8) C rfl rfl (fun h => absurd h (nI_ge (a := k) (b := 32) (by omega) (by omega))) (fun _ => ?_)
    refine bv_blk C frk_X9 csk_X9 3 6 rfl (L1 := ([(0, .ref 0), (1, .int (nI k))] : Lc)) (st1 := ([.int (nI k), .ref 5] : List Value)) (w1 := (layM g h)) (by rfl) ?_
    refine bv_iald C rfl rfl (by decide) (j := k) (by exact rfl) (by first | decide | omega) (by decide) (y := (lettT k)) (by rfl) ?_
    refine bv_goto (j := 14) C rfl rfl ?_
    exact bv_iret C rfl hr rfl ⟨by (unfold letT; rw [if_pos hq]), by (rfl)⟩
  · refine bv_icmp_ge (j := 8) C rfl rfl (fun _ => ?_) (fun h => absurd (nI_le (a := 32) (b := k) (by omega) (by omega)) h)
    refine bv_blk C frk_X9 csk_X9 5 13 rfl (L1 := ([(0, .ref 0), (1, .int (nI k))] : Lc)) (st1 := ([.int ((nI k) - (32)), .ref 6] : List Value)) (w1 := (layM g h)) (by rfl) ?_
    refine bv_iald C rfl rfl (by decide) (j := (k - 32)) (by exact (nIs rfl rfl (by omega))) (by first | decide | omega) (by decide) (y := (restT (k - 32))) (by rfl) ?_
    exact bv_iret C rfl hr rfl ⟨by (unfold letT; rw [if_neg hq]), by (rfl)⟩
set_option maxRecDepth 100000 in
set_option maxHeartbeats 8000000 in
theorem ct_isWord {l : Launch} {D : va_G} {cA : FieldType → ClassId} {z0 : Nat} {SK SV : Nat → Nat} {ad : Nat → Nat} (hE : aD (fun q => z0 ≤ q) ad 9) (g : Nat → Nat → Int32) (h : Int64) (Ln f b w : Nat) (ht : tokI g Ln f b) (hw : w < 6) : bF l D cA z0 SK SV ad shM 9 yX9_isWord cX9_isWord 4 (some .boolean) 1 [.ref 0, .int (nI w)] (layM g h) (some (.int (b2i (wdB (g 3) w f b)))) (layM g h) := by
  refine bCT_intro (tb := tb_X9_isWord) (own := RX9) hE pn_X9 rfl tk_X9_isWord rfl (Nat.le_of_ble_eq_true rfl) ?_
  intro p e s0 m args below meth c C hr
  obtain ⟨hl, hL, hf, hb, hfb, hbL, hfl⟩ := ht
  obtain ⟨hm1, hm2⟩ := bg_mo0 w hw
  refine bv_blk C frk_X9 csk_X9 10 10 rfl (L1 := ([(0, .ref 0), (1, .int (nI w))] : Lc)) (st1 := ([.int ((nI w) + (1)), .ref 7, .int ((g 0 10) - (g 0 9))] : List Value)) (w1 := (layM g h)) (by rfl) ?_
  refine bv_iald C rfl rfl (by decide) (j := (w + 1)) (by exact (nIa rfl rfl)) (by first | decide | omega) (by decide) (y := (begT (w + 1))) (by rfl) ?_
  refine bv_blk C frk_X9 csk_X9 3 14 rfl (L1 := ([(0, .ref 0), (1, .int (nI w))] : Lc)) (st1 := ([.int (nI w), .ref 7, .int (begT (w + 1)), .int ((g 0 10) - (g 0 9))] : List Value)) (w1 := (layM g h)) (by rfl) ?_
  refine bv_iald C rfl rfl (by decide) (j := w) (by exact rfl) (by first | decide | omega) (by decide) (y := (begT w)) (by rfl) ?_
  refine bv_blk C frk_X9 csk_X9 1 16 rfl (L1 := ([(0, .ref 0), (1, .int (nI w))] : Lc)) (st1 := ([.int ((begT (w + 1)) - (begT w)), .int ((g 0 10) - (g 0 9))] : List Value)) (w1 := (layM g h)) (by rfl) ?_
  refine bv_icmp_ne (j := 19) C rfl rfl (fun c1 => ?_) (fun c1 => ?_)
  · refine bv_blk C frk_X9 csk_X9 4 23 rfl (L1 := ([(3, .int (0)), (2, .int (0)), (0, .ref 0), (1, .int (nI w))] : Lc)) (st1 := ([] : List Value)) (w1 := (layM g h)) (by rfl) ?_
    refine bv_blk C frk_X9 csk_X9 6 29 rfl (L1 := ([(3, .int (0)), (2, .int (0)), (0, .ref 0), (1, .int (nI w))] : Lc)) (st1 := ([.int ((g 0 10) - (g 0 9)), .int (0)] : List Value)) (w1 := (layM g h)) (by rfl) ?_
    refine bv_icmp_ge (j := 54) C rfl rfl (fun c2 => ?_) (fun c2 => ?_)
    · refine bv_blk C frk_X9 csk_X9 1 55 rfl (L1 := ([(3, .int (0)), (2, .int (0)), (0, .ref 0), (1, .int (nI w))] : Lc)) (st1 := ([.int (0)] : List Value)) (w1 := (layM g h)) (by rfl) ?_
      exact bv_iret C rfl hr rfl ⟨by (rw [show wdB (g 3) w f b = false from if_neg (fun z => c1 (by rw [hf, hb, bg_at (k := w + 1) (by omega), bg_at (k := w) (by omega), pk_sub hfb, pk_sub hm1, z]))]; rfl), by (rfl)⟩
    · refine bv_blk C frk_X9 csk_X9 1 31 rfl (L1 := ([(3, .int (0)), (2, .int (0)), (0, .ref 0), (1, .int (nI w))] : Lc)) (st1 := ([.int (0)] : List Value)) (w1 := (layM g h)) (by rfl) ?_
      refine bv_if_eq (j := 54) C rfl rfl (fun _ => ?_) (fun h => absurd h (by decide))
      refine bv_blk C frk_X9 csk_X9 1 55 rfl (L1 := ([(3, .int (0)), (2, .int (0)), (0, .ref 0), (1, .int (nI w))] : Lc)) (st1 := ([.int (0)] : List Value)) (w1 := (layM g h)) (by rfl) ?_
      exact bv_iret C rfl hr rfl ⟨by (rw [show wdB (g 3) w f b = false from if_neg (fun z => c1 (by rw [hf, hb, bg_at (k := w + 1) (by omega), bg_at (k := w) (by omega), pk_sub hfb, pk_sub hm1, z]))]; rfl), by (rfl)⟩
  · refine bv_blk C frk_X9 csk_X9 1 18 rfl (L1 := ([(0, .ref 0), (1, .int (nI w))] : Lc)) (st1 := ([.int (1)] : List Value)) (w1 := (layM g h)) (by rfl) ?_
    refine bv_goto (j := 20) C rfl rfl ?_
    refine bv_blk C frk_X9 csk_X9 3 23 rfl (L1 := ([(3, .int (0)), (2, .int (1)), (0, .ref 0), (1, .int (nI w))] : Lc)) (st1 := ([] : List Value)) (w1 := (layM g h)) (by rfl) ?_
    have hc0 : b - f = bgN (w + 1) - bgN w := (nI_eq (a := b - f) (b := bgN (w + 1) - bgN w) (by omega) (by omega)).mp (by have hz := c1; rw [hf, hb, bg_at (k := w + 1) (by omega), bg_at (k := w) (by omega), pk_sub hfb, pk_sub hm1] at hz; exact hz)
    have lp : ∀ (q j : Nat), j + q = b - f → wdL (g 3) f (bgN w) q j = wdB (g 3) w f b → bV p l e (bR 1) s0 m args below meth c D cA shM (adA ad 9) 4 tb_X9_isWord (MQ below (bQ D cA ad shM 9 (fun r w1 => r = (some (.int (b2i (wdB (g 3) w f b)))) ∧ w1 = (layM g h))) args s0 0 0 (adA ad 9)) ad 9 0 0 (layM g h) 23 ([(3, .int (nI j)), (2, .int (1)), (0, .ref 0), (1, .int (nI w))] : Lc) ([] : List Value) := by
      intro q
      induction q with
      | zero =>
        intro j hj heq
        rw [wdL_0] at heq
        refine bv_blk C frk_X9 csk_X9 6 29 rfl (L1 := ([(3, .int (nI j)), (2, .int (1)), (0, .ref 0), (1, .int (nI w))] : Lc)) (st1 := ([.int ((g 0 10) - (g 0 9)), .int (nI j)] : List Value)) (w1 := (layM g h)) (by rfl) ?_
        refine bv_icmp_ge (j := 54) C rfl rfl (fun _ => ?_) (fun h => absurd (by rw [show ((g 0 10) - (g 0 9)) = nI (b - f) from (nIs hb hf (by omega))]; exact (nI_le (a := (b - f)) (b := j) (by omega) (by omega))) h)
        refine bv_blk C frk_X9 csk_X9 1 55 rfl (L1 := ([(3, .int (nI j)), (2, .int (1)), (0, .ref 0), (1, .int (nI w))] : Lc)) (st1 := ([.int (1)] : List Value)) (w1 := (layM g h)) (by rfl) ?_
        exact bv_iret C rfl hr rfl ⟨by (rw [← heq]; rfl), by (rfl)⟩
      | succ q ih =>
        intro j hj heq
        refine bv_blk C frk_X9 csk_X9 6 29 rfl (L1 := ([(3, .int (nI j)), (2, .int (1)), (0, .ref 0), (1, .int (nI w))] : Lc)) (st1 := ([.int ((g 0 10) - (g 0 9)), .int (nI j)] : List Value)) (w1 := (layM g h)) (by rfl) ?_
        refine bv_icmp_ge (j := 54) C rfl rfl (fun h => absurd h (by rw [show ((g 0 10) - (g 0 9)) = nI (b - f) from (nIs hb hf (by omega))]; exact (nI_ge (a := j) (b := (b - f)) (by omega) (by omega)))) (fun _ => ?_)
        refine bv_blk C frk_X9 csk_X9 1 31 rfl (L1 := ([(3, .int (nI j)), (2, .int (1)), (0, .ref 0), (1, .int (nI w))] : Lc)) (st1 := ([.int (1)] : List Value)) (w1 := (layM g h)) (by rfl) ?_
        refine bv_if_eq (j := 54) C rfl rfl (fun h => absurd h (by decide)) (fun _ => ?_)
        refine bv_blk C frk_X9 csk_X9 6 38 rfl (L1 := ([(3, .int (nI j)), (2, .int (1)), (0, .ref 0), (1, .int (nI w))] : Lc)) (st1 := ([.int ((g 0 9) + (nI j)), .ref 3] : List Value)) (w1 := (layM g h)) (by rfl) ?_
        refine bv_iald C rfl rfl (by decide) (j := (f + j)) (by exact (nIa hf rfl)) (by first | decide | omega) (by decide) (y := (g 3 (f + j))) (by rfl) ?_
        refine bv_blk C frk_X9 csk_X9 4 43 rfl (L1 := ([(3, .int (nI j)), (2, .int (1)), (0, .ref 0), (1, .int (nI w))] : Lc)) (st1 := ([.int (nI w), .ref 7, .ref 0, .int (g 3 (f + j))] : List Value)) (w1 := (layM g h)) (by rfl) ?_
        refine bv_iald C rfl rfl (by decide) (j := w) (by exact rfl) (by first | decide | omega) (by decide) (y := (begT w)) (by rfl) ?_
        refine bv_blk C frk_X9 csk_X9 2 46 rfl (L1 := ([(3, .int (nI j)), (2, .int (1)), (0, .ref 0), (1, .int (nI w))] : Lc)) (st1 := ([.int ((begT w) + (nI j)), .ref 0, .int (g 3 (f + j))] : List Value)) (w1 := (layM g h)) (by rfl) ?_
        refine bv_fV1 C rfl (ct_letter hE g _ ((bgN w) + j) (by omega)) ml_X9_215 im_X9_letter sel_X9_letter ini_X9 cd_X9_letter ok_X9_letter rfl ⟨Nat.le_of_ble_eq_true rfl, Nat.le_of_ble_eq_true rfl⟩ ⟨Nat.zero_le _, Nat.zero_le _⟩ (by decide) rfl rfl rfl (rest := ([.int (g 3 (f + j))] : List Value)) (by first | (rw [show ((begT w) + (nI j)) = nI ((bgN w) + j) from (nIa (bg_at (by omega)) rfl)]; done) | (rw [show ((begT w) + (nI j)) = nI ((bgN w) + j) from (nIa (bg_at (by omega)) rfl)]; rfl)) (Nat.le_of_ble_eq_true rfl) ?_
        refine bv_icmp_ne (j := 50) C rfl rfl (fun c7 => ?_) (fun c7 => ?_)
        · refine bv_blk C frk_X9 csk_X9 3 53 rfl (L1 := ([(3, .int ((nI j) + Int32.ofInt 1)), (2, .int (0)), (0, .ref 0), (1, .int (nI w))] : Lc)) (st1 := ([] : List Value)) (w1 := (layM g h)) (by rfl) ?_
          rw [show ((nI j) + Int32.ofInt 1) = nI (j + 1) from (nIi rfl)]
          refine bv_goto (j := 23) C rfl rfl ?_
          refine bv_blk C frk_X9 csk_X9 6 29 rfl (L1 := ([(3, .int (nI (j + 1))), (2, .int (0)), (0, .ref 0), (1, .int (nI w))] : Lc)) (st1 := ([.int ((g 0 10) - (g 0 9)), .int (nI (j + 1))] : List Value)) (w1 := (layM g h)) (by rfl) ?_
          refine bv_icmp_ge (j := 54) C rfl rfl (fun c8 => ?_) (fun c8 => ?_)
          · refine bv_blk C frk_X9 csk_X9 1 55 rfl (L1 := ([(3, .int (nI (j + 1))), (2, .int (0)), (0, .ref 0), (1, .int (nI w))] : Lc)) (st1 := ([.int (0)] : List Value)) (w1 := (layM g h)) (by rfl) ?_
            exact bv_iret C rfl hr rfl ⟨by (rw [← heq, wdL_f c7]; rfl), by (rfl)⟩
          · refine bv_blk C frk_X9 csk_X9 1 31 rfl (L1 := ([(3, .int (nI (j + 1))), (2, .int (0)), (0, .ref 0), (1, .int (nI w))] : Lc)) (st1 := ([.int (0)] : List Value)) (w1 := (layM g h)) (by rfl) ?_
            refine bv_if_eq (j := 54) C rfl rfl (fun _ => ?_) (fun h => absurd h (by decide))
            refine bv_blk C frk_X9 csk_X9 1 55 rfl (L1 := ([(3, .int (nI (j + 1))), (2, .int (0)), (0, .ref 0), (1, .int (nI w))] : Lc)) (st1 := ([.int (0)] : List Value)) (w1 := (layM g h)) (by rfl) ?_
            exact bv_iret C rfl hr rfl ⟨by (rw [← heq, wdL_f c7]; rfl), by (rfl)⟩
        · refine bv_blk C frk_X9 csk_X9 1 49 rfl (L1 := ([(3, .int (nI j)), (2, .int (1)), (0, .ref 0), (1, .int (nI w))] : Lc)) (st1 := ([.int (1)] : List Value)) (w1 := (layM g h)) (by rfl) ?_
          refine bv_goto (j := 51) C rfl rfl ?_
          refine bv_blk C frk_X9 csk_X9 2 53 rfl (L1 := ([(3, .int ((nI j) + Int32.ofInt 1)), (2, .int (1)), (0, .ref 0), (1, .int (nI w))] : Lc)) (st1 := ([] : List Value)) (w1 := (layM g h)) (by rfl) ?_
          rw [show ((nI j) + Int32.ofInt 1) = nI (j + 1) from (nIi rfl)]
          refine bv_goto (j := 23) C rfl rfl ?_
          refine bv_sub [0, 1, 2, 3] (by rfl) ?_
          exact ih (j + 1) (by omega) (by rw [← heq, wdL_t c7])
    refine bv_sub [0, 1, 2, 3] (by rfl) ?_
    exact lp (b - f) 0 (by omega) (by unfold wdB; rw [if_pos hc0])
