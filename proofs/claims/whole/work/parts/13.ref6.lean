def stK (k : Nat) : Prop := k = 7 ∨ k = 12 ∨ k = 15 ∨ k = 17 ∨ k = 35 ∨ k = 37 ∨ (55 ≤ k ∧ k < 103 ∧ 2 ≤ (k - 55) % 6)
/-- the ranges that the levels rest on -/
def statR (g : Nat → Nat → Int32) (n : Nat) : Prop := g 1 12 = nI n ∧ n ≤ 8 ∧ (∃ a : Nat, g 1 7 = nI a ∧ a ≤ 60) ∧ (∃ a : Nat, g 1 15 = nI a ∧ 2 ≤ a ∧ a ≤ 16) ∧ (∃ a : Nat, g 1 35 = nI a ∧ 2 ≤ a ∧ a ≤ 16) ∧ (∃ a : Nat, g 1 17 = nI a ∧ a ≤ 100) ∧ (∃ a : Nat, g 1 37 = nI a ∧ a ≤ 100) ∧ ∀ p, p < n → (∃ a : Nat, g 1 (57 + 6 * p) = nI a ∧ a ≤ 300) ∧ (∃ a : Nat, g 1 (58 + 6 * p) = nI a ∧ a ≤ 200)
theorem st_same {g g' : Nat → Nat → Int32} {n : Nat} (ha : ∀ k, stK k → g' 1 k = g 1 k) (h : statR g n) : statR g' n := by
  obtain ⟨h1, h2, h3, h4, h5, h6, h7, h8⟩ := h
  refine ⟨by rw [ha _ (by unfold stK; omega)]; exact h1, h2, by rw [ha _ (by unfold stK; omega)]; exact h3, by rw [ha _ (by unfold stK; omega)]; exact h4, by rw [ha _ (by unfold stK; omega)]; exact h5, by rw [ha _ (by unfold stK; omega)]; exact h6, by rw [ha _ (by unfold stK; omega)]; exact h7, fun p hp => ?_⟩
  rw [ha _ (by unfold stK; omega), ha _ (by unfold stK; omega)]
  exact h8 p hp
theorem st_ug {g : Nat → Nat → Int32} {n i k : Nat} {x : Int32} (hk : ¬ (i = 1 ∧ (k = 7 ∨ k = 12 ∨ k = 15 ∨ k = 17 ∨ k = 35 ∨ k = 37 ∨ (55 ≤ k ∧ k < 103 ∧ 2 ≤ (k - 55) % 6)))) (h : statR g n) : statR (ug g i k x) n :=
  st_same (fun j hj => ug_ne (fun z => hk ⟨z.1.symm, by rw [← z.2]; exact hj⟩)) h
def kept (g g' : Nat → Nat → Int32) : Prop := ∀ k, stK k → g' 1 k = g 1 k
theorem kp_rf (g : Nat → Nat → Int32) : kept g g := fun _ _ => rfl
theorem kp_tr {g g1 g2 : Nat → Nat → Int32} (h1 : kept g g1) (h2 : kept g1 g2) : kept g g2 := fun k hk => (h2 k hk).trans (h1 k hk)
theorem kp_ug {g g0 : Nat → Nat → Int32} {i k : Nat} {x : Int32} (hk : ¬ (i = 1 ∧ (k = 7 ∨ k = 12 ∨ k = 15 ∨ k = 17 ∨ k = 35 ∨ k = 37 ∨ (55 ≤ k ∧ k < 103 ∧ 2 ≤ (k - 55) % 6)))) (h : kept g0 g) : kept g0 (ug g i k x) :=
  kp_tr h (fun j hj => ug_ne (fun z => hk ⟨z.1.symm, by rw [← z.2]; exact hj⟩))
theorem kp_snt {g g0 : Nat → Nat → Int32} {fr m : Nat} {b0 b1 t : Int32} (h : kept g0 g) : kept g0 (sntG g fr b0 b1 t m) := kp_ug (by omega) (kp_ug (by omega) (kp_ug (by omega) (kp_ug (by omega) h)))
theorem kp_fill {g g0 : Nat → Nat → Int32} {lo m : Nat} {v : Int32} (hk : (19 ≤ lo ∧ lo + m ≤ 35) ∨ (39 ≤ lo ∧ lo + m ≤ 55)) (h : kept g0 g) : kept g0 (fillG g lo m v) := by
  refine kp_tr h (fun j hj => ?_)
  unfold fillG
  rw [if_neg]
  unfold stK at hj
  omega
theorem st_snt {g : Nat → Nat → Int32} {n fr m : Nat} {b0 b1 t : Int32} (h : statR g n) : statR (sntG g fr b0 b1 t m) n := st_ug (by omega) (st_ug (by omega) (st_ug (by omega) (st_ug (by omega) h)))
theorem st_fill {g : Nat → Nat → Int32} {n lo m : Nat} {v : Int32} (hk : (19 ≤ lo ∧ lo + m ≤ 35) ∨ (39 ≤ lo ∧ lo + m ≤ 55)) (h : statR g n) : statR (fillG g lo m v) n := by
  refine st_same (fun j hj => ?_) h
  unfold fillG
  rw [if_neg]
  unfold stK at hj
  omega
theorem st_hA {g : Nat → Nat → Int32} {n : Nat} (h : statR g n) : ¬ g 1 7 + 1 = 0 := by
  obtain ⟨a, h1, h2⟩ := h.2.2.1
  rw [h1, nI_1]
  exact nI_ne0 (by omega) (by omega)
theorem st_m0 {g : Nat → Nat → Int32} {n : Nat} (h : statR g n) : ¬ g 1 15 = 0 := by
  obtain ⟨a, h1, h2, h3⟩ := h.2.2.2.1
  rw [h1]
  exact nI_ne0 (by omega) (by omega)
theorem st_m1 {g : Nat → Nat → Int32} {n : Nat} (h : statR g n) : ¬ g 1 35 = 0 := by
  obtain ⟨a, h1, h2, h3⟩ := h.2.2.2.2.1
  rw [h1]
  exact nI_ne0 (by omega) (by omega)
theorem st_lvB {g : Nat → Nat → Int32} {n : Nat} (h : statR g n) {fr : Nat} (hf : fr < 2) (b0 b1 : Int32) : lvB g fr b0 b1 n := by
  obtain ⟨-, h8, -, -, -, h6, h7, hp⟩ := h
  refine ⟨h8, fun q hq => ?_⟩
  obtain ⟨⟨a, a1, a2⟩, ⟨c, c1, c2⟩⟩ := hp q hq
  have e0 : ∃ k : Nat, g 1 (15 + 20 * fr + 2) = nI k ∧ k ≤ 100 := by
    rcases (show fr = 0 ∨ fr = 1 by omega) with rfl | rfl
    · exact h6
    · exact h7
  obtain ⟨k, k1, k2⟩ := e0
  have z : -580 ≤ (levG g fr b0 b1 q).toInt ∧ (levG g fr b0 b1 q).toInt ≤ 196 := by
    unfold levG
    rw [k1, show 55 + 6 * q + 2 = 57 + 6 * q by omega, show 55 + 6 * q + 3 = 58 + 6 * q by omega, a1, c1]
    refine lev_b ?_ (ga_r _ _ _ _) (ga_r _ _ _ _) ?_ ?_
    · rw [nI_toInt (by omega)]; omega
    · rw [nI_toInt (by omega)]; omega
    · rw [nI_toInt (by omega)]; omega
  exact ⟨((levG g fr b0 b1 q).toInt + 700).toNat, by omega, by omega, n7_of (by omega) (by omega)⟩
theorem okQ_of {g : Nat → Nat → Int32} {n : Nat} (h : statR g n) (fr : Nat) (hf : fr < 2) (b0 b1 : Int32) : okQ g fr b0 b1 n := by
  have hl := st_lvB h hf b0 b1
  refine ⟨h.1, h.2.1, st_m0 h, st_m1 h, fun q hq => ?_, fun q hq => ?_⟩
  · obtain ⟨k, k1, k2, k3⟩ := hl.2 q hq
    exact ⟨k, by omega, k3⟩
  · exact pF_n32 (Nat.le_of_lt (rec_F hl (q + 1) (by omega)).1)
def b0W (fr : Nat) (b o : Int32) : Int32 := if fr = 0 then b else o
def b1W (fr : Nat) (b o : Int32) : Int32 := if fr = 0 then o else b
theorem b2i_0 {b : Bool} (h : b2i b = 0) : b = false := by cases b <;> first | rfl | (exact absurd h (by decide))
theorem b2i_1 {b : Bool} (h : ¬ b2i b = 0) : b = true := by cases b <;> first | rfl | (exact absurd rfl h)
set_option maxRecDepth 100000 in
set_option maxHeartbeats 4000000 in
theorem ct_sW0 {l : Launch} {D : va_G} {cA : FieldType → ClassId} {z0 : Nat} {SK SV : Nat → Nat} {ad : Nat → Nat} (hE : aD (fun q => z0 ≤ q) ad 9) (g : Nat → Nat → Int32) (h : Int64) (n : Nat) (b o t : Int32) (hs : statR g n) : bF l D cA z0 SK SV ad shM 9 yX9_sendsWith cX9_sendsWith 5 (some .boolean) 7 [.ref 0, .int (0), .int b, .int o, .int t] (layM g h) (some (.int (b2i (hrdG g 0 b o n)))) (layM (sntG g 0 b o t n) h) := by
  refine bCT_intro (tb := tb_X9_sendsWith) (own := RX9) hE pn_X9 rfl tk_X9_sendsWith rfl (Nat.le_of_ble_eq_true rfl) ?_
  intro p e s0 m args below meth c C hr
  refine bv_blk C frk_X9 csk_X9 1 1 rfl (L1 := ([(0, .ref 0), (1, .int (0)), (2, .int b), (3, .int o), (4, .int t)] : Lc)) (st1 := ([.int (0)] : List Value)) (w1 := (layM g h)) (by rfl) ?_
  refine bv_if_ne (j := 9) C rfl rfl (fun h => absurd h (by decide)) (fun _ => ?_)
  refine bv_blk C frk_X9 csk_X9 5 7 rfl (L1 := ([(0, .ref 0), (1, .int (0)), (2, .int b), (3, .int o), (4, .int t)] : Lc)) (st1 := ([.int t, .int o, .int b, .int (0), .ref 0] : List Value)) (w1 := (layM g h)) (by rfl) ?_
  refine bv_fV1 C rfl (ct_sends hE g _ 0 n b o t (by omega) (okQ_of hs 0 (by omega) _ _) (st_hA hs)) ml_X9_109 im_X9_sends sel_X9_sends ini_X9 cd_X9_sends ok_X9_sends rfl ⟨Nat.le_of_ble_eq_true rfl, Nat.le_of_ble_eq_true rfl⟩ ⟨Nat.zero_le _, Nat.zero_le _⟩ (by decide) rfl rfl rfl (rest := ([] : List Value)) rfl (Nat.le_of_ble_eq_true rfl) ?_
  refine bv_goto (j := 15) C rfl rfl ?_
  exact bv_iret C rfl hr (nar_b2i _) ⟨by (rfl), by (rfl)⟩
set_option maxRecDepth 100000 in
set_option maxHeartbeats 4000000 in
theorem ct_sW1 {l : Launch} {D : va_G} {cA : FieldType → ClassId} {z0 : Nat} {SK SV : Nat → Nat} {ad : Nat → Nat} (hE : aD (fun q => z0 ≤ q) ad 9) (g : Nat → Nat → Int32) (h : Int64) (n : Nat) (b o t : Int32) (hs : statR g n) : bF l D cA z0 SK SV ad shM 9 yX9_sendsWith cX9_sendsWith 5 (some .boolean) 7 [.ref 0, .int (1), .int b, .int o, .int t] (layM g h) (some (.int (b2i (hrdG g 1 o b n)))) (layM (sntG g 1 o b t n) h) := by
  refine bCT_intro (tb := tb_X9_sendsWith) (own := RX9) hE pn_X9 rfl tk_X9_sendsWith rfl (Nat.le_of_ble_eq_true rfl) ?_
  intro p e s0 m args below meth c C hr
  refine bv_blk C frk_X9 csk_X9 1 1 rfl (L1 := ([(0, .ref 0), (1, .int (1)), (2, .int b), (3, .int o), (4, .int t)] : Lc)) (st1 := ([.int (1)] : List Value)) (w1 := (layM g h)) (by rfl) ?_
  refine bv_if_ne (j := 9) C rfl rfl (fun _ => ?_) (fun h => absurd h (by decide))
  refine bv_blk C frk_X9 csk_X9 5 14 rfl (L1 := ([(0, .ref 0), (1, .int (1)), (2, .int b), (3, .int o), (4, .int t)] : Lc)) (st1 := ([.int t, .int b, .int o, .int (1), .ref 0] : List Value)) (w1 := (layM g h)) (by rfl) ?_
  refine bv_fV1 C rfl (ct_sends hE g _ 1 n o b t (by omega) (okQ_of hs 1 (by omega) _ _) (st_hA hs)) ml_X9_109 im_X9_sends sel_X9_sends ini_X9 cd_X9_sends ok_X9_sends rfl ⟨Nat.le_of_ble_eq_true rfl, Nat.le_of_ble_eq_true rfl⟩ ⟨Nat.zero_le _, Nat.zero_le _⟩ (by decide) rfl rfl rfl (rest := ([] : List Value)) rfl (Nat.le_of_ble_eq_true rfl) ?_
  exact bv_iret C rfl hr (nar_b2i _) ⟨by (rfl), by (rfl)⟩
theorem ct_sendsWith {l : Launch} {D : va_G} {cA : FieldType → ClassId} {z0 : Nat} {SK SV : Nat → Nat} {ad : Nat → Nat} (hE : aD (fun q => z0 ≤ q) ad 9) (g : Nat → Nat → Int32) (h : Int64) (fr n : Nat) (b o t : Int32) (hf : fr < 2) (hs : statR g n) : bF l D cA z0 SK SV ad shM 9 yX9_sendsWith cX9_sendsWith 5 (some .boolean) 7 [.ref 0, .int (nI fr), .int b, .int o, .int t] (layM g h) (some (.int (b2i (hrdG g fr (b0W fr b o) (b1W fr b o) n)))) (layM (sntG g fr (b0W fr b o) (b1W fr b o) t n) h) := by
  rcases (show fr = 0 ∨ fr = 1 by omega) with rfl | rfl
  · exact ct_sW0 hE g h n b o t hs
  · exact ct_sW1 hE g h n b o t hs
/-- one sweep frame: station fr with its wide beam k, the other one's table -/
def swpS (fr n : Nat) (g : Nat → Nat → Int32) (k : Nat) : Nat → Nat → Int32 := if hrdG g fr (b0W fr (nI k) (-1)) (b1W fr (nI k) (-1)) n = true then ug (sntG g fr (b0W fr (nI k) (-1)) (b1W fr (nI k) (-1)) 16 n) 1 (15 + 20 * (1 - fr) + (4 + k)) (sntG g fr (b0W fr (nI k) (-1)) (b1W fr (nI k) (-1)) 16 n 0 5) else sntG g fr (b0W fr (nI k) (-1)) (b1W fr (nI k) (-1)) 16 n
theorem swpS_t {fr n k : Nat} {g : Nat → Nat → Int32} (h : hrdG g fr (b0W fr (nI k) (-1)) (b1W fr (nI k) (-1)) n = true) : swpS fr n g k = ug (sntG g fr (b0W fr (nI k) (-1)) (b1W fr (nI k) (-1)) 16 n) 1 (15 + 20 * (1 - fr) + (4 + k)) (sntG g fr (b0W fr (nI k) (-1)) (b1W fr (nI k) (-1)) 16 n 0 5) := by
  unfold swpS
  rw [if_pos h]
theorem swpS_f {fr n k : Nat} {g : Nat → Nat → Int32} (h : hrdG g fr (b0W fr (nI k) (-1)) (b1W fr (nI k) (-1)) n = false) : swpS fr n g k = sntG g fr (b0W fr (nI k) (-1)) (b1W fr (nI k) (-1)) 16 n := by
  unfold swpS
  rw [if_neg (by rw [h]; exact Bool.false_ne_true)]
def swpG (fr n : Nat) : Nat → (Nat → Nat → Int32) → Nat → Nat → Int32
  | 0, g => g
  | k + 1, g => swpG fr n k (swpS fr n g k)
def swpA (fr n : Nat) : Nat → (Nat → Nat → Int32) → Bool → Bool
  | 0, _, a => a
  | k + 1, g, a => swpA fr n k (swpS fr n g k) (hrdG g fr (b0W fr (nI k) (-1)) (b1W fr (nI k) (-1)) n || a)
theorem nI_m1 (m : Nat) : nI m + Int32.ofInt (-1) = nI m - 1 := by
  rw [show Int32.ofInt (-1) = -1 from by decide, Int32.sub_eq_add_neg]
set_option maxRecDepth 100000 in
set_option maxHeartbeats 4000000 in
theorem ct_sweeps0 {l : Launch} {D : va_G} {cA : FieldType → ClassId} {z0 : Nat} {SK SV : Nat → Nat} {ad : Nat → Nat} (hE : aD (fun q => z0 ≤ q) ad 9) (g : Nat → Nat → Int32) (h : Int64) (n S : Nat) (hs : statR g n) (hS : g 1 15 = nI S) (hS2 : 2 ≤ S ∧ S ≤ 16) : bF l D cA z0 SK SV ad shM 9 yX9_sweeps cX9_sweeps 5 (some .boolean) 8 [.ref 0, .int (0)] (layM g h) (some (.int (b2i (swpA 0 n S (fillG g 39 16 (-100000)) false)))) (layM (swpG 0 n S (fillG g 39 16 (-100000))) h) := by
  refine bCT_intro (tb := tb_X9_sweeps) (own := RX9) hE pn_X9 rfl tk_X9_sweeps rfl (Nat.le_of_ble_eq_true rfl) ?_
  intro p e s0 m args below meth c C hr
  refine bv_blk C frk_X9 csk_X9 8 8 rfl (L1 := ([(3, .int (0)), (2, .int ((1) - (0))), (0, .ref 0), (1, .int (0))] : Lc)) (st1 := ([.int ((1) - (0)), .ref 0] : List Value)) (w1 := (layM g h)) (by rfl) ?_
  refine bv_fV0 C rfl (ct_clearsTable hE _ _ 1 (by omega)) ml_X9_53 im_X9_clearsTable sel_X9_clearsTable ini_X9 cd_X9_clearsTable ok_X9_clearsTable rfl ⟨Nat.le_of_ble_eq_true rfl, Nat.le_of_ble_eq_true rfl⟩ ⟨Nat.zero_le _, Nat.zero_le _⟩ (by decide) rfl rfl rfl (rest := ([] : List Value)) rfl (Nat.le_of_ble_eq_true rfl) ?_
  refine bv_blk C frk_X9 csk_X9 3 12 rfl (L1 := ([(3, .int (0)), (2, .int ((1) - (0))), (0, .ref 0), (1, .int (0))] : Lc)) (st1 := ([.int (0), .int (0), .ref 0] : List Value)) (w1 := (layM (fillG g 39 16 (-100000)) h)) (by rfl) ?_
  refine bv_fV1 C rfl (ct_of hE _ _ 0 0 (by omega) (by omega)) ml_X9_69 im_X9_of sel_X9_of ini_X9 cd_X9_of ok_X9_of rfl ⟨Nat.le_of_ble_eq_true rfl, Nat.le_of_ble_eq_true rfl⟩ ⟨Nat.zero_le _, Nat.zero_le _⟩ (by decide) rfl rfl rfl (rest := ([] : List Value)) rfl (Nat.le_of_ble_eq_true rfl) ?_
  refine bv_blk C frk_X9 csk_X9 3 16 rfl (L1 := ([(4, .int (((fillG g 39 16 (-100000)) 1 15) - (1))), (3, .int (0)), (2, .int ((1) - (0))), (0, .ref 0), (1, .int (0))] : Lc)) (st1 := ([] : List Value)) (w1 := (layM (fillG g 39 16 (-100000)) h)) (by rfl) ?_
  have lp : ∀ (j : Nat) (a : Bool) (gg : Nat → Nat → Int32), j ≤ 16 → statR gg n → b2i (swpA 0 n j gg a) = b2i (swpA 0 n S (fillG g 39 16 (-100000)) false) → swpG 0 n j gg = (swpG 0 n S (fillG g 39 16 (-100000))) → bV p l e (bR 8) s0 m args below meth c D cA shM (adA ad 9) 5 tb_X9_sweeps (MQ below (bQ D cA ad shM 9 (fun r w1 => r = (some (.int (b2i (swpA 0 n S (fillG g 39 16 (-100000)) false)))) ∧ w1 = (layM (swpG 0 n S (fillG g 39 16 (-100000))) h))) args s0 0 0 (adA ad 9)) ad 9 0 0 (layM gg h) 16 ([(4, .int (nI j - 1)), (3, .int (b2i a)), (2, .int (1 - (0))), (0, .ref 0), (1, .int (0))] : Lc) ([] : List Value) := by
    intro j
    induction j with
    | zero =>
      intro a gg hj hs h1 h2
      refine bv_blk C frk_X9 csk_X9 1 17 rfl (L1 := ([(4, .int (nI 0 - 1)), (3, .int (b2i a)), (2, .int (1 - (0))), (0, .ref 0), (1, .int (0))] : Lc)) (st1 := ([.int (nI 0 - 1)] : List Value)) (w1 := (layM gg h)) (by rfl) ?_
      refine bv_if_lt (j := 37) C rfl rfl (fun _ => ?_) (fun h => absurd (by decide) h)
      refine bv_blk C frk_X9 csk_X9 1 38 rfl (L1 := ([(4, .int (nI 0 - 1)), (3, .int (b2i a)), (2, .int (1 - (0))), (0, .ref 0), (1, .int (0))] : Lc)) (st1 := ([.int (b2i a)] : List Value)) (w1 := (layM gg h)) (by rfl) ?_
      exact bv_iret C rfl hr (nar_b2i _) ⟨by (rw [← h1]; rfl), by (rw [← h2]; rfl)⟩
    | succ j ih =>
      intro a gg hj hs h1 h2
      refine bv_blk C frk_X9 csk_X9 1 17 rfl (L1 := ([(4, .int (nI (j + 1) - 1)), (3, .int (b2i a)), (2, .int (1 - (0))), (0, .ref 0), (1, .int (0))] : Lc)) (st1 := ([.int (nI (j + 1) - 1)] : List Value)) (w1 := (layM gg h)) (by rfl) ?_
      refine bv_if_lt (j := 37) C rfl rfl (fun h => absurd h (by rw [nI_pred]; exact nI_pos (by omega))) (fun _ => ?_)
      rw [nI_pred j]
      refine bv_blk C frk_X9 csk_X9 5 23 rfl (L1 := ([(4, .int (nI j)), (3, .int (b2i a)), (2, .int (1 - (0))), (0, .ref 0), (1, .int (0))] : Lc)) (st1 := ([.int (16), .int (-1), .int (nI j), .int (0), .ref 0] : List Value)) (w1 := (layM gg h)) (by rfl) ?_
      refine bv_fV1 C rfl (ct_sW0 hE gg _ n (nI j) (-1) (16) hs) ml_X9_113 im_X9_sendsWith sel_X9_sendsWith ini_X9 cd_X9_sendsWith ok_X9_sendsWith rfl ⟨Nat.le_of_ble_eq_true rfl, Nat.le_of_ble_eq_true rfl⟩ ⟨Nat.zero_le _, Nat.zero_le _⟩ (by decide) rfl rfl rfl (rest := ([] : List Value)) rfl (Nat.le_of_ble_eq_true rfl) ?_
      refine bv_if_eq (j := 35) C rfl rfl (fun c3 => ?_) (fun c3 => ?_)
      · refine bv_blk C frk_X9 csk_X9 1 36 rfl (L1 := ([(4, .int ((nI j) + Int32.ofInt (-1))), (3, .int (b2i a)), (2, .int (1 - (0))), (0, .ref 0), (1, .int (0))] : Lc)) (st1 := ([] : List Value)) (w1 := (layM (sntG gg 0 (nI j) (-1) (16) n) h)) (by rfl) ?_
        refine bv_goto (j := 16) C rfl rfl ?_
        rw [nI_m1 j]
        refine bv_sub [0, 1, 2, 3, 4] (by rfl) ?_
        have hb := b2i_0 c3
        refine ih a _ (by omega) (st_same (kp_snt (kp_rf _)) hs) ?_ ?_
        · rw [← h1, show swpA 0 n (j + 1) gg a = swpA 0 n j (swpS 0 n gg j) (hrdG gg 0 (b0W 0 (nI j) (-1)) (b1W 0 (nI j) (-1)) n || a) from rfl, swpS_f (show hrdG gg 0 (b0W 0 (nI j) (-1)) (b1W 0 (nI j) (-1)) n = false from hb), show hrdG gg 0 (b0W 0 (nI j) (-1)) (b1W 0 (nI j) (-1)) n = false from hb, Bool.false_or]; rfl
        · rw [← h2, show swpG 0 n (j + 1) gg = swpG 0 n j (swpS 0 n gg j) from rfl, swpS_f (show hrdG gg 0 (b0W 0 (nI j) (-1)) (b1W 0 (nI j) (-1)) n = false from hb)]; rfl
      · refine bv_blk C frk_X9 csk_X9 7 32 rfl (L1 := ([(4, .int (nI j)), (3, .int (b2i a)), (2, .int (1 - (0))), (0, .ref 0), (1, .int (0))] : Lc)) (st1 := ([.int ((sntG gg 0 (nI j) (-1) (16) n) 0 5), .int ((4) + (nI j)), .int (1 - (0)), .ref 0] : List Value)) (w1 := (layM (sntG gg 0 (nI j) (-1) (16) n) h)) (by rfl) ?_
        refine bv_fV0 C rfl (ct_sets hE _ _ 1 (4 + j) ((sntG gg 0 (nI j) (-1) (16) n) 0 5) (by omega) (by omega)) ml_X9_48 im_X9_sets sel_X9_sets ini_X9 cd_X9_sets ok_X9_sets rfl ⟨Nat.le_of_ble_eq_true rfl, Nat.le_of_ble_eq_true rfl⟩ ⟨Nat.zero_le _, Nat.zero_le _⟩ (by decide) rfl rfl rfl (rest := ([] : List Value)) (by first | (rw [show ((4) + (nI j)) = nI (4 + j) from (nIa rfl rfl)]; done) | (rw [show ((4) + (nI j)) = nI (4 + j) from (nIa rfl rfl)]; rfl)) (Nat.le_of_ble_eq_true rfl) ?_
        refine bv_blk C frk_X9 csk_X9 2 35 rfl (L1 := ([(3, .int (1)), (4, .int (nI j)), (2, .int (1 - (0))), (0, .ref 0), (1, .int (0))] : Lc)) (st1 := ([] : List Value)) (w1 := (layM (ug (sntG gg 0 (nI j) (-1) (16) n) 1 (15 + 20 * 1 + (4 + j)) ((sntG gg 0 (nI j) (-1) (16) n) 0 5)) h)) (by rfl) ?_
        refine bv_blk C frk_X9 csk_X9 1 36 rfl (L1 := ([(4, .int ((nI j) + Int32.ofInt (-1))), (3, .int (1)), (2, .int (1 - (0))), (0, .ref 0), (1, .int (0))] : Lc)) (st1 := ([] : List Value)) (w1 := (layM (ug (sntG gg 0 (nI j) (-1) (16) n) 1 (15 + 20 * 1 + (4 + j)) ((sntG gg 0 (nI j) (-1) (16) n) 0 5)) h)) (by rfl) ?_
        refine bv_goto (j := 16) C rfl rfl ?_
        rw [nI_m1 j]
        refine bv_sub [0, 1, 2, 3, 4] (by rfl) ?_
        have hb := b2i_1 c3
        refine ih true _ (by omega) (st_same (kp_ug (i := 1) (k := (15 + 20 * 1 + (4 + j))) (x := ((sntG gg 0 (nI j) (-1) (16) n) 0 5)) (by omega) (kp_snt (kp_rf _))) hs) ?_ ?_
        · rw [← h1, show swpA 0 n (j + 1) gg a = swpA 0 n j (swpS 0 n gg j) (hrdG gg 0 (b0W 0 (nI j) (-1)) (b1W 0 (nI j) (-1)) n || a) from rfl, swpS_t (show hrdG gg 0 (b0W 0 (nI j) (-1)) (b1W 0 (nI j) (-1)) n = true from hb), show hrdG gg 0 (b0W 0 (nI j) (-1)) (b1W 0 (nI j) (-1)) n = true from hb, Bool.true_or]; rfl
        · rw [← h2, show swpG 0 n (j + 1) gg = swpG 0 n j (swpS 0 n gg j) from rfl, swpS_t (show hrdG gg 0 (b0W 0 (nI j) (-1)) (b1W 0 (nI j) (-1)) n = true from hb)]; rfl
  rw [show fillG g 39 16 (-100000) 1 15 = nI S from (by unfold fillG; rw [if_neg (by omega)]; exact hS)]
  refine bv_sub [0, 1, 2, 3, 4] (by rfl) ?_
  exact lp S false _ (by omega) (st_fill (by omega) hs) rfl rfl
set_option maxRecDepth 100000 in
set_option maxHeartbeats 4000000 in
theorem ct_sweeps1 {l : Launch} {D : va_G} {cA : FieldType → ClassId} {z0 : Nat} {SK SV : Nat → Nat} {ad : Nat → Nat} (hE : aD (fun q => z0 ≤ q) ad 9) (g : Nat → Nat → Int32) (h : Int64) (n S : Nat) (hs : statR g n) (hS : g 1 35 = nI S) (hS2 : 2 ≤ S ∧ S ≤ 16) : bF l D cA z0 SK SV ad shM 9 yX9_sweeps cX9_sweeps 5 (some .boolean) 8 [.ref 0, .int (1)] (layM g h) (some (.int (b2i (swpA 1 n S (fillG g 19 16 (-100000)) false)))) (layM (swpG 1 n S (fillG g 19 16 (-100000))) h) := by
  refine bCT_intro (tb := tb_X9_sweeps) (own := RX9) hE pn_X9 rfl tk_X9_sweeps rfl (Nat.le_of_ble_eq_true rfl) ?_
  intro p e s0 m args below meth c C hr
  refine bv_blk C frk_X9 csk_X9 8 8 rfl (L1 := ([(3, .int (0)), (2, .int ((1) - (1))), (0, .ref 0), (1, .int (1))] : Lc)) (st1 := ([.int ((1) - (1)), .ref 0] : List Value)) (w1 := (layM g h)) (by rfl) ?_
  refine bv_fV0 C rfl (ct_clearsTable hE _ _ 0 (by omega)) ml_X9_53 im_X9_clearsTable sel_X9_clearsTable ini_X9 cd_X9_clearsTable ok_X9_clearsTable rfl ⟨Nat.le_of_ble_eq_true rfl, Nat.le_of_ble_eq_true rfl⟩ ⟨Nat.zero_le _, Nat.zero_le _⟩ (by decide) rfl rfl rfl (rest := ([] : List Value)) rfl (Nat.le_of_ble_eq_true rfl) ?_
  refine bv_blk C frk_X9 csk_X9 3 12 rfl (L1 := ([(3, .int (0)), (2, .int ((1) - (1))), (0, .ref 0), (1, .int (1))] : Lc)) (st1 := ([.int (0), .int (1), .ref 0] : List Value)) (w1 := (layM (fillG g 19 16 (-100000)) h)) (by rfl) ?_
  refine bv_fV1 C rfl (ct_of hE _ _ 1 0 (by omega) (by omega)) ml_X9_69 im_X9_of sel_X9_of ini_X9 cd_X9_of ok_X9_of rfl ⟨Nat.le_of_ble_eq_true rfl, Nat.le_of_ble_eq_true rfl⟩ ⟨Nat.zero_le _, Nat.zero_le _⟩ (by decide) rfl rfl rfl (rest := ([] : List Value)) rfl (Nat.le_of_ble_eq_true rfl) ?_
  refine bv_blk C frk_X9 csk_X9 3 16 rfl (L1 := ([(4, .int (((fillG g 19 16 (-100000)) 1 35) - (1))), (3, .int (0)), (2, .int ((1) - (1))), (0, .ref 0), (1, .int (1))] : Lc)) (st1 := ([] : List Value)) (w1 := (layM (fillG g 19 16 (-100000)) h)) (by rfl) ?_
  have lp : ∀ (j : Nat) (a : Bool) (gg : Nat → Nat → Int32), j ≤ 16 → statR gg n → b2i (swpA 1 n j gg a) = b2i (swpA 1 n S (fillG g 19 16 (-100000)) false) → swpG 1 n j gg = (swpG 1 n S (fillG g 19 16 (-100000))) → bV p l e (bR 8) s0 m args below meth c D cA shM (adA ad 9) 5 tb_X9_sweeps (MQ below (bQ D cA ad shM 9 (fun r w1 => r = (some (.int (b2i (swpA 1 n S (fillG g 19 16 (-100000)) false)))) ∧ w1 = (layM (swpG 1 n S (fillG g 19 16 (-100000))) h))) args s0 0 0 (adA ad 9)) ad 9 0 0 (layM gg h) 16 ([(4, .int (nI j - 1)), (3, .int (b2i a)), (2, .int (1 - (1))), (0, .ref 0), (1, .int (1))] : Lc) ([] : List Value) := by
    intro j
    induction j with
    | zero =>
      intro a gg hj hs h1 h2
      refine bv_blk C frk_X9 csk_X9 1 17 rfl (L1 := ([(4, .int (nI 0 - 1)), (3, .int (b2i a)), (2, .int (1 - (1))), (0, .ref 0), (1, .int (1))] : Lc)) (st1 := ([.int (nI 0 - 1)] : List Value)) (w1 := (layM gg h)) (by rfl) ?_
      refine bv_if_lt (j := 37) C rfl rfl (fun _ => ?_) (fun h => absurd (by decide) h)
      refine bv_blk C frk_X9 csk_X9 1 38 rfl (L1 := ([(4, .int (nI 0 - 1)), (3, .int (b2i a)), (2, .int (1 - (1))), (0, .ref 0), (1, .int (1))] : Lc)) (st1 := ([.int (b2i a)] : List Value)) (w1 := (layM gg h)) (by rfl) ?_
      exact bv_iret C rfl hr (nar_b2i _) ⟨by (rw [← h1]; rfl), by (rw [← h2]; rfl)⟩
    | succ j ih =>
      intro a gg hj hs h1 h2
      refine bv_blk C frk_X9 csk_X9 1 17 rfl (L1 := ([(4, .int (nI (j + 1) - 1)), (3, .int (b2i a)), (2, .int (1 - (1))), (0, .ref 0), (1, .int (1))] : Lc)) (st1 := ([.int (nI (j + 1) - 1)] : List Value)) (w1 := (layM gg h)) (by rfl) ?_
      refine bv_if_lt (j := 37) C rfl rfl (fun h => absurd h (by rw [nI_pred]; exact nI_pos (by omega))) (fun _ => ?_)
      rw [nI_pred j]
      refine bv_blk C frk_X9 csk_X9 5 23 rfl (L1 := ([(4, .int (nI j)), (3, .int (b2i a)), (2, .int (1 - (1))), (0, .ref 0), (1, .int (1))] : Lc)) (st1 := ([.int (16), .int (-1), .int (nI j), .int (1), .ref 0] : List Value)) (w1 := (layM gg h)) (by rfl) ?_
      refine bv_fV1 C rfl (ct_sW1 hE gg _ n (nI j) (-1) (16) hs) ml_X9_113 im_X9_sendsWith sel_X9_sendsWith ini_X9 cd_X9_sendsWith ok_X9_sendsWith rfl ⟨Nat.le_of_ble_eq_true rfl, Nat.le_of_ble_eq_true rfl⟩ ⟨Nat.zero_le _, Nat.zero_le _⟩ (by decide) rfl rfl rfl (rest := ([] : List Value)) rfl (Nat.le_of_ble_eq_true rfl) ?_
      refine bv_if_eq (j := 35) C rfl rfl (fun c3 => ?_) (fun c3 => ?_)
      · refine bv_blk C frk_X9 csk_X9 1 36 rfl (L1 := ([(4, .int ((nI j) + Int32.ofInt (-1))), (3, .int (b2i a)), (2, .int (1 - (1))), (0, .ref 0), (1, .int (1))] : Lc)) (st1 := ([] : List Value)) (w1 := (layM (sntG gg 1 (-1) (nI j) (16) n) h)) (by rfl) ?_
        refine bv_goto (j := 16) C rfl rfl ?_
        rw [nI_m1 j]
        refine bv_sub [0, 1, 2, 3, 4] (by rfl) ?_
        have hb := b2i_0 c3
        refine ih a _ (by omega) (st_same (kp_snt (kp_rf _)) hs) ?_ ?_
        · rw [← h1, show swpA 1 n (j + 1) gg a = swpA 1 n j (swpS 1 n gg j) (hrdG gg 1 (b0W 1 (nI j) (-1)) (b1W 1 (nI j) (-1)) n || a) from rfl, swpS_f (show hrdG gg 1 (b0W 1 (nI j) (-1)) (b1W 1 (nI j) (-1)) n = false from hb), show hrdG gg 1 (b0W 1 (nI j) (-1)) (b1W 1 (nI j) (-1)) n = false from hb, Bool.false_or]; rfl
        · rw [← h2, show swpG 1 n (j + 1) gg = swpG 1 n j (swpS 1 n gg j) from rfl, swpS_f (show hrdG gg 1 (b0W 1 (nI j) (-1)) (b1W 1 (nI j) (-1)) n = false from hb)]; rfl
      · refine bv_blk C frk_X9 csk_X9 7 32 rfl (L1 := ([(4, .int (nI j)), (3, .int (b2i a)), (2, .int (1 - (1))), (0, .ref 0), (1, .int (1))] : Lc)) (st1 := ([.int ((sntG gg 1 (-1) (nI j) (16) n) 0 5), .int ((4) + (nI j)), .int (1 - (1)), .ref 0] : List Value)) (w1 := (layM (sntG gg 1 (-1) (nI j) (16) n) h)) (by rfl) ?_
        refine bv_fV0 C rfl (ct_sets hE _ _ 0 (4 + j) ((sntG gg 1 (-1) (nI j) (16) n) 0 5) (by omega) (by omega)) ml_X9_48 im_X9_sets sel_X9_sets ini_X9 cd_X9_sets ok_X9_sets rfl ⟨Nat.le_of_ble_eq_true rfl, Nat.le_of_ble_eq_true rfl⟩ ⟨Nat.zero_le _, Nat.zero_le _⟩ (by decide) rfl rfl rfl (rest := ([] : List Value)) (by first | (rw [show ((4) + (nI j)) = nI (4 + j) from (nIa rfl rfl)]; done) | (rw [show ((4) + (nI j)) = nI (4 + j) from (nIa rfl rfl)]; rfl)) (Nat.le_of_ble_eq_true rfl) ?_
        refine bv_blk C frk_X9 csk_X9 2 35 rfl (L1 := ([(3, .int (1)), (4, .int (nI j)), (2, .int (1 - (1))), (0, .ref 0), (1, .int (1))] : Lc)) (st1 := ([] : List Value)) (w1 := (layM (ug (sntG gg 1 (-1) (nI j) (16) n) 1 (15 + 20 * 0 + (4 + j)) ((sntG gg 1 (-1) (nI j) (16) n) 0 5)) h)) (by rfl) ?_
        refine bv_blk C frk_X9 csk_X9 1 36 rfl (L1 := ([(4, .int ((nI j) + Int32.ofInt (-1))), (3, .int (1)), (2, .int (1 - (1))), (0, .ref 0), (1, .int (1))] : Lc)) (st1 := ([] : List Value)) (w1 := (layM (ug (sntG gg 1 (-1) (nI j) (16) n) 1 (15 + 20 * 0 + (4 + j)) ((sntG gg 1 (-1) (nI j) (16) n) 0 5)) h)) (by rfl) ?_
        refine bv_goto (j := 16) C rfl rfl ?_
        rw [nI_m1 j]
        refine bv_sub [0, 1, 2, 3, 4] (by rfl) ?_
        have hb := b2i_1 c3
        refine ih true _ (by omega) (st_same (kp_ug (i := 1) (k := (15 + 20 * 0 + (4 + j))) (x := ((sntG gg 1 (-1) (nI j) (16) n) 0 5)) (by omega) (kp_snt (kp_rf _))) hs) ?_ ?_
        · rw [← h1, show swpA 1 n (j + 1) gg a = swpA 1 n j (swpS 1 n gg j) (hrdG gg 1 (b0W 1 (nI j) (-1)) (b1W 1 (nI j) (-1)) n || a) from rfl, swpS_t (show hrdG gg 1 (b0W 1 (nI j) (-1)) (b1W 1 (nI j) (-1)) n = true from hb), show hrdG gg 1 (b0W 1 (nI j) (-1)) (b1W 1 (nI j) (-1)) n = true from hb, Bool.true_or]; rfl
        · rw [← h2, show swpG 1 n (j + 1) gg = swpG 1 n j (swpS 1 n gg j) from rfl, swpS_t (show hrdG gg 1 (b0W 1 (nI j) (-1)) (b1W 1 (nI j) (-1)) n = true from hb)]; rfl
  rw [show fillG g 19 16 (-100000) 1 35 = nI S from (by unfold fillG; rw [if_neg (by omega)]; exact hS)]
  refine bv_sub [0, 1, 2, 3, 4] (by rfl) ?_
  exact lp S false _ (by omega) (st_fill (by omega) hs) rfl rfl
theorem kp_swpS {g : Nat → Nat → Int32} {fr n k : Nat} (hf : fr < 2) (hk : k < 16) : kept g (swpS fr n g k) := by
  unfold swpS
  split
  · exact kp_ug (by omega) (kp_snt (kp_rf g))
  · exact kp_snt (kp_rf g)
theorem kp_swp {g0 : Nat → Nat → Int32} {fr n : Nat} (hf : fr < 2) : ∀ (S : Nat) (g : Nat → Nat → Int32), S ≤ 16 → kept g0 g → kept g0 (swpG fr n S g)
  | 0, _, _, h => h
  | S + 1, g, hS, h => kp_swp hf S _ (by omega) (kp_tr h (kp_swpS hf (by omega)))
