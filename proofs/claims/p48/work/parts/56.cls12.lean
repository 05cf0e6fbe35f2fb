abbrev T3 : Type := (Nat → Nat → Int32) × Int32 × Int32
def rfS (f n : Nat) (x : Int32) (t : T3) : T3 := if trnG t.1 f (b0W f x (t.1 1 (38 - 20 * f))) (b1W f x (t.1 1 (38 - 20 * f))) n ≤ t.2.2 then (sntG t.1 f (b0W f x (t.1 1 (38 - 20 * f))) (b1W f x (t.1 1 (38 - 20 * f))) 4 n, t.2.1, t.2.2) else (sntG t.1 f (b0W f x (t.1 1 (38 - 20 * f))) (b1W f x (t.1 1 (38 - 20 * f))) 4 n, x, trnG t.1 f (b0W f x (t.1 1 (38 - 20 * f))) (b1W f x (t.1 1 (38 - 20 * f))) n)
def rfI (f n : Nat) (nr : Int32) : Nat → Nat → T3 → T3
  | 0, _, t => t
  | q + 1, k, t => rfI f n nr q (k + 1) (rfS f n (nbC (t.1 1 (15 + 20 * f)) nr (nI k - 2)) t)
def rfO (f n : Nat) (sc : Int32) : Nat → Nat → T3 → T3
  | 0, _, t => t
  | r + 1, j, t => rfO f n sc r (j + 1) (rfI f n (bsC (t.1 1 (15 + 20 * f)) sc (nI j - 1)) 5 0 t)
def rfA (f n : Nat) (g : Nat → Nat → Int32) : Nat → Nat → Int32 := sntG g f (b0W f (g 1 (18 + 20 * f)) (g 1 (38 - 20 * f))) (b1W f (g 1 (18 + 20 * f)) (g 1 (38 - 20 * f))) 4 n
def rfB (f n : Nat) (g : Nat → Nat → Int32) : T3 := (rfA f n g, g 1 (18 + 20 * f), trnG g f (b0W f (g 1 (18 + 20 * f)) (g 1 (38 - 20 * f))) (b1W f (g 1 (18 + 20 * f)) (g 1 (38 - 20 * f))) n)
def rfT (f n : Nat) (g : Nat → Nat → Int32) : T3 := if rfA f n g 1 (15 + 20 * f) = 2 then rfO f n (scC (g 1 (15 + 20 * f)) (g 1 (18 + 20 * f))) 2 0 (rfB f n g) else rfO f n (scC (g 1 (15 + 20 * f)) (g 1 (18 + 20 * f))) 3 0 (rfB f n g)
def rfE (f n : Nat) (t : T3) : Nat → Nat → Int32 := if t.2.2 = -100000 then t.1 else if trnG t.1 (1 - f) (b0W (1 - f) (t.1 1 (38 - 20 * f)) (t.1 1 (18 + 20 * f))) (b1W (1 - f) (t.1 1 (38 - 20 * f)) (t.1 1 (18 + 20 * f))) n = -100000 then sntG t.1 (1 - f) (b0W (1 - f) (t.1 1 (38 - 20 * f)) (t.1 1 (18 + 20 * f))) (b1W (1 - f) (t.1 1 (38 - 20 * f)) (t.1 1 (18 + 20 * f))) 9 n else ug (sntG t.1 (1 - f) (b0W (1 - f) (t.1 1 (38 - 20 * f)) (t.1 1 (18 + 20 * f))) (b1W (1 - f) (t.1 1 (38 - 20 * f)) (t.1 1 (18 + 20 * f))) 9 n) 1 (18 + 20 * f) t.2.1
theorem stp0 : ∀ j, j < 2 → ¬ (0 : Int32) < nI j - 1 := by decide
theorem stp1 : ∀ j, j < 3 → ¬ (1 : Int32) < nI j - 1 := by decide
theorem off5 : ∀ k, k < 5 → ¬ (2 : Int32) < nI k - 2 := by decide
theorem incs (j : Nat) (c : Int32) : nI j - c + Int32.ofInt 1 = nI (j + 1) - c := by
  rw [← nI_1 j, Int32.sub_eq_add_neg, Int32.sub_eq_add_neg, Int32.add_assoc, Int32.add_comm (-c), ← Int32.add_assoc]
  rfl
theorem rfO_nx {f n : Nat} {sc : Int32} {r j : Nat} {g : Nat → Nat → Int32} {b m : Int32} : rfO f n sc (r + 1) j (g, b, m) = rfO f n sc r (j + 1) (rfI f n (bsC (g 1 (15 + 20 * f)) sc (nI j - 1)) 5 0 (g, b, m)) := rfl
theorem rfI_0 {f n : Nat} {nr : Int32} {k : Nat} {t : T3} : rfI f n nr 0 k t = t := rfl
theorem rfO_0 {f n : Nat} {sc : Int32} {k : Nat} {t : T3} : rfO f n sc 0 k t = t := rfl
theorem rfI_le0 {n q k : Nat} {nr : Int32} {g : Nat → Nat → Int32} {b m : Int32} (c : trnG g 0 (nbC (g 1 15) nr (nI k - 2)) (g 1 38) n ≤ m) : rfI 0 n nr (q + 1) k (g, b, m) = rfI 0 n nr q (k + 1) (sntG g 0 (nbC (g 1 15) nr (nI k - 2)) (g 1 38) 4 n, b, m) := by
  show rfI 0 n nr q (k + 1) (rfS 0 n (nbC (g 1 15) nr (nI k - 2)) (g, b, m)) = _
  rw [show rfS 0 n (nbC (g 1 15) nr (nI k - 2)) (g, b, m) = (sntG g 0 (nbC (g 1 15) nr (nI k - 2)) (g 1 38) 4 n, b, m) from if_pos c]
theorem rfI_gt0 {n q k : Nat} {nr : Int32} {g : Nat → Nat → Int32} {b m : Int32} (c : ¬ trnG g 0 (nbC (g 1 15) nr (nI k - 2)) (g 1 38) n ≤ m) : rfI 0 n nr (q + 1) k (g, b, m) = rfI 0 n nr q (k + 1) (sntG g 0 (nbC (g 1 15) nr (nI k - 2)) (g 1 38) 4 n, (nbC (g 1 15) nr (nI k - 2)), trnG g 0 (nbC (g 1 15) nr (nI k - 2)) (g 1 38) n) := by
  show rfI 0 n nr q (k + 1) (rfS 0 n (nbC (g 1 15) nr (nI k - 2)) (g, b, m)) = _
  rw [show rfS 0 n (nbC (g 1 15) nr (nI k - 2)) (g, b, m) = (sntG g 0 (nbC (g 1 15) nr (nI k - 2)) (g 1 38) 4 n, (nbC (g 1 15) nr (nI k - 2)), trnG g 0 (nbC (g 1 15) nr (nI k - 2)) (g 1 38) n) from if_neg c]
theorem rfI_le1 {n q k : Nat} {nr : Int32} {g : Nat → Nat → Int32} {b m : Int32} (c : trnG g 1 (g 1 18) (nbC (g 1 35) nr (nI k - 2)) n ≤ m) : rfI 1 n nr (q + 1) k (g, b, m) = rfI 1 n nr q (k + 1) (sntG g 1 (g 1 18) (nbC (g 1 35) nr (nI k - 2)) 4 n, b, m) := by
  show rfI 1 n nr q (k + 1) (rfS 1 n (nbC (g 1 35) nr (nI k - 2)) (g, b, m)) = _
  rw [show rfS 1 n (nbC (g 1 35) nr (nI k - 2)) (g, b, m) = (sntG g 1 (g 1 18) (nbC (g 1 35) nr (nI k - 2)) 4 n, b, m) from if_pos c]
theorem rfI_gt1 {n q k : Nat} {nr : Int32} {g : Nat → Nat → Int32} {b m : Int32} (c : ¬ trnG g 1 (g 1 18) (nbC (g 1 35) nr (nI k - 2)) n ≤ m) : rfI 1 n nr (q + 1) k (g, b, m) = rfI 1 n nr q (k + 1) (sntG g 1 (g 1 18) (nbC (g 1 35) nr (nI k - 2)) 4 n, (nbC (g 1 35) nr (nI k - 2)), trnG g 1 (g 1 18) (nbC (g 1 35) nr (nI k - 2)) n) := by
  show rfI 1 n nr q (k + 1) (rfS 1 n (nbC (g 1 35) nr (nI k - 2)) (g, b, m)) = _
  rw [show rfS 1 n (nbC (g 1 35) nr (nI k - 2)) (g, b, m) = (sntG g 1 (g 1 18) (nbC (g 1 35) nr (nI k - 2)) 4 n, (nbC (g 1 35) nr (nI k - 2)), trnG g 1 (g 1 18) (nbC (g 1 35) nr (nI k - 2)) n) from if_neg c]
set_option maxRecDepth 100000 in
set_option maxHeartbeats 8000000 in
theorem cs_refineBeam0 {l : Launch} {D : va_G} {cA : FieldType → ClassId} {z0 : Nat} {SK : Nat → Nat} {SV : Nat → Int32} {ad : Nat → Nat} (hE : aD (fun q => z0 ≤ q) ad 26) (g : Nat → Nat → Int32) (σ τ : Nat → Nat) (hσ : pmK σ τ) (n : Nat) (hs : statR g n) : bF l D cA z0 SK SV ad shB 26 yX6_refineBeam cX6_refineBeam 13 none 4 [.ref 0, .int (0)] (layB g σ τ) none (layB (rfE 0 n (rfT 0 n g)) σ τ) := by
  refine bCT_intro (tb := tb_X6_refineBeam) (own := RX6) hE pn_X6 rfl tk_X6_refineBeam rfl (Nat.le_of_ble_eq_true rfl) ?_
  intro p e s0 m args below meth c C hr
  refine bv_blk C frk_X6 csk_X6 2 2 rfl (L1 := ([(0, .ref 0), (1, .int (0))] : Lc)) (st1 := ([.int (0), .ref 0] : List Value)) (w1 := (layB g σ τ)) (by rfl) ?_
  refine bv_fV1 C rfl (cs_station0 hE g σ τ hσ) ml_X6_107 im_X6_station sel_X6_station ini_X6 cd_X6_station ok_X6_station rfl ⟨Nat.le_of_ble_eq_true rfl, Nat.le_of_ble_eq_true rfl⟩ ⟨Nat.zero_le _, Nat.zero_le _⟩ (by decide) rfl rfl rfl (rest := ([] : List Value)) rfl (Nat.le_of_ble_eq_true rfl) ?_
  refine bv_blk C frk_X6 csk_X6 5 8 rfl (L1 := ([(2, .ref 1), (0, .ref 0), (1, .int (0))] : Lc)) (st1 := ([.int ((1) - (0)), .ref 0] : List Value)) (w1 := (layB g σ τ)) (by rfl) ?_
  refine bv_fV1 C rfl (cs_station1 hE g σ τ hσ) ml_X6_107 im_X6_station sel_X6_station ini_X6 cd_X6_station ok_X6_station rfl ⟨Nat.le_of_ble_eq_true rfl, Nat.le_of_ble_eq_true rfl⟩ ⟨Nat.zero_le _, Nat.zero_le _⟩ (by decide) rfl rfl rfl (rest := ([] : List Value)) rfl (Nat.le_of_ble_eq_true rfl) ?_
  refine bv_blk C frk_X6 csk_X6 4 13 rfl (L1 := ([(3, .ref 3), (2, .ref 1), (0, .ref 0), (1, .int (0))] : Lc)) (st1 := ([.int (g 1 18), .ref 1] : List Value)) (w1 := (layB g σ τ)) (by rfl) ?_
  refine bv_fV1 C rfl (cs_sectorOf_1 hE g σ τ hσ (g 1 18)) ml_X6_194 im_X7_sectorOf sel_X7_sectorOf ini_X7 cd_X7_sectorOf ok_X7_sectorOf rfl ⟨Nat.le_of_ble_eq_true rfl, Nat.le_of_ble_eq_true rfl⟩ ⟨Nat.zero_le _, Nat.zero_le _⟩ (by decide) rfl rfl rfl (rest := ([] : List Value)) rfl (Nat.le_of_ble_eq_true rfl) ?_
  refine bv_blk C frk_X6 csk_X6 11 25 rfl (L1 := ([(5, .int (g 1 18)), (4, .int (scC (g 1 15) (g 1 18))), (3, .ref 3), (2, .ref 1), (0, .ref 0), (1, .int (0))] : Lc)) (st1 := ([.int (4), .int (g 1 38), .int (g 1 18), .int (0), .ref 0] : List Value)) (w1 := (layB g σ τ)) (by rfl) ?_
  refine bv_fV1 C rfl (cs_transmit0 hE g σ τ hσ n (g 1 18) (g 1 38) (4) hs) ml_X6_183 im_X6_transmit sel_X6_transmit ini_X6 cd_X6_transmit ok_X6_transmit rfl ⟨Nat.le_of_ble_eq_true rfl, Nat.le_of_ble_eq_true rfl⟩ ⟨Nat.zero_le _, Nat.zero_le _⟩ (by decide) rfl rfl rfl (rest := ([] : List Value)) rfl (Nat.le_of_ble_eq_true rfl) ?_
  refine bv_blk C frk_X6 csk_X6 4 30 rfl (L1 := ([(6, .int (trnG g 0 (g 1 18) (g 1 38) n)), (5, .int (g 1 18)), (4, .int (scC (g 1 15) (g 1 18))), (3, .ref 3), (2, .ref 1), (0, .ref 0), (1, .int (0))] : Lc)) (st1 := ([.int (2), .int ((sntG g 0 (g 1 18) (g 1 38) (4) n) 1 15)] : List Value)) (w1 := (layB (sntG g 0 (g 1 18) (g 1 38) (4) n) σ τ)) (by rfl) ?_
  refine bv_icmp_ne (j := 33) C rfl rfl (fun c1 => ?_) (fun c1 => ?_)
  · refine bv_blk C frk_X6 csk_X6 4 37 rfl (L1 := ([(8, .int (-1)), (7, .int (1)), (6, .int (trnG g 0 (g 1 18) (g 1 38) n)), (5, .int (g 1 18)), (4, .int (scC (g 1 15) (g 1 18))), (3, .ref 3), (2, .ref 1), (0, .ref 0), (1, .int (0))] : Lc)) (st1 := ([] : List Value)) (w1 := (layB (sntG g 0 (g 1 18) (g 1 38) (4) n) σ τ)) (by rfl) ?_
    have lpO : ∀ (r j : Nat) (gg : Nat → Nat → Int32) (b m9 : Int32), j + r = 3 → statR gg n → rfO 0 n (scC (g 1 15) (g 1 18)) r j (gg, b, m9) = rfT 0 n g → bV p l e (bR 4) s0 m args below meth c D cA shB (adA ad 26) 13 tb_X6_refineBeam (MQ below (bQ D cA ad shB 26 (fun r w1 => r = none ∧ w1 = (layB (rfE 0 n (rfT 0 n g)) σ τ))) args s0 0 0 (adA ad 26)) ad 26 0 0 (layB gg σ τ) 37 ([(8, .int (nI j - 1)), (7, .int (1)), (6, .int m9), (5, .int b), (4, .int (scC (g 1 15) (g 1 18))), (0, .ref 0), (1, .int (0)), (2, .ref 1), (3, .ref 3)] : Lc) ([] : List Value) := by
      intro r
      induction r with
      | zero =>
        intro j gg b m9 hj hs heq
        obtain rfl : j = 3 := by omega
        rw [rfO_0] at heq
        refine bv_blk C frk_X6 csk_X6 2 39 rfl (L1 := ([(8, .int (nI 3 - 1)), (7, .int (1)), (6, .int m9), (5, .int b), (4, .int (scC (g 1 15) (g 1 18))), (0, .ref 0), (1, .int (0)), (2, .ref 1), (3, .ref 3)] : Lc)) (st1 := ([.int (1), .int (nI 3 - 1)] : List Value)) (w1 := (layB gg σ τ)) (by rfl) ?_
        refine bv_icmp_gt (j := 74) C rfl rfl (fun _ => ?_) (fun h => absurd h (by decide))
        refine bv_blk C frk_X6 csk_X6 2 76 rfl (L1 := ([(8, .int (nI 3 - 1)), (7, .int (1)), (6, .int m9), (5, .int b), (4, .int (scC (g 1 15) (g 1 18))), (0, .ref 0), (1, .int (0)), (2, .ref 1), (3, .ref 3)] : Lc)) (st1 := ([.int (-100000), .int m9] : List Value)) (w1 := (layB gg σ τ)) (by rfl) ?_
        refine bv_icmp_eq (j := 92) C rfl rfl (fun c3 => ?_) (fun c3 => ?_)
        · exact bv_vret C rfl hr ⟨by (rfl), by (rw [← heq]; exact congrArg (fun x => layB x σ τ) (((if_pos c3).trans rfl)).symm)⟩
        · refine bv_blk C frk_X6 csk_X6 9 86 rfl (L1 := ([(8, .int (nI 3 - 1)), (7, .int (1)), (6, .int m9), (5, .int b), (4, .int (scC (g 1 15) (g 1 18))), (0, .ref 0), (1, .int (0)), (2, .ref 1), (3, .ref 3)] : Lc)) (st1 := ([.int (9), .int (gg 1 18), .int (gg 1 38), .int ((1) - (0)), .ref 0] : List Value)) (w1 := (layB gg σ τ)) (by rfl) ?_
          refine bv_fV1 C rfl (cs_transmit1 hE gg σ τ hσ n (gg 1 38) (gg 1 18) (9) hs) ml_X6_183 im_X6_transmit sel_X6_transmit ini_X6 cd_X6_transmit ok_X6_transmit rfl ⟨Nat.le_of_ble_eq_true rfl, Nat.le_of_ble_eq_true rfl⟩ ⟨Nat.zero_le _, Nat.zero_le _⟩ (by decide) rfl rfl rfl (rest := ([] : List Value)) rfl (Nat.le_of_ble_eq_true rfl) ?_
          refine bv_blk C frk_X6 csk_X6 1 88 rfl (L1 := ([(8, .int (nI 3 - 1)), (7, .int (1)), (6, .int m9), (5, .int b), (4, .int (scC (g 1 15) (g 1 18))), (0, .ref 0), (1, .int (0)), (2, .ref 1), (3, .ref 3)] : Lc)) (st1 := ([.int (-100000), .int (trnG gg 1 (gg 1 18) (gg 1 38) n)] : List Value)) (w1 := (layB (sntG gg 1 (gg 1 18) (gg 1 38) (9) n) σ τ)) (by rfl) ?_
          refine bv_icmp_eq (j := 92) C rfl rfl (fun c4 => ?_) (fun c4 => ?_)
          · exact bv_vret C rfl hr ⟨by (rfl), by (rw [← heq]; exact congrArg (fun x => layB x σ τ) (((if_neg c3).trans ((if_pos c4).trans rfl))).symm)⟩
          · refine bv_blk C frk_X6 csk_X6 3 92 rfl (L1 := ([(8, .int (nI 3 - 1)), (7, .int (1)), (6, .int m9), (5, .int b), (4, .int (scC (g 1 15) (g 1 18))), (0, .ref 0), (1, .int (0)), (2, .ref 1), (3, .ref 3)] : Lc)) (st1 := ([] : List Value)) (w1 := up2 (layB (sntG gg 1 (gg 1 18) (gg 1 38) (9) n) σ τ) 1 3 (.int b)) (by rfl) ?_
            refine bv_w (lb_up (o := 1) (k := 3) (a := 1) (b := 18) hσ (by decide) (by decide) (by rfl) (by rfl)) ?_
            exact bv_vret C rfl hr ⟨by (rfl), by (rw [← heq]; exact congrArg (fun x => layB x σ τ) (((if_neg c3).trans ((if_neg c4).trans rfl))).symm)⟩
      | succ r ihO =>
        intro j gg b m9 hj hs heq
        rw [rfO_nx] at heq
        refine bv_blk C frk_X6 csk_X6 2 39 rfl (L1 := ([(8, .int (nI j - 1)), (7, .int (1)), (6, .int m9), (5, .int b), (4, .int (scC (g 1 15) (g 1 18))), (0, .ref 0), (1, .int (0)), (2, .ref 1), (3, .ref 3)] : Lc)) (st1 := ([.int (1), .int (nI j - 1)] : List Value)) (w1 := (layB gg σ τ)) (by rfl) ?_
        refine bv_icmp_gt (j := 74) C rfl rfl (fun h => absurd h (stp1 j (by omega))) (fun _ => ?_)
        refine bv_blk C frk_X6 csk_X6 3 43 rfl (L1 := ([(8, .int (nI j - 1)), (7, .int (1)), (6, .int m9), (5, .int b), (4, .int (scC (g 1 15) (g 1 18))), (0, .ref 0), (1, .int (0)), (2, .ref 1), (3, .ref 3)] : Lc)) (st1 := ([.int (nI j - 1), .int (scC (g 1 15) (g 1 18)), .ref 1] : List Value)) (w1 := (layB gg σ τ)) (by rfl) ?_
        refine bv_fV1 C rfl (cs_sectorBeside_1 hE gg σ τ hσ (scC (g 1 15) (g 1 18)) (nI j - 1)) ml_X6_197 im_X7_sectorBeside sel_X7_sectorBeside ini_X7 cd_X7_sectorBeside ok_X7_sectorBeside rfl ⟨Nat.le_of_ble_eq_true rfl, Nat.le_of_ble_eq_true rfl⟩ ⟨Nat.zero_le _, Nat.zero_le _⟩ (by decide) rfl rfl rfl (rest := ([] : List Value)) rfl (Nat.le_of_ble_eq_true rfl) ?_
        refine bv_blk C frk_X6 csk_X6 3 47 rfl (L1 := ([(10, .int (-2)), (9, .int (bsC (gg 1 15) (scC (g 1 15) (g 1 18)) (nI j - 1))), (8, .int (nI j - 1)), (7, .int (1)), (6, .int m9), (5, .int b), (4, .int (scC (g 1 15) (g 1 18))), (0, .ref 0), (1, .int (0)), (2, .ref 1), (3, .ref 3)] : Lc)) (st1 := ([] : List Value)) (w1 := (layB gg σ τ)) (by rfl) ?_
        have lpI : ∀ (q k : Nat) (gg : Nat → Nat → Int32) (nr b m9 : Int32), k + q = 5 → statR gg n → rfO 0 n (scC (g 1 15) (g 1 18)) r (j + 1) (rfI 0 n nr q k (gg, b, m9)) = rfT 0 n g → bV p l e (bR 4) s0 m args below meth c D cA shB (adA ad 26) 13 tb_X6_refineBeam (MQ below (bQ D cA ad shB 26 (fun r w1 => r = none ∧ w1 = (layB (rfE 0 n (rfT 0 n g)) σ τ))) args s0 0 0 (adA ad 26)) ad 26 0 0 (layB gg σ τ) 47 ([(10, .int (nI k - 2)), (9, .int nr), (8, .int (nI j - 1)), (7, .int (1)), (6, .int m9), (5, .int b), (4, .int (scC (g 1 15) (g 1 18))), (0, .ref 0), (1, .int (0)), (2, .ref 1), (3, .ref 3)] : Lc) ([] : List Value) := by
          intro q
          induction q with
          | zero =>
            intro k gg nr b m9 hk hs heq
            obtain rfl : k = 5 := by omega
            rw [rfI_0] at heq
            refine bv_blk C frk_X6 csk_X6 2 49 rfl (L1 := ([(10, .int (nI 5 - 2)), (9, .int nr), (8, .int (nI j - 1)), (7, .int (1)), (6, .int m9), (5, .int b), (4, .int (scC (g 1 15) (g 1 18))), (0, .ref 0), (1, .int (0)), (2, .ref 1), (3, .ref 3)] : Lc)) (st1 := ([.int (2), .int (nI 5 - 2)] : List Value)) (w1 := (layB gg σ τ)) (by rfl) ?_
            refine bv_icmp_gt (j := 72) C rfl rfl (fun _ => ?_) (fun h => absurd h (by decide))
            refine bv_blk C frk_X6 csk_X6 1 73 rfl (L1 := ([(8, .int ((nI j - 1) + Int32.ofInt 1)), (10, .int (nI 5 - 2)), (9, .int nr), (7, .int (1)), (6, .int m9), (5, .int b), (4, .int (scC (g 1 15) (g 1 18))), (0, .ref 0), (1, .int (0)), (2, .ref 1), (3, .ref 3)] : Lc)) (st1 := ([] : List Value)) (w1 := (layB gg σ τ)) (by rfl) ?_
            refine bv_goto (j := 37) C rfl rfl ?_
            rw [incs j 1]
            refine bv_sub [0, 3, 4, 5, 6, 7, 8, 9, 10] (by rfl) ?_
            exact ihO (j + 1) gg b m9 (by omega) hs heq
          | succ q ihI =>
            intro k gg nr b m9 hk hs heq
            refine bv_blk C frk_X6 csk_X6 2 49 rfl (L1 := ([(10, .int (nI k - 2)), (9, .int nr), (8, .int (nI j - 1)), (7, .int (1)), (6, .int m9), (5, .int b), (4, .int (scC (g 1 15) (g 1 18))), (0, .ref 0), (1, .int (0)), (2, .ref 1), (3, .ref 3)] : Lc)) (st1 := ([.int (2), .int (nI k - 2)] : List Value)) (w1 := (layB gg σ τ)) (by rfl) ?_
            refine bv_icmp_gt (j := 72) C rfl rfl (fun h => absurd h (off5 k (by omega))) (fun _ => ?_)
            refine bv_blk C frk_X6 csk_X6 3 53 rfl (L1 := ([(10, .int (nI k - 2)), (9, .int nr), (8, .int (nI j - 1)), (7, .int (1)), (6, .int m9), (5, .int b), (4, .int (scC (g 1 15) (g 1 18))), (0, .ref 0), (1, .int (0)), (2, .ref 1), (3, .ref 3)] : Lc)) (st1 := ([.int (nI k - 2), .int nr, .ref 1] : List Value)) (w1 := (layB gg σ τ)) (by rfl) ?_
            refine bv_fV1 C rfl (cs_narrowBeam_1 hE gg σ τ hσ nr (nI k - 2)) ml_X6_200 im_X7_narrowBeam sel_X7_narrowBeam ini_X7 cd_X7_narrowBeam ok_X7_narrowBeam rfl ⟨Nat.le_of_ble_eq_true rfl, Nat.le_of_ble_eq_true rfl⟩ ⟨Nat.zero_le _, Nat.zero_le _⟩ (by decide) rfl rfl rfl (rest := ([] : List Value)) rfl (Nat.le_of_ble_eq_true rfl) ?_
            refine bv_blk C frk_X6 csk_X6 7 61 rfl (L1 := ([(11, .int (nbC (gg 1 15) nr (nI k - 2))), (10, .int (nI k - 2)), (9, .int nr), (8, .int (nI j - 1)), (7, .int (1)), (6, .int m9), (5, .int b), (4, .int (scC (g 1 15) (g 1 18))), (0, .ref 0), (1, .int (0)), (2, .ref 1), (3, .ref 3)] : Lc)) (st1 := ([.int (4), .int (gg 1 38), .int (nbC (gg 1 15) nr (nI k - 2)), .int (0), .ref 0] : List Value)) (w1 := (layB gg σ τ)) (by rfl) ?_
            refine bv_fV1 C rfl (cs_transmit0 hE gg σ τ hσ n (nbC (gg 1 15) nr (nI k - 2)) (gg 1 38) (4) hs) ml_X6_183 im_X6_transmit sel_X6_transmit ini_X6 cd_X6_transmit ok_X6_transmit rfl ⟨Nat.le_of_ble_eq_true rfl, Nat.le_of_ble_eq_true rfl⟩ ⟨Nat.zero_le _, Nat.zero_le _⟩ (by decide) rfl rfl rfl (rest := ([] : List Value)) rfl (Nat.le_of_ble_eq_true rfl) ?_
            refine bv_blk C frk_X6 csk_X6 3 65 rfl (L1 := ([(12, .int (trnG gg 0 (nbC (gg 1 15) nr (nI k - 2)) (gg 1 38) n)), (11, .int (nbC (gg 1 15) nr (nI k - 2))), (10, .int (nI k - 2)), (9, .int nr), (8, .int (nI j - 1)), (7, .int (1)), (6, .int m9), (5, .int b), (4, .int (scC (g 1 15) (g 1 18))), (0, .ref 0), (1, .int (0)), (2, .ref 1), (3, .ref 3)] : Lc)) (st1 := ([.int m9, .int (trnG gg 0 (nbC (gg 1 15) nr (nI k - 2)) (gg 1 38) n)] : List Value)) (w1 := (layB (sntG gg 0 (nbC (gg 1 15) nr (nI k - 2)) (gg 1 38) (4) n) σ τ)) (by rfl) ?_
            refine bv_icmp_le (j := 70) C rfl rfl (fun c8 => ?_) (fun c8 => ?_)
            · refine bv_blk C frk_X6 csk_X6 1 71 rfl (L1 := ([(10, .int ((nI k - 2) + Int32.ofInt 1)), (12, .int (trnG gg 0 (nbC (gg 1 15) nr (nI k - 2)) (gg 1 38) n)), (11, .int (nbC (gg 1 15) nr (nI k - 2))), (9, .int nr), (8, .int (nI j - 1)), (7, .int (1)), (6, .int m9), (5, .int b), (4, .int (scC (g 1 15) (g 1 18))), (0, .ref 0), (1, .int (0)), (2, .ref 1), (3, .ref 3)] : Lc)) (st1 := ([] : List Value)) (w1 := (layB (sntG gg 0 (nbC (gg 1 15) nr (nI k - 2)) (gg 1 38) (4) n) σ τ)) (by rfl) ?_
              refine bv_goto (j := 47) C rfl rfl ?_
              rw [incs k 2]
              refine bv_sub [0, 3, 4, 5, 6, 7, 8, 9, 10, 11, 12] (by rfl) ?_
              refine ihI (k + 1) (sntG gg 0 (nbC (gg 1 15) nr (nI k - 2)) (gg 1 38) (4) n) nr b m9 (by omega) (st_same (kp_snt (fr := 0) (m := n) (b0 := (nbC (gg 1 15) nr (nI k - 2))) (b1 := (gg 1 38)) (t := (4)) (kp_rf _)) hs) ?_
              rw [← heq, rfI_le0 c8]
            · refine bv_blk C frk_X6 csk_X6 5 71 rfl (L1 := ([(10, .int ((nI k - 2) + Int32.ofInt 1)), (5, .int (nbC (gg 1 15) nr (nI k - 2))), (6, .int (trnG gg 0 (nbC (gg 1 15) nr (nI k - 2)) (gg 1 38) n)), (12, .int (trnG gg 0 (nbC (gg 1 15) nr (nI k - 2)) (gg 1 38) n)), (11, .int (nbC (gg 1 15) nr (nI k - 2))), (9, .int nr), (8, .int (nI j - 1)), (7, .int (1)), (4, .int (scC (g 1 15) (g 1 18))), (0, .ref 0), (1, .int (0)), (2, .ref 1), (3, .ref 3)] : Lc)) (st1 := ([] : List Value)) (w1 := (layB (sntG gg 0 (nbC (gg 1 15) nr (nI k - 2)) (gg 1 38) (4) n) σ τ)) (by rfl) ?_
              refine bv_goto (j := 47) C rfl rfl ?_
              rw [incs k 2]
              refine bv_sub [0, 5, 6, 7, 2, 1, 8, 9, 10, 11, 12] (by rfl) ?_
              refine ihI (k + 1) (sntG gg 0 (nbC (gg 1 15) nr (nI k - 2)) (gg 1 38) (4) n) nr (nbC (gg 1 15) nr (nI k - 2)) (trnG gg 0 (nbC (gg 1 15) nr (nI k - 2)) (gg 1 38) n) (by omega) (st_same (kp_snt (fr := 0) (m := n) (b0 := (nbC (gg 1 15) nr (nI k - 2))) (b1 := (gg 1 38)) (t := (4)) (kp_rf _)) hs) ?_
              rw [← heq, rfI_gt0 c8]
        rw [show ((-2) : Int32) = nI 0 - 2 from by decide]
        refine bv_sub [0, 1, 2, 3, 4, 5, 6, 7, 8, 9, 10] (by rfl) ?_
        exact lpI 5 0 gg (bsC (gg 1 15) (scC (g 1 15) (g 1 18)) (nI j - 1)) b m9 (by omega) hs heq
    rw [show ((-1) : Int32) = nI 0 - 1 from by decide]
    refine bv_sub [0, 1, 2, 3, 4, 7, 8, 6, 5] (by rfl) ?_
    refine lpO 3 0 (sntG g 0 (g 1 18) (g 1 38) (4) n) (g 1 18) (trnG g 0 (g 1 18) (g 1 38) n) (by omega) (st_same (kp_snt (fr := 0) (m := n) (b0 := (g 1 18)) (b1 := (g 1 38)) (t := (4)) (kp_rf _)) hs) ?_
    unfold rfT; exact (if_neg (show ¬ rfA 0 n g 1 15 = 2 from c1)).symm
  · refine bv_blk C frk_X6 csk_X6 1 32 rfl (L1 := ([(6, .int (trnG g 0 (g 1 18) (g 1 38) n)), (5, .int (g 1 18)), (4, .int (scC (g 1 15) (g 1 18))), (3, .ref 3), (2, .ref 1), (0, .ref 0), (1, .int (0))] : Lc)) (st1 := ([.int (0)] : List Value)) (w1 := (layB (sntG g 0 (g 1 18) (g 1 38) (4) n) σ τ)) (by rfl) ?_
    refine bv_goto (j := 34) C rfl rfl ?_
    refine bv_blk C frk_X6 csk_X6 3 37 rfl (L1 := ([(8, .int (-1)), (7, .int (0)), (6, .int (trnG g 0 (g 1 18) (g 1 38) n)), (5, .int (g 1 18)), (4, .int (scC (g 1 15) (g 1 18))), (3, .ref 3), (2, .ref 1), (0, .ref 0), (1, .int (0))] : Lc)) (st1 := ([] : List Value)) (w1 := (layB (sntG g 0 (g 1 18) (g 1 38) (4) n) σ τ)) (by rfl) ?_
    have lpO : ∀ (r j : Nat) (gg : Nat → Nat → Int32) (b m9 : Int32), j + r = 2 → statR gg n → rfO 0 n (scC (g 1 15) (g 1 18)) r j (gg, b, m9) = rfT 0 n g → bV p l e (bR 4) s0 m args below meth c D cA shB (adA ad 26) 13 tb_X6_refineBeam (MQ below (bQ D cA ad shB 26 (fun r w1 => r = none ∧ w1 = (layB (rfE 0 n (rfT 0 n g)) σ τ))) args s0 0 0 (adA ad 26)) ad 26 0 0 (layB gg σ τ) 37 ([(8, .int (nI j - 1)), (7, .int (0)), (6, .int m9), (5, .int b), (4, .int (scC (g 1 15) (g 1 18))), (0, .ref 0), (1, .int (0)), (2, .ref 1), (3, .ref 3)] : Lc) ([] : List Value) := by
      intro r
      induction r with
      | zero =>
        intro j gg b m9 hj hs heq
        obtain rfl : j = 2 := by omega
        rw [rfO_0] at heq
        refine bv_blk C frk_X6 csk_X6 2 39 rfl (L1 := ([(8, .int (nI 2 - 1)), (7, .int (0)), (6, .int m9), (5, .int b), (4, .int (scC (g 1 15) (g 1 18))), (0, .ref 0), (1, .int (0)), (2, .ref 1), (3, .ref 3)] : Lc)) (st1 := ([.int (0), .int (nI 2 - 1)] : List Value)) (w1 := (layB gg σ τ)) (by rfl) ?_
        refine bv_icmp_gt (j := 74) C rfl rfl (fun _ => ?_) (fun h => absurd h (by decide))
        refine bv_blk C frk_X6 csk_X6 2 76 rfl (L1 := ([(8, .int (nI 2 - 1)), (7, .int (0)), (6, .int m9), (5, .int b), (4, .int (scC (g 1 15) (g 1 18))), (0, .ref 0), (1, .int (0)), (2, .ref 1), (3, .ref 3)] : Lc)) (st1 := ([.int (-100000), .int m9] : List Value)) (w1 := (layB gg σ τ)) (by rfl) ?_
        refine bv_icmp_eq (j := 92) C rfl rfl (fun c10 => ?_) (fun c10 => ?_)
        · exact bv_vret C rfl hr ⟨by (rfl), by (rw [← heq]; exact congrArg (fun x => layB x σ τ) (((if_pos c10).trans rfl)).symm)⟩
        · refine bv_blk C frk_X6 csk_X6 9 86 rfl (L1 := ([(8, .int (nI 2 - 1)), (7, .int (0)), (6, .int m9), (5, .int b), (4, .int (scC (g 1 15) (g 1 18))), (0, .ref 0), (1, .int (0)), (2, .ref 1), (3, .ref 3)] : Lc)) (st1 := ([.int (9), .int (gg 1 18), .int (gg 1 38), .int ((1) - (0)), .ref 0] : List Value)) (w1 := (layB gg σ τ)) (by rfl) ?_
          refine bv_fV1 C rfl (cs_transmit1 hE gg σ τ hσ n (gg 1 38) (gg 1 18) (9) hs) ml_X6_183 im_X6_transmit sel_X6_transmit ini_X6 cd_X6_transmit ok_X6_transmit rfl ⟨Nat.le_of_ble_eq_true rfl, Nat.le_of_ble_eq_true rfl⟩ ⟨Nat.zero_le _, Nat.zero_le _⟩ (by decide) rfl rfl rfl (rest := ([] : List Value)) rfl (Nat.le_of_ble_eq_true rfl) ?_
          refine bv_blk C frk_X6 csk_X6 1 88 rfl (L1 := ([(8, .int (nI 2 - 1)), (7, .int (0)), (6, .int m9), (5, .int b), (4, .int (scC (g 1 15) (g 1 18))), (0, .ref 0), (1, .int (0)), (2, .ref 1), (3, .ref 3)] : Lc)) (st1 := ([.int (-100000), .int (trnG gg 1 (gg 1 18) (gg 1 38) n)] : List Value)) (w1 := (layB (sntG gg 1 (gg 1 18) (gg 1 38) (9) n) σ τ)) (by rfl) ?_
          refine bv_icmp_eq (j := 92) C rfl rfl (fun c11 => ?_) (fun c11 => ?_)
          · exact bv_vret C rfl hr ⟨by (rfl), by (rw [← heq]; exact congrArg (fun x => layB x σ τ) (((if_neg c10).trans ((if_pos c11).trans rfl))).symm)⟩
          · refine bv_blk C frk_X6 csk_X6 3 92 rfl (L1 := ([(8, .int (nI 2 - 1)), (7, .int (0)), (6, .int m9), (5, .int b), (4, .int (scC (g 1 15) (g 1 18))), (0, .ref 0), (1, .int (0)), (2, .ref 1), (3, .ref 3)] : Lc)) (st1 := ([] : List Value)) (w1 := up2 (layB (sntG gg 1 (gg 1 18) (gg 1 38) (9) n) σ τ) 1 3 (.int b)) (by rfl) ?_
            refine bv_w (lb_up (o := 1) (k := 3) (a := 1) (b := 18) hσ (by decide) (by decide) (by rfl) (by rfl)) ?_
            exact bv_vret C rfl hr ⟨by (rfl), by (rw [← heq]; exact congrArg (fun x => layB x σ τ) (((if_neg c10).trans ((if_neg c11).trans rfl))).symm)⟩
      | succ r ihO =>
        intro j gg b m9 hj hs heq
        rw [rfO_nx] at heq
        refine bv_blk C frk_X6 csk_X6 2 39 rfl (L1 := ([(8, .int (nI j - 1)), (7, .int (0)), (6, .int m9), (5, .int b), (4, .int (scC (g 1 15) (g 1 18))), (0, .ref 0), (1, .int (0)), (2, .ref 1), (3, .ref 3)] : Lc)) (st1 := ([.int (0), .int (nI j - 1)] : List Value)) (w1 := (layB gg σ τ)) (by rfl) ?_
        refine bv_icmp_gt (j := 74) C rfl rfl (fun h => absurd h (stp0 j (by omega))) (fun _ => ?_)
        refine bv_blk C frk_X6 csk_X6 3 43 rfl (L1 := ([(8, .int (nI j - 1)), (7, .int (0)), (6, .int m9), (5, .int b), (4, .int (scC (g 1 15) (g 1 18))), (0, .ref 0), (1, .int (0)), (2, .ref 1), (3, .ref 3)] : Lc)) (st1 := ([.int (nI j - 1), .int (scC (g 1 15) (g 1 18)), .ref 1] : List Value)) (w1 := (layB gg σ τ)) (by rfl) ?_
        refine bv_fV1 C rfl (cs_sectorBeside_1 hE gg σ τ hσ (scC (g 1 15) (g 1 18)) (nI j - 1)) ml_X6_197 im_X7_sectorBeside sel_X7_sectorBeside ini_X7 cd_X7_sectorBeside ok_X7_sectorBeside rfl ⟨Nat.le_of_ble_eq_true rfl, Nat.le_of_ble_eq_true rfl⟩ ⟨Nat.zero_le _, Nat.zero_le _⟩ (by decide) rfl rfl rfl (rest := ([] : List Value)) rfl (Nat.le_of_ble_eq_true rfl) ?_
        refine bv_blk C frk_X6 csk_X6 3 47 rfl (L1 := ([(10, .int (-2)), (9, .int (bsC (gg 1 15) (scC (g 1 15) (g 1 18)) (nI j - 1))), (8, .int (nI j - 1)), (7, .int (0)), (6, .int m9), (5, .int b), (4, .int (scC (g 1 15) (g 1 18))), (0, .ref 0), (1, .int (0)), (2, .ref 1), (3, .ref 3)] : Lc)) (st1 := ([] : List Value)) (w1 := (layB gg σ τ)) (by rfl) ?_
        have lpI : ∀ (q k : Nat) (gg : Nat → Nat → Int32) (nr b m9 : Int32), k + q = 5 → statR gg n → rfO 0 n (scC (g 1 15) (g 1 18)) r (j + 1) (rfI 0 n nr q k (gg, b, m9)) = rfT 0 n g → bV p l e (bR 4) s0 m args below meth c D cA shB (adA ad 26) 13 tb_X6_refineBeam (MQ below (bQ D cA ad shB 26 (fun r w1 => r = none ∧ w1 = (layB (rfE 0 n (rfT 0 n g)) σ τ))) args s0 0 0 (adA ad 26)) ad 26 0 0 (layB gg σ τ) 47 ([(10, .int (nI k - 2)), (9, .int nr), (8, .int (nI j - 1)), (7, .int (0)), (6, .int m9), (5, .int b), (4, .int (scC (g 1 15) (g 1 18))), (0, .ref 0), (1, .int (0)), (2, .ref 1), (3, .ref 3)] : Lc) ([] : List Value) := by
          intro q
          induction q with
          | zero =>
            intro k gg nr b m9 hk hs heq
            obtain rfl : k = 5 := by omega
            rw [rfI_0] at heq
            refine bv_blk C frk_X6 csk_X6 2 49 rfl (L1 := ([(10, .int (nI 5 - 2)), (9, .int nr), (8, .int (nI j - 1)), (7, .int (0)), (6, .int m9), (5, .int b), (4, .int (scC (g 1 15) (g 1 18))), (0, .ref 0), (1, .int (0)), (2, .ref 1), (3, .ref 3)] : Lc)) (st1 := ([.int (2), .int (nI 5 - 2)] : List Value)) (w1 := (layB gg σ τ)) (by rfl) ?_
            refine bv_icmp_gt (j := 72) C rfl rfl (fun _ => ?_) (fun h => absurd h (by decide))
            refine bv_blk C frk_X6 csk_X6 1 73 rfl (L1 := ([(8, .int ((nI j - 1) + Int32.ofInt 1)), (10, .int (nI 5 - 2)), (9, .int nr), (7, .int (0)), (6, .int m9), (5, .int b), (4, .int (scC (g 1 15) (g 1 18))), (0, .ref 0), (1, .int (0)), (2, .ref 1), (3, .ref 3)] : Lc)) (st1 := ([] : List Value)) (w1 := (layB gg σ τ)) (by rfl) ?_
            refine bv_goto (j := 37) C rfl rfl ?_
            rw [incs j 1]
            refine bv_sub [0, 3, 4, 5, 6, 7, 8, 9, 10] (by rfl) ?_
            exact ihO (j + 1) gg b m9 (by omega) hs heq
          | succ q ihI =>
            intro k gg nr b m9 hk hs heq
            refine bv_blk C frk_X6 csk_X6 2 49 rfl (L1 := ([(10, .int (nI k - 2)), (9, .int nr), (8, .int (nI j - 1)), (7, .int (0)), (6, .int m9), (5, .int b), (4, .int (scC (g 1 15) (g 1 18))), (0, .ref 0), (1, .int (0)), (2, .ref 1), (3, .ref 3)] : Lc)) (st1 := ([.int (2), .int (nI k - 2)] : List Value)) (w1 := (layB gg σ τ)) (by rfl) ?_
            refine bv_icmp_gt (j := 72) C rfl rfl (fun h => absurd h (off5 k (by omega))) (fun _ => ?_)
            refine bv_blk C frk_X6 csk_X6 3 53 rfl (L1 := ([(10, .int (nI k - 2)), (9, .int nr), (8, .int (nI j - 1)), (7, .int (0)), (6, .int m9), (5, .int b), (4, .int (scC (g 1 15) (g 1 18))), (0, .ref 0), (1, .int (0)), (2, .ref 1), (3, .ref 3)] : Lc)) (st1 := ([.int (nI k - 2), .int nr, .ref 1] : List Value)) (w1 := (layB gg σ τ)) (by rfl) ?_
            refine bv_fV1 C rfl (cs_narrowBeam_1 hE gg σ τ hσ nr (nI k - 2)) ml_X6_200 im_X7_narrowBeam sel_X7_narrowBeam ini_X7 cd_X7_narrowBeam ok_X7_narrowBeam rfl ⟨Nat.le_of_ble_eq_true rfl, Nat.le_of_ble_eq_true rfl⟩ ⟨Nat.zero_le _, Nat.zero_le _⟩ (by decide) rfl rfl rfl (rest := ([] : List Value)) rfl (Nat.le_of_ble_eq_true rfl) ?_
            refine bv_blk C frk_X6 csk_X6 7 61 rfl (L1 := ([(11, .int (nbC (gg 1 15) nr (nI k - 2))), (10, .int (nI k - 2)), (9, .int nr), (8, .int (nI j - 1)), (7, .int (0)), (6, .int m9), (5, .int b), (4, .int (scC (g 1 15) (g 1 18))), (0, .ref 0), (1, .int (0)), (2, .ref 1), (3, .ref 3)] : Lc)) (st1 := ([.int (4), .int (gg 1 38), .int (nbC (gg 1 15) nr (nI k - 2)), .int (0), .ref 0] : List Value)) (w1 := (layB gg σ τ)) (by rfl) ?_
            refine bv_fV1 C rfl (cs_transmit0 hE gg σ τ hσ n (nbC (gg 1 15) nr (nI k - 2)) (gg 1 38) (4) hs) ml_X6_183 im_X6_transmit sel_X6_transmit ini_X6 cd_X6_transmit ok_X6_transmit rfl ⟨Nat.le_of_ble_eq_true rfl, Nat.le_of_ble_eq_true rfl⟩ ⟨Nat.zero_le _, Nat.zero_le _⟩ (by decide) rfl rfl rfl (rest := ([] : List Value)) rfl (Nat.le_of_ble_eq_true rfl) ?_
            refine bv_blk C frk_X6 csk_X6 3 65 rfl (L1 := ([(12, .int (trnG gg 0 (nbC (gg 1 15) nr (nI k - 2)) (gg 1 38) n)), (11, .int (nbC (gg 1 15) nr (nI k - 2))), (10, .int (nI k - 2)), (9, .int nr), (8, .int (nI j - 1)), (7, .int (0)), (6, .int m9), (5, .int b), (4, .int (scC (g 1 15) (g 1 18))), (0, .ref 0), (1, .int (0)), (2, .ref 1), (3, .ref 3)] : Lc)) (st1 := ([.int m9, .int (trnG gg 0 (nbC (gg 1 15) nr (nI k - 2)) (gg 1 38) n)] : List Value)) (w1 := (layB (sntG gg 0 (nbC (gg 1 15) nr (nI k - 2)) (gg 1 38) (4) n) σ τ)) (by rfl) ?_
            refine bv_icmp_le (j := 70) C rfl rfl (fun c15 => ?_) (fun c15 => ?_)
            · refine bv_blk C frk_X6 csk_X6 1 71 rfl (L1 := ([(10, .int ((nI k - 2) + Int32.ofInt 1)), (12, .int (trnG gg 0 (nbC (gg 1 15) nr (nI k - 2)) (gg 1 38) n)), (11, .int (nbC (gg 1 15) nr (nI k - 2))), (9, .int nr), (8, .int (nI j - 1)), (7, .int (0)), (6, .int m9), (5, .int b), (4, .int (scC (g 1 15) (g 1 18))), (0, .ref 0), (1, .int (0)), (2, .ref 1), (3, .ref 3)] : Lc)) (st1 := ([] : List Value)) (w1 := (layB (sntG gg 0 (nbC (gg 1 15) nr (nI k - 2)) (gg 1 38) (4) n) σ τ)) (by rfl) ?_
              refine bv_goto (j := 47) C rfl rfl ?_
              rw [incs k 2]
              refine bv_sub [0, 3, 4, 5, 6, 7, 8, 9, 10, 11, 12] (by rfl) ?_
              refine ihI (k + 1) (sntG gg 0 (nbC (gg 1 15) nr (nI k - 2)) (gg 1 38) (4) n) nr b m9 (by omega) (st_same (kp_snt (fr := 0) (m := n) (b0 := (nbC (gg 1 15) nr (nI k - 2))) (b1 := (gg 1 38)) (t := (4)) (kp_rf _)) hs) ?_
              rw [← heq, rfI_le0 c15]
            · refine bv_blk C frk_X6 csk_X6 5 71 rfl (L1 := ([(10, .int ((nI k - 2) + Int32.ofInt 1)), (5, .int (nbC (gg 1 15) nr (nI k - 2))), (6, .int (trnG gg 0 (nbC (gg 1 15) nr (nI k - 2)) (gg 1 38) n)), (12, .int (trnG gg 0 (nbC (gg 1 15) nr (nI k - 2)) (gg 1 38) n)), (11, .int (nbC (gg 1 15) nr (nI k - 2))), (9, .int nr), (8, .int (nI j - 1)), (7, .int (0)), (4, .int (scC (g 1 15) (g 1 18))), (0, .ref 0), (1, .int (0)), (2, .ref 1), (3, .ref 3)] : Lc)) (st1 := ([] : List Value)) (w1 := (layB (sntG gg 0 (nbC (gg 1 15) nr (nI k - 2)) (gg 1 38) (4) n) σ τ)) (by rfl) ?_
              refine bv_goto (j := 47) C rfl rfl ?_
              rw [incs k 2]
              refine bv_sub [0, 5, 6, 7, 2, 1, 8, 9, 10, 11, 12] (by rfl) ?_
              refine ihI (k + 1) (sntG gg 0 (nbC (gg 1 15) nr (nI k - 2)) (gg 1 38) (4) n) nr (nbC (gg 1 15) nr (nI k - 2)) (trnG gg 0 (nbC (gg 1 15) nr (nI k - 2)) (gg 1 38) n) (by omega) (st_same (kp_snt (fr := 0) (m := n) (b0 := (nbC (gg 1 15) nr (nI k - 2))) (b1 := (gg 1 38)) (t := (4)) (kp_rf _)) hs) ?_
              rw [← heq, rfI_gt0 c15]
        rw [show ((-2) : Int32) = nI 0 - 2 from by decide]
        refine bv_sub [0, 1, 2, 3, 4, 5, 6, 7, 8, 9, 10] (by rfl) ?_
        exact lpI 5 0 gg (bsC (gg 1 15) (scC (g 1 15) (g 1 18)) (nI j - 1)) b m9 (by omega) hs heq
    rw [show ((-1) : Int32) = nI 0 - 1 from by decide]
    refine bv_sub [0, 1, 2, 3, 4, 7, 8, 6, 5] (by rfl) ?_
    refine lpO 2 0 (sntG g 0 (g 1 18) (g 1 38) (4) n) (g 1 18) (trnG g 0 (g 1 18) (g 1 38) n) (by omega) (st_same (kp_snt (fr := 0) (m := n) (b0 := (g 1 18)) (b1 := (g 1 38)) (t := (4)) (kp_rf _)) hs) ?_
    unfold rfT; exact (if_pos (show rfA 0 n g 1 15 = 2 from c1)).symm
set_option maxRecDepth 100000 in
set_option maxHeartbeats 8000000 in
theorem cs_refineBeam1 {l : Launch} {D : va_G} {cA : FieldType → ClassId} {z0 : Nat} {SK : Nat → Nat} {SV : Nat → Int32} {ad : Nat → Nat} (hE : aD (fun q => z0 ≤ q) ad 26) (g : Nat → Nat → Int32) (σ τ : Nat → Nat) (hσ : pmK σ τ) (n : Nat) (hs : statR g n) : bF l D cA z0 SK SV ad shB 26 yX6_refineBeam cX6_refineBeam 13 none 4 [.ref 0, .int (1)] (layB g σ τ) none (layB (rfE 1 n (rfT 1 n g)) σ τ) := by
  refine bCT_intro (tb := tb_X6_refineBeam) (own := RX6) hE pn_X6 rfl tk_X6_refineBeam rfl (Nat.le_of_ble_eq_true rfl) ?_
  intro p e s0 m args below meth c C hr
  refine bv_blk C frk_X6 csk_X6 2 2 rfl (L1 := ([(0, .ref 0), (1, .int (1))] : Lc)) (st1 := ([.int (1), .ref 0] : List Value)) (w1 := (layB g σ τ)) (by rfl) ?_
  refine bv_fV1 C rfl (cs_station1 hE g σ τ hσ) ml_X6_107 im_X6_station sel_X6_station ini_X6 cd_X6_station ok_X6_station rfl ⟨Nat.le_of_ble_eq_true rfl, Nat.le_of_ble_eq_true rfl⟩ ⟨Nat.zero_le _, Nat.zero_le _⟩ (by decide) rfl rfl rfl (rest := ([] : List Value)) rfl (Nat.le_of_ble_eq_true rfl) ?_
  refine bv_blk C frk_X6 csk_X6 5 8 rfl (L1 := ([(2, .ref 3), (0, .ref 0), (1, .int (1))] : Lc)) (st1 := ([.int ((1) - (1)), .ref 0] : List Value)) (w1 := (layB g σ τ)) (by rfl) ?_
  refine bv_fV1 C rfl (cs_station0 hE g σ τ hσ) ml_X6_107 im_X6_station sel_X6_station ini_X6 cd_X6_station ok_X6_station rfl ⟨Nat.le_of_ble_eq_true rfl, Nat.le_of_ble_eq_true rfl⟩ ⟨Nat.zero_le _, Nat.zero_le _⟩ (by decide) rfl rfl rfl (rest := ([] : List Value)) rfl (Nat.le_of_ble_eq_true rfl) ?_
  refine bv_blk C frk_X6 csk_X6 4 13 rfl (L1 := ([(3, .ref 1), (2, .ref 3), (0, .ref 0), (1, .int (1))] : Lc)) (st1 := ([.int (g 1 38), .ref 3] : List Value)) (w1 := (layB g σ τ)) (by rfl) ?_
  refine bv_fV1 C rfl (cs_sectorOf_3 hE g σ τ hσ (g 1 38)) ml_X6_194 im_X7_sectorOf sel_X7_sectorOf ini_X7 cd_X7_sectorOf ok_X7_sectorOf rfl ⟨Nat.le_of_ble_eq_true rfl, Nat.le_of_ble_eq_true rfl⟩ ⟨Nat.zero_le _, Nat.zero_le _⟩ (by decide) rfl rfl rfl (rest := ([] : List Value)) rfl (Nat.le_of_ble_eq_true rfl) ?_
  refine bv_blk C frk_X6 csk_X6 11 25 rfl (L1 := ([(5, .int (g 1 38)), (4, .int (scC (g 1 35) (g 1 38))), (3, .ref 1), (2, .ref 3), (0, .ref 0), (1, .int (1))] : Lc)) (st1 := ([.int (4), .int (g 1 18), .int (g 1 38), .int (1), .ref 0] : List Value)) (w1 := (layB g σ τ)) (by rfl) ?_
  refine bv_fV1 C rfl (cs_transmit1 hE g σ τ hσ n (g 1 38) (g 1 18) (4) hs) ml_X6_183 im_X6_transmit sel_X6_transmit ini_X6 cd_X6_transmit ok_X6_transmit rfl ⟨Nat.le_of_ble_eq_true rfl, Nat.le_of_ble_eq_true rfl⟩ ⟨Nat.zero_le _, Nat.zero_le _⟩ (by decide) rfl rfl rfl (rest := ([] : List Value)) rfl (Nat.le_of_ble_eq_true rfl) ?_
  refine bv_blk C frk_X6 csk_X6 4 30 rfl (L1 := ([(6, .int (trnG g 1 (g 1 18) (g 1 38) n)), (5, .int (g 1 38)), (4, .int (scC (g 1 35) (g 1 38))), (3, .ref 1), (2, .ref 3), (0, .ref 0), (1, .int (1))] : Lc)) (st1 := ([.int (2), .int ((sntG g 1 (g 1 18) (g 1 38) (4) n) 1 35)] : List Value)) (w1 := (layB (sntG g 1 (g 1 18) (g 1 38) (4) n) σ τ)) (by rfl) ?_
  refine bv_icmp_ne (j := 33) C rfl rfl (fun c1 => ?_) (fun c1 => ?_)
  · refine bv_blk C frk_X6 csk_X6 4 37 rfl (L1 := ([(8, .int (-1)), (7, .int (1)), (6, .int (trnG g 1 (g 1 18) (g 1 38) n)), (5, .int (g 1 38)), (4, .int (scC (g 1 35) (g 1 38))), (3, .ref 1), (2, .ref 3), (0, .ref 0), (1, .int (1))] : Lc)) (st1 := ([] : List Value)) (w1 := (layB (sntG g 1 (g 1 18) (g 1 38) (4) n) σ τ)) (by rfl) ?_
    have lpO : ∀ (r j : Nat) (gg : Nat → Nat → Int32) (b m9 : Int32), j + r = 3 → statR gg n → rfO 1 n (scC (g 1 35) (g 1 38)) r j (gg, b, m9) = rfT 1 n g → bV p l e (bR 4) s0 m args below meth c D cA shB (adA ad 26) 13 tb_X6_refineBeam (MQ below (bQ D cA ad shB 26 (fun r w1 => r = none ∧ w1 = (layB (rfE 1 n (rfT 1 n g)) σ τ))) args s0 0 0 (adA ad 26)) ad 26 0 0 (layB gg σ τ) 37 ([(8, .int (nI j - 1)), (7, .int (1)), (6, .int m9), (5, .int b), (4, .int (scC (g 1 35) (g 1 38))), (0, .ref 0), (1, .int (1)), (2, .ref 3), (3, .ref 1)] : Lc) ([] : List Value) := by
      intro r
      induction r with
      | zero =>
        intro j gg b m9 hj hs heq
        obtain rfl : j = 3 := by omega
        rw [rfO_0] at heq
        refine bv_blk C frk_X6 csk_X6 2 39 rfl (L1 := ([(8, .int (nI 3 - 1)), (7, .int (1)), (6, .int m9), (5, .int b), (4, .int (scC (g 1 35) (g 1 38))), (0, .ref 0), (1, .int (1)), (2, .ref 3), (3, .ref 1)] : Lc)) (st1 := ([.int (1), .int (nI 3 - 1)] : List Value)) (w1 := (layB gg σ τ)) (by rfl) ?_
        refine bv_icmp_gt (j := 74) C rfl rfl (fun _ => ?_) (fun h => absurd h (by decide))
        refine bv_blk C frk_X6 csk_X6 2 76 rfl (L1 := ([(8, .int (nI 3 - 1)), (7, .int (1)), (6, .int m9), (5, .int b), (4, .int (scC (g 1 35) (g 1 38))), (0, .ref 0), (1, .int (1)), (2, .ref 3), (3, .ref 1)] : Lc)) (st1 := ([.int (-100000), .int m9] : List Value)) (w1 := (layB gg σ τ)) (by rfl) ?_
        refine bv_icmp_eq (j := 92) C rfl rfl (fun c3 => ?_) (fun c3 => ?_)
        · exact bv_vret C rfl hr ⟨by (rfl), by (rw [← heq]; exact congrArg (fun x => layB x σ τ) (((if_pos c3).trans rfl)).symm)⟩
        · refine bv_blk C frk_X6 csk_X6 9 86 rfl (L1 := ([(8, .int (nI 3 - 1)), (7, .int (1)), (6, .int m9), (5, .int b), (4, .int (scC (g 1 35) (g 1 38))), (0, .ref 0), (1, .int (1)), (2, .ref 3), (3, .ref 1)] : Lc)) (st1 := ([.int (9), .int (gg 1 38), .int (gg 1 18), .int ((1) - (1)), .ref 0] : List Value)) (w1 := (layB gg σ τ)) (by rfl) ?_
          refine bv_fV1 C rfl (cs_transmit0 hE gg σ τ hσ n (gg 1 18) (gg 1 38) (9) hs) ml_X6_183 im_X6_transmit sel_X6_transmit ini_X6 cd_X6_transmit ok_X6_transmit rfl ⟨Nat.le_of_ble_eq_true rfl, Nat.le_of_ble_eq_true rfl⟩ ⟨Nat.zero_le _, Nat.zero_le _⟩ (by decide) rfl rfl rfl (rest := ([] : List Value)) rfl (Nat.le_of_ble_eq_true rfl) ?_
          refine bv_blk C frk_X6 csk_X6 1 88 rfl (L1 := ([(8, .int (nI 3 - 1)), (7, .int (1)), (6, .int m9), (5, .int b), (4, .int (scC (g 1 35) (g 1 38))), (0, .ref 0), (1, .int (1)), (2, .ref 3), (3, .ref 1)] : Lc)) (st1 := ([.int (-100000), .int (trnG gg 0 (gg 1 18) (gg 1 38) n)] : List Value)) (w1 := (layB (sntG gg 0 (gg 1 18) (gg 1 38) (9) n) σ τ)) (by rfl) ?_
          refine bv_icmp_eq (j := 92) C rfl rfl (fun c4 => ?_) (fun c4 => ?_)
          · exact bv_vret C rfl hr ⟨by (rfl), by (rw [← heq]; exact congrArg (fun x => layB x σ τ) (((if_neg c3).trans ((if_pos c4).trans rfl))).symm)⟩
          · refine bv_blk C frk_X6 csk_X6 3 92 rfl (L1 := ([(8, .int (nI 3 - 1)), (7, .int (1)), (6, .int m9), (5, .int b), (4, .int (scC (g 1 35) (g 1 38))), (0, .ref 0), (1, .int (1)), (2, .ref 3), (3, .ref 1)] : Lc)) (st1 := ([] : List Value)) (w1 := up2 (layB (sntG gg 0 (gg 1 18) (gg 1 38) (9) n) σ τ) 3 3 (.int b)) (by rfl) ?_
            refine bv_w (lb_up (o := 3) (k := 3) (a := 1) (b := 38) hσ (by decide) (by decide) (by rfl) (by rfl)) ?_
            exact bv_vret C rfl hr ⟨by (rfl), by (rw [← heq]; exact congrArg (fun x => layB x σ τ) (((if_neg c3).trans ((if_neg c4).trans rfl))).symm)⟩
      | succ r ihO =>
        intro j gg b m9 hj hs heq
        rw [rfO_nx] at heq
        refine bv_blk C frk_X6 csk_X6 2 39 rfl (L1 := ([(8, .int (nI j - 1)), (7, .int (1)), (6, .int m9), (5, .int b), (4, .int (scC (g 1 35) (g 1 38))), (0, .ref 0), (1, .int (1)), (2, .ref 3), (3, .ref 1)] : Lc)) (st1 := ([.int (1), .int (nI j - 1)] : List Value)) (w1 := (layB gg σ τ)) (by rfl) ?_
        refine bv_icmp_gt (j := 74) C rfl rfl (fun h => absurd h (stp1 j (by omega))) (fun _ => ?_)
        refine bv_blk C frk_X6 csk_X6 3 43 rfl (L1 := ([(8, .int (nI j - 1)), (7, .int (1)), (6, .int m9), (5, .int b), (4, .int (scC (g 1 35) (g 1 38))), (0, .ref 0), (1, .int (1)), (2, .ref 3), (3, .ref 1)] : Lc)) (st1 := ([.int (nI j - 1), .int (scC (g 1 35) (g 1 38)), .ref 3] : List Value)) (w1 := (layB gg σ τ)) (by rfl) ?_
        refine bv_fV1 C rfl (cs_sectorBeside_3 hE gg σ τ hσ (scC (g 1 35) (g 1 38)) (nI j - 1)) ml_X6_197 im_X7_sectorBeside sel_X7_sectorBeside ini_X7 cd_X7_sectorBeside ok_X7_sectorBeside rfl ⟨Nat.le_of_ble_eq_true rfl, Nat.le_of_ble_eq_true rfl⟩ ⟨Nat.zero_le _, Nat.zero_le _⟩ (by decide) rfl rfl rfl (rest := ([] : List Value)) rfl (Nat.le_of_ble_eq_true rfl) ?_
        refine bv_blk C frk_X6 csk_X6 3 47 rfl (L1 := ([(10, .int (-2)), (9, .int (bsC (gg 1 35) (scC (g 1 35) (g 1 38)) (nI j - 1))), (8, .int (nI j - 1)), (7, .int (1)), (6, .int m9), (5, .int b), (4, .int (scC (g 1 35) (g 1 38))), (0, .ref 0), (1, .int (1)), (2, .ref 3), (3, .ref 1)] : Lc)) (st1 := ([] : List Value)) (w1 := (layB gg σ τ)) (by rfl) ?_
        have lpI : ∀ (q k : Nat) (gg : Nat → Nat → Int32) (nr b m9 : Int32), k + q = 5 → statR gg n → rfO 1 n (scC (g 1 35) (g 1 38)) r (j + 1) (rfI 1 n nr q k (gg, b, m9)) = rfT 1 n g → bV p l e (bR 4) s0 m args below meth c D cA shB (adA ad 26) 13 tb_X6_refineBeam (MQ below (bQ D cA ad shB 26 (fun r w1 => r = none ∧ w1 = (layB (rfE 1 n (rfT 1 n g)) σ τ))) args s0 0 0 (adA ad 26)) ad 26 0 0 (layB gg σ τ) 47 ([(10, .int (nI k - 2)), (9, .int nr), (8, .int (nI j - 1)), (7, .int (1)), (6, .int m9), (5, .int b), (4, .int (scC (g 1 35) (g 1 38))), (0, .ref 0), (1, .int (1)), (2, .ref 3), (3, .ref 1)] : Lc) ([] : List Value) := by
          intro q
          induction q with
          | zero =>
            intro k gg nr b m9 hk hs heq
            obtain rfl : k = 5 := by omega
            rw [rfI_0] at heq
            refine bv_blk C frk_X6 csk_X6 2 49 rfl (L1 := ([(10, .int (nI 5 - 2)), (9, .int nr), (8, .int (nI j - 1)), (7, .int (1)), (6, .int m9), (5, .int b), (4, .int (scC (g 1 35) (g 1 38))), (0, .ref 0), (1, .int (1)), (2, .ref 3), (3, .ref 1)] : Lc)) (st1 := ([.int (2), .int (nI 5 - 2)] : List Value)) (w1 := (layB gg σ τ)) (by rfl) ?_
            refine bv_icmp_gt (j := 72) C rfl rfl (fun _ => ?_) (fun h => absurd h (by decide))
            refine bv_blk C frk_X6 csk_X6 1 73 rfl (L1 := ([(8, .int ((nI j - 1) + Int32.ofInt 1)), (10, .int (nI 5 - 2)), (9, .int nr), (7, .int (1)), (6, .int m9), (5, .int b), (4, .int (scC (g 1 35) (g 1 38))), (0, .ref 0), (1, .int (1)), (2, .ref 3), (3, .ref 1)] : Lc)) (st1 := ([] : List Value)) (w1 := (layB gg σ τ)) (by rfl) ?_
            refine bv_goto (j := 37) C rfl rfl ?_
            rw [incs j 1]
            refine bv_sub [0, 3, 4, 5, 6, 7, 8, 9, 10] (by rfl) ?_
            exact ihO (j + 1) gg b m9 (by omega) hs heq
          | succ q ihI =>
            intro k gg nr b m9 hk hs heq
            refine bv_blk C frk_X6 csk_X6 2 49 rfl (L1 := ([(10, .int (nI k - 2)), (9, .int nr), (8, .int (nI j - 1)), (7, .int (1)), (6, .int m9), (5, .int b), (4, .int (scC (g 1 35) (g 1 38))), (0, .ref 0), (1, .int (1)), (2, .ref 3), (3, .ref 1)] : Lc)) (st1 := ([.int (2), .int (nI k - 2)] : List Value)) (w1 := (layB gg σ τ)) (by rfl) ?_
            refine bv_icmp_gt (j := 72) C rfl rfl (fun h => absurd h (off5 k (by omega))) (fun _ => ?_)
            refine bv_blk C frk_X6 csk_X6 3 53 rfl (L1 := ([(10, .int (nI k - 2)), (9, .int nr), (8, .int (nI j - 1)), (7, .int (1)), (6, .int m9), (5, .int b), (4, .int (scC (g 1 35) (g 1 38))), (0, .ref 0), (1, .int (1)), (2, .ref 3), (3, .ref 1)] : Lc)) (st1 := ([.int (nI k - 2), .int nr, .ref 3] : List Value)) (w1 := (layB gg σ τ)) (by rfl) ?_
            refine bv_fV1 C rfl (cs_narrowBeam_3 hE gg σ τ hσ nr (nI k - 2)) ml_X6_200 im_X7_narrowBeam sel_X7_narrowBeam ini_X7 cd_X7_narrowBeam ok_X7_narrowBeam rfl ⟨Nat.le_of_ble_eq_true rfl, Nat.le_of_ble_eq_true rfl⟩ ⟨Nat.zero_le _, Nat.zero_le _⟩ (by decide) rfl rfl rfl (rest := ([] : List Value)) rfl (Nat.le_of_ble_eq_true rfl) ?_
            refine bv_blk C frk_X6 csk_X6 7 61 rfl (L1 := ([(11, .int (nbC (gg 1 35) nr (nI k - 2))), (10, .int (nI k - 2)), (9, .int nr), (8, .int (nI j - 1)), (7, .int (1)), (6, .int m9), (5, .int b), (4, .int (scC (g 1 35) (g 1 38))), (0, .ref 0), (1, .int (1)), (2, .ref 3), (3, .ref 1)] : Lc)) (st1 := ([.int (4), .int (gg 1 18), .int (nbC (gg 1 35) nr (nI k - 2)), .int (1), .ref 0] : List Value)) (w1 := (layB gg σ τ)) (by rfl) ?_
            refine bv_fV1 C rfl (cs_transmit1 hE gg σ τ hσ n (nbC (gg 1 35) nr (nI k - 2)) (gg 1 18) (4) hs) ml_X6_183 im_X6_transmit sel_X6_transmit ini_X6 cd_X6_transmit ok_X6_transmit rfl ⟨Nat.le_of_ble_eq_true rfl, Nat.le_of_ble_eq_true rfl⟩ ⟨Nat.zero_le _, Nat.zero_le _⟩ (by decide) rfl rfl rfl (rest := ([] : List Value)) rfl (Nat.le_of_ble_eq_true rfl) ?_
            refine bv_blk C frk_X6 csk_X6 3 65 rfl (L1 := ([(12, .int (trnG gg 1 (gg 1 18) (nbC (gg 1 35) nr (nI k - 2)) n)), (11, .int (nbC (gg 1 35) nr (nI k - 2))), (10, .int (nI k - 2)), (9, .int nr), (8, .int (nI j - 1)), (7, .int (1)), (6, .int m9), (5, .int b), (4, .int (scC (g 1 35) (g 1 38))), (0, .ref 0), (1, .int (1)), (2, .ref 3), (3, .ref 1)] : Lc)) (st1 := ([.int m9, .int (trnG gg 1 (gg 1 18) (nbC (gg 1 35) nr (nI k - 2)) n)] : List Value)) (w1 := (layB (sntG gg 1 (gg 1 18) (nbC (gg 1 35) nr (nI k - 2)) (4) n) σ τ)) (by rfl) ?_
            refine bv_icmp_le (j := 70) C rfl rfl (fun c8 => ?_) (fun c8 => ?_)
            · refine bv_blk C frk_X6 csk_X6 1 71 rfl (L1 := ([(10, .int ((nI k - 2) + Int32.ofInt 1)), (12, .int (trnG gg 1 (gg 1 18) (nbC (gg 1 35) nr (nI k - 2)) n)), (11, .int (nbC (gg 1 35) nr (nI k - 2))), (9, .int nr), (8, .int (nI j - 1)), (7, .int (1)), (6, .int m9), (5, .int b), (4, .int (scC (g 1 35) (g 1 38))), (0, .ref 0), (1, .int (1)), (2, .ref 3), (3, .ref 1)] : Lc)) (st1 := ([] : List Value)) (w1 := (layB (sntG gg 1 (gg 1 18) (nbC (gg 1 35) nr (nI k - 2)) (4) n) σ τ)) (by rfl) ?_
              refine bv_goto (j := 47) C rfl rfl ?_
              rw [incs k 2]
              refine bv_sub [0, 3, 4, 5, 6, 7, 8, 9, 10, 11, 12] (by rfl) ?_
              refine ihI (k + 1) (sntG gg 1 (gg 1 18) (nbC (gg 1 35) nr (nI k - 2)) (4) n) nr b m9 (by omega) (st_same (kp_snt (fr := 1) (m := n) (b0 := (gg 1 18)) (b1 := (nbC (gg 1 35) nr (nI k - 2))) (t := (4)) (kp_rf _)) hs) ?_
              rw [← heq, rfI_le1 c8]
            · refine bv_blk C frk_X6 csk_X6 5 71 rfl (L1 := ([(10, .int ((nI k - 2) + Int32.ofInt 1)), (5, .int (nbC (gg 1 35) nr (nI k - 2))), (6, .int (trnG gg 1 (gg 1 18) (nbC (gg 1 35) nr (nI k - 2)) n)), (12, .int (trnG gg 1 (gg 1 18) (nbC (gg 1 35) nr (nI k - 2)) n)), (11, .int (nbC (gg 1 35) nr (nI k - 2))), (9, .int nr), (8, .int (nI j - 1)), (7, .int (1)), (4, .int (scC (g 1 35) (g 1 38))), (0, .ref 0), (1, .int (1)), (2, .ref 3), (3, .ref 1)] : Lc)) (st1 := ([] : List Value)) (w1 := (layB (sntG gg 1 (gg 1 18) (nbC (gg 1 35) nr (nI k - 2)) (4) n) σ τ)) (by rfl) ?_
              refine bv_goto (j := 47) C rfl rfl ?_
              rw [incs k 2]
              refine bv_sub [0, 5, 6, 7, 2, 1, 8, 9, 10, 11, 12] (by rfl) ?_
              refine ihI (k + 1) (sntG gg 1 (gg 1 18) (nbC (gg 1 35) nr (nI k - 2)) (4) n) nr (nbC (gg 1 35) nr (nI k - 2)) (trnG gg 1 (gg 1 18) (nbC (gg 1 35) nr (nI k - 2)) n) (by omega) (st_same (kp_snt (fr := 1) (m := n) (b0 := (gg 1 18)) (b1 := (nbC (gg 1 35) nr (nI k - 2))) (t := (4)) (kp_rf _)) hs) ?_
              rw [← heq, rfI_gt1 c8]
        rw [show ((-2) : Int32) = nI 0 - 2 from by decide]
        refine bv_sub [0, 1, 2, 3, 4, 5, 6, 7, 8, 9, 10] (by rfl) ?_
        exact lpI 5 0 gg (bsC (gg 1 35) (scC (g 1 35) (g 1 38)) (nI j - 1)) b m9 (by omega) hs heq
    rw [show ((-1) : Int32) = nI 0 - 1 from by decide]
    refine bv_sub [0, 1, 2, 3, 4, 7, 8, 6, 5] (by rfl) ?_
    refine lpO 3 0 (sntG g 1 (g 1 18) (g 1 38) (4) n) (g 1 38) (trnG g 1 (g 1 18) (g 1 38) n) (by omega) (st_same (kp_snt (fr := 1) (m := n) (b0 := (g 1 18)) (b1 := (g 1 38)) (t := (4)) (kp_rf _)) hs) ?_
    unfold rfT; exact (if_neg (show ¬ rfA 1 n g 1 35 = 2 from c1)).symm
  · refine bv_blk C frk_X6 csk_X6 1 32 rfl (L1 := ([(6, .int (trnG g 1 (g 1 18) (g 1 38) n)), (5, .int (g 1 38)), (4, .int (scC (g 1 35) (g 1 38))), (3, .ref 1), (2, .ref 3), (0, .ref 0), (1, .int (1))] : Lc)) (st1 := ([.int (0)] : List Value)) (w1 := (layB (sntG g 1 (g 1 18) (g 1 38) (4) n) σ τ)) (by rfl) ?_
    refine bv_goto (j := 34) C rfl rfl ?_
    refine bv_blk C frk_X6 csk_X6 3 37 rfl (L1 := ([(8, .int (-1)), (7, .int (0)), (6, .int (trnG g 1 (g 1 18) (g 1 38) n)), (5, .int (g 1 38)), (4, .int (scC (g 1 35) (g 1 38))), (3, .ref 1), (2, .ref 3), (0, .ref 0), (1, .int (1))] : Lc)) (st1 := ([] : List Value)) (w1 := (layB (sntG g 1 (g 1 18) (g 1 38) (4) n) σ τ)) (by rfl) ?_
    have lpO : ∀ (r j : Nat) (gg : Nat → Nat → Int32) (b m9 : Int32), j + r = 2 → statR gg n → rfO 1 n (scC (g 1 35) (g 1 38)) r j (gg, b, m9) = rfT 1 n g → bV p l e (bR 4) s0 m args below meth c D cA shB (adA ad 26) 13 tb_X6_refineBeam (MQ below (bQ D cA ad shB 26 (fun r w1 => r = none ∧ w1 = (layB (rfE 1 n (rfT 1 n g)) σ τ))) args s0 0 0 (adA ad 26)) ad 26 0 0 (layB gg σ τ) 37 ([(8, .int (nI j - 1)), (7, .int (0)), (6, .int m9), (5, .int b), (4, .int (scC (g 1 35) (g 1 38))), (0, .ref 0), (1, .int (1)), (2, .ref 3), (3, .ref 1)] : Lc) ([] : List Value) := by
      intro r
      induction r with
      | zero =>
        intro j gg b m9 hj hs heq
        obtain rfl : j = 2 := by omega
        rw [rfO_0] at heq
        refine bv_blk C frk_X6 csk_X6 2 39 rfl (L1 := ([(8, .int (nI 2 - 1)), (7, .int (0)), (6, .int m9), (5, .int b), (4, .int (scC (g 1 35) (g 1 38))), (0, .ref 0), (1, .int (1)), (2, .ref 3), (3, .ref 1)] : Lc)) (st1 := ([.int (0), .int (nI 2 - 1)] : List Value)) (w1 := (layB gg σ τ)) (by rfl) ?_
        refine bv_icmp_gt (j := 74) C rfl rfl (fun _ => ?_) (fun h => absurd h (by decide))
        refine bv_blk C frk_X6 csk_X6 2 76 rfl (L1 := ([(8, .int (nI 2 - 1)), (7, .int (0)), (6, .int m9), (5, .int b), (4, .int (scC (g 1 35) (g 1 38))), (0, .ref 0), (1, .int (1)), (2, .ref 3), (3, .ref 1)] : Lc)) (st1 := ([.int (-100000), .int m9] : List Value)) (w1 := (layB gg σ τ)) (by rfl) ?_
        refine bv_icmp_eq (j := 92) C rfl rfl (fun c10 => ?_) (fun c10 => ?_)
        · exact bv_vret C rfl hr ⟨by (rfl), by (rw [← heq]; exact congrArg (fun x => layB x σ τ) (((if_pos c10).trans rfl)).symm)⟩
        · refine bv_blk C frk_X6 csk_X6 9 86 rfl (L1 := ([(8, .int (nI 2 - 1)), (7, .int (0)), (6, .int m9), (5, .int b), (4, .int (scC (g 1 35) (g 1 38))), (0, .ref 0), (1, .int (1)), (2, .ref 3), (3, .ref 1)] : Lc)) (st1 := ([.int (9), .int (gg 1 38), .int (gg 1 18), .int ((1) - (1)), .ref 0] : List Value)) (w1 := (layB gg σ τ)) (by rfl) ?_
          refine bv_fV1 C rfl (cs_transmit0 hE gg σ τ hσ n (gg 1 18) (gg 1 38) (9) hs) ml_X6_183 im_X6_transmit sel_X6_transmit ini_X6 cd_X6_transmit ok_X6_transmit rfl ⟨Nat.le_of_ble_eq_true rfl, Nat.le_of_ble_eq_true rfl⟩ ⟨Nat.zero_le _, Nat.zero_le _⟩ (by decide) rfl rfl rfl (rest := ([] : List Value)) rfl (Nat.le_of_ble_eq_true rfl) ?_
          refine bv_blk C frk_X6 csk_X6 1 88 rfl (L1 := ([(8, .int (nI 2 - 1)), (7, .int (0)), (6, .int m9), (5, .int b), (4, .int (scC (g 1 35) (g 1 38))), (0, .ref 0), (1, .int (1)), (2, .ref 3), (3, .ref 1)] : Lc)) (st1 := ([.int (-100000), .int (trnG gg 0 (gg 1 18) (gg 1 38) n)] : List Value)) (w1 := (layB (sntG gg 0 (gg 1 18) (gg 1 38) (9) n) σ τ)) (by rfl) ?_
          refine bv_icmp_eq (j := 92) C rfl rfl (fun c11 => ?_) (fun c11 => ?_)
          · exact bv_vret C rfl hr ⟨by (rfl), by (rw [← heq]; exact congrArg (fun x => layB x σ τ) (((if_neg c10).trans ((if_pos c11).trans rfl))).symm)⟩
          · refine bv_blk C frk_X6 csk_X6 3 92 rfl (L1 := ([(8, .int (nI 2 - 1)), (7, .int (0)), (6, .int m9), (5, .int b), (4, .int (scC (g 1 35) (g 1 38))), (0, .ref 0), (1, .int (1)), (2, .ref 3), (3, .ref 1)] : Lc)) (st1 := ([] : List Value)) (w1 := up2 (layB (sntG gg 0 (gg 1 18) (gg 1 38) (9) n) σ τ) 3 3 (.int b)) (by rfl) ?_
            refine bv_w (lb_up (o := 3) (k := 3) (a := 1) (b := 38) hσ (by decide) (by decide) (by rfl) (by rfl)) ?_
            exact bv_vret C rfl hr ⟨by (rfl), by (rw [← heq]; exact congrArg (fun x => layB x σ τ) (((if_neg c10).trans ((if_neg c11).trans rfl))).symm)⟩
      | succ r ihO =>
        intro j gg b m9 hj hs heq
        rw [rfO_nx] at heq
        refine bv_blk C frk_X6 csk_X6 2 39 rfl (L1 := ([(8, .int (nI j - 1)), (7, .int (0)), (6, .int m9), (5, .int b), (4, .int (scC (g 1 35) (g 1 38))), (0, .ref 0), (1, .int (1)), (2, .ref 3), (3, .ref 1)] : Lc)) (st1 := ([.int (0), .int (nI j - 1)] : List Value)) (w1 := (layB gg σ τ)) (by rfl) ?_
        refine bv_icmp_gt (j := 74) C rfl rfl (fun h => absurd h (stp0 j (by omega))) (fun _ => ?_)
        refine bv_blk C frk_X6 csk_X6 3 43 rfl (L1 := ([(8, .int (nI j - 1)), (7, .int (0)), (6, .int m9), (5, .int b), (4, .int (scC (g 1 35) (g 1 38))), (0, .ref 0), (1, .int (1)), (2, .ref 3), (3, .ref 1)] : Lc)) (st1 := ([.int (nI j - 1), .int (scC (g 1 35) (g 1 38)), .ref 3] : List Value)) (w1 := (layB gg σ τ)) (by rfl) ?_
        refine bv_fV1 C rfl (cs_sectorBeside_3 hE gg σ τ hσ (scC (g 1 35) (g 1 38)) (nI j - 1)) ml_X6_197 im_X7_sectorBeside sel_X7_sectorBeside ini_X7 cd_X7_sectorBeside ok_X7_sectorBeside rfl ⟨Nat.le_of_ble_eq_true rfl, Nat.le_of_ble_eq_true rfl⟩ ⟨Nat.zero_le _, Nat.zero_le _⟩ (by decide) rfl rfl rfl (rest := ([] : List Value)) rfl (Nat.le_of_ble_eq_true rfl) ?_
        refine bv_blk C frk_X6 csk_X6 3 47 rfl (L1 := ([(10, .int (-2)), (9, .int (bsC (gg 1 35) (scC (g 1 35) (g 1 38)) (nI j - 1))), (8, .int (nI j - 1)), (7, .int (0)), (6, .int m9), (5, .int b), (4, .int (scC (g 1 35) (g 1 38))), (0, .ref 0), (1, .int (1)), (2, .ref 3), (3, .ref 1)] : Lc)) (st1 := ([] : List Value)) (w1 := (layB gg σ τ)) (by rfl) ?_
        have lpI : ∀ (q k : Nat) (gg : Nat → Nat → Int32) (nr b m9 : Int32), k + q = 5 → statR gg n → rfO 1 n (scC (g 1 35) (g 1 38)) r (j + 1) (rfI 1 n nr q k (gg, b, m9)) = rfT 1 n g → bV p l e (bR 4) s0 m args below meth c D cA shB (adA ad 26) 13 tb_X6_refineBeam (MQ below (bQ D cA ad shB 26 (fun r w1 => r = none ∧ w1 = (layB (rfE 1 n (rfT 1 n g)) σ τ))) args s0 0 0 (adA ad 26)) ad 26 0 0 (layB gg σ τ) 47 ([(10, .int (nI k - 2)), (9, .int nr), (8, .int (nI j - 1)), (7, .int (0)), (6, .int m9), (5, .int b), (4, .int (scC (g 1 35) (g 1 38))), (0, .ref 0), (1, .int (1)), (2, .ref 3), (3, .ref 1)] : Lc) ([] : List Value) := by
          intro q
          induction q with
          | zero =>
            intro k gg nr b m9 hk hs heq
            obtain rfl : k = 5 := by omega
            rw [rfI_0] at heq
            refine bv_blk C frk_X6 csk_X6 2 49 rfl (L1 := ([(10, .int (nI 5 - 2)), (9, .int nr), (8, .int (nI j - 1)), (7, .int (0)), (6, .int m9), (5, .int b), (4, .int (scC (g 1 35) (g 1 38))), (0, .ref 0), (1, .int (1)), (2, .ref 3), (3, .ref 1)] : Lc)) (st1 := ([.int (2), .int (nI 5 - 2)] : List Value)) (w1 := (layB gg σ τ)) (by rfl) ?_
            refine bv_icmp_gt (j := 72) C rfl rfl (fun _ => ?_) (fun h => absurd h (by decide))
            refine bv_blk C frk_X6 csk_X6 1 73 rfl (L1 := ([(8, .int ((nI j - 1) + Int32.ofInt 1)), (10, .int (nI 5 - 2)), (9, .int nr), (7, .int (0)), (6, .int m9), (5, .int b), (4, .int (scC (g 1 35) (g 1 38))), (0, .ref 0), (1, .int (1)), (2, .ref 3), (3, .ref 1)] : Lc)) (st1 := ([] : List Value)) (w1 := (layB gg σ τ)) (by rfl) ?_
            refine bv_goto (j := 37) C rfl rfl ?_
            rw [incs j 1]
            refine bv_sub [0, 3, 4, 5, 6, 7, 8, 9, 10] (by rfl) ?_
            exact ihO (j + 1) gg b m9 (by omega) hs heq
          | succ q ihI =>
            intro k gg nr b m9 hk hs heq
            refine bv_blk C frk_X6 csk_X6 2 49 rfl (L1 := ([(10, .int (nI k - 2)), (9, .int nr), (8, .int (nI j - 1)), (7, .int (0)), (6, .int m9), (5, .int b), (4, .int (scC (g 1 35) (g 1 38))), (0, .ref 0), (1, .int (1)), (2, .ref 3), (3, .ref 1)] : Lc)) (st1 := ([.int (2), .int (nI k - 2)] : List Value)) (w1 := (layB gg σ τ)) (by rfl) ?_
            refine bv_icmp_gt (j := 72) C rfl rfl (fun h => absurd h (off5 k (by omega))) (fun _ => ?_)
            refine bv_blk C frk_X6 csk_X6 3 53 rfl (L1 := ([(10, .int (nI k - 2)), (9, .int nr), (8, .int (nI j - 1)), (7, .int (0)), (6, .int m9), (5, .int b), (4, .int (scC (g 1 35) (g 1 38))), (0, .ref 0), (1, .int (1)), (2, .ref 3), (3, .ref 1)] : Lc)) (st1 := ([.int (nI k - 2), .int nr, .ref 3] : List Value)) (w1 := (layB gg σ τ)) (by rfl) ?_
            refine bv_fV1 C rfl (cs_narrowBeam_3 hE gg σ τ hσ nr (nI k - 2)) ml_X6_200 im_X7_narrowBeam sel_X7_narrowBeam ini_X7 cd_X7_narrowBeam ok_X7_narrowBeam rfl ⟨Nat.le_of_ble_eq_true rfl, Nat.le_of_ble_eq_true rfl⟩ ⟨Nat.zero_le _, Nat.zero_le _⟩ (by decide) rfl rfl rfl (rest := ([] : List Value)) rfl (Nat.le_of_ble_eq_true rfl) ?_
            refine bv_blk C frk_X6 csk_X6 7 61 rfl (L1 := ([(11, .int (nbC (gg 1 35) nr (nI k - 2))), (10, .int (nI k - 2)), (9, .int nr), (8, .int (nI j - 1)), (7, .int (0)), (6, .int m9), (5, .int b), (4, .int (scC (g 1 35) (g 1 38))), (0, .ref 0), (1, .int (1)), (2, .ref 3), (3, .ref 1)] : Lc)) (st1 := ([.int (4), .int (gg 1 18), .int (nbC (gg 1 35) nr (nI k - 2)), .int (1), .ref 0] : List Value)) (w1 := (layB gg σ τ)) (by rfl) ?_
            refine bv_fV1 C rfl (cs_transmit1 hE gg σ τ hσ n (nbC (gg 1 35) nr (nI k - 2)) (gg 1 18) (4) hs) ml_X6_183 im_X6_transmit sel_X6_transmit ini_X6 cd_X6_transmit ok_X6_transmit rfl ⟨Nat.le_of_ble_eq_true rfl, Nat.le_of_ble_eq_true rfl⟩ ⟨Nat.zero_le _, Nat.zero_le _⟩ (by decide) rfl rfl rfl (rest := ([] : List Value)) rfl (Nat.le_of_ble_eq_true rfl) ?_
            refine bv_blk C frk_X6 csk_X6 3 65 rfl (L1 := ([(12, .int (trnG gg 1 (gg 1 18) (nbC (gg 1 35) nr (nI k - 2)) n)), (11, .int (nbC (gg 1 35) nr (nI k - 2))), (10, .int (nI k - 2)), (9, .int nr), (8, .int (nI j - 1)), (7, .int (0)), (6, .int m9), (5, .int b), (4, .int (scC (g 1 35) (g 1 38))), (0, .ref 0), (1, .int (1)), (2, .ref 3), (3, .ref 1)] : Lc)) (st1 := ([.int m9, .int (trnG gg 1 (gg 1 18) (nbC (gg 1 35) nr (nI k - 2)) n)] : List Value)) (w1 := (layB (sntG gg 1 (gg 1 18) (nbC (gg 1 35) nr (nI k - 2)) (4) n) σ τ)) (by rfl) ?_
            refine bv_icmp_le (j := 70) C rfl rfl (fun c15 => ?_) (fun c15 => ?_)
            · refine bv_blk C frk_X6 csk_X6 1 71 rfl (L1 := ([(10, .int ((nI k - 2) + Int32.ofInt 1)), (12, .int (trnG gg 1 (gg 1 18) (nbC (gg 1 35) nr (nI k - 2)) n)), (11, .int (nbC (gg 1 35) nr (nI k - 2))), (9, .int nr), (8, .int (nI j - 1)), (7, .int (0)), (6, .int m9), (5, .int b), (4, .int (scC (g 1 35) (g 1 38))), (0, .ref 0), (1, .int (1)), (2, .ref 3), (3, .ref 1)] : Lc)) (st1 := ([] : List Value)) (w1 := (layB (sntG gg 1 (gg 1 18) (nbC (gg 1 35) nr (nI k - 2)) (4) n) σ τ)) (by rfl) ?_
              refine bv_goto (j := 47) C rfl rfl ?_
              rw [incs k 2]
              refine bv_sub [0, 3, 4, 5, 6, 7, 8, 9, 10, 11, 12] (by rfl) ?_
              refine ihI (k + 1) (sntG gg 1 (gg 1 18) (nbC (gg 1 35) nr (nI k - 2)) (4) n) nr b m9 (by omega) (st_same (kp_snt (fr := 1) (m := n) (b0 := (gg 1 18)) (b1 := (nbC (gg 1 35) nr (nI k - 2))) (t := (4)) (kp_rf _)) hs) ?_
              rw [← heq, rfI_le1 c15]
            · refine bv_blk C frk_X6 csk_X6 5 71 rfl (L1 := ([(10, .int ((nI k - 2) + Int32.ofInt 1)), (5, .int (nbC (gg 1 35) nr (nI k - 2))), (6, .int (trnG gg 1 (gg 1 18) (nbC (gg 1 35) nr (nI k - 2)) n)), (12, .int (trnG gg 1 (gg 1 18) (nbC (gg 1 35) nr (nI k - 2)) n)), (11, .int (nbC (gg 1 35) nr (nI k - 2))), (9, .int nr), (8, .int (nI j - 1)), (7, .int (0)), (4, .int (scC (g 1 35) (g 1 38))), (0, .ref 0), (1, .int (1)), (2, .ref 3), (3, .ref 1)] : Lc)) (st1 := ([] : List Value)) (w1 := (layB (sntG gg 1 (gg 1 18) (nbC (gg 1 35) nr (nI k - 2)) (4) n) σ τ)) (by rfl) ?_
              refine bv_goto (j := 47) C rfl rfl ?_
              rw [incs k 2]
              refine bv_sub [0, 5, 6, 7, 2, 1, 8, 9, 10, 11, 12] (by rfl) ?_
              refine ihI (k + 1) (sntG gg 1 (gg 1 18) (nbC (gg 1 35) nr (nI k - 2)) (4) n) nr (nbC (gg 1 35) nr (nI k - 2)) (trnG gg 1 (gg 1 18) (nbC (gg 1 35) nr (nI k - 2)) n) (by omega) (st_same (kp_snt (fr := 1) (m := n) (b0 := (gg 1 18)) (b1 := (nbC (gg 1 35) nr (nI k - 2))) (t := (4)) (kp_rf _)) hs) ?_
              rw [← heq, rfI_gt1 c15]
        rw [show ((-2) : Int32) = nI 0 - 2 from by decide]
        refine bv_sub [0, 1, 2, 3, 4, 5, 6, 7, 8, 9, 10] (by rfl) ?_
        exact lpI 5 0 gg (bsC (gg 1 35) (scC (g 1 35) (g 1 38)) (nI j - 1)) b m9 (by omega) hs heq
    rw [show ((-1) : Int32) = nI 0 - 1 from by decide]
    refine bv_sub [0, 1, 2, 3, 4, 7, 8, 6, 5] (by rfl) ?_
    refine lpO 2 0 (sntG g 1 (g 1 18) (g 1 38) (4) n) (g 1 38) (trnG g 1 (g 1 18) (g 1 38) n) (by omega) (st_same (kp_snt (fr := 1) (m := n) (b0 := (g 1 18)) (b1 := (g 1 38)) (t := (4)) (kp_rf _)) hs) ?_
    unfold rfT; exact (if_pos (show rfA 1 n g 1 35 = 2 from c1)).symm
