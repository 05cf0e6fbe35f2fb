/-! THE LAW: the look ahead, the end, the loop -/
section LD9
variable {p : Program} {l : Launch} {e : Env} {R : Room} {s : State} {m : MethodId} {args : Array Value} {below : List Frame} {meth : Method} {c : Code} {D : va_G} {cA : FieldType → ClassId} {z0 : Nat} {SK : Nat → Nat} {SV : Nat → Int32} {A : Nat → Prop} {Q : State → Prop} {ad : Nat → Nat} {cells slots : Nat} {g sv : Nat → Nat → Int32} {σ τ : Nat → Nat → Nat} {ρ : Nat → Nat} {c9 : Nat} {ev : Nat → Int32} {S : Nat → Nat}
theorem ou_D {n : Nat} {g : Nat → Nat → Int32} : ∀ q k : Nat, (∃ j, k ≤ j ∧ j ≤ k + q ∧ (ouF n S g q k).1 = nI j ∧ pasN n S g j 1 0 = 0 ∧ ∀ i, k ≤ i → i < j → ¬ pasN n S g i 1 0 = 0) ∨ ((ouF n S g q k).1 = -100000 ∧ ∀ i, k ≤ i → i ≤ k + q → ¬ pasN n S g i 1 0 = 0)
  | 0, k => by
    unfold ouF
    by_cases h : pasN n S g k 1 0 = 0
    · rw [if_pos h]
      exact Or.inl ⟨k, by omega, by omega, rfl, h, fun i a b => by omega⟩
    · rw [if_neg h]
      exact Or.inr ⟨rfl, fun i a b => by rw [show i = k by omega]; exact h⟩
  | q + 1, k => by
    unfold ouF
    by_cases h : pasN n S g k 1 0 = 0
    · rw [if_pos h]
      exact Or.inl ⟨k, by omega, by omega, rfl, h, fun i a b => by omega⟩
    · rw [if_neg h]
      rcases ou_D q (k + 1) with ⟨j, a1, a2, a3, a4, a5⟩ | ⟨a1, a2⟩
      · refine Or.inl ⟨j, by omega, by omega, a3, a4, fun i b1 b2 => ?_⟩
        by_cases e : i = k
        · rw [e]; exact h
        · exact a5 i (by omega) b2
      · refine Or.inr ⟨a1, fun i b1 b2 => ?_⟩
        by_cases e : i = k
        · rw [e]; exact h
        · exact a2 i (by omega) (by omega)
/-- the look ahead: what it tells of the intervals -/
def duK (n : Nat) (S : Nat → Nat) (g : Nat → Nat → Int32) (due : Int32) : Prop := (∃ u, u ≤ 4 ∧ due = nI u ∧ pasN n S g u 1 0 = 0 ∧ ∀ i, i < u → ¬ pasN n S g i 1 0 = 0) ∨ (due = -100000 ∧ ∀ i, i ≤ 4 → ¬ pasN n S g i 1 0 = 0)
theorem du_of {n : Nat} {g g2 : Nat → Nat → Int32} (hi : invK g n S) (e : ∀ k, g2 1 k = g 1 k) : duK n S g2 ((ouF n S g 4 0).1) := by
  obtain ⟨k1, k2, k3, k4, k5, k6⟩ := inv_sec hi
  have rl : rlG n g g2 g g2 := rlG_of (inv_n8 hi) ⟨fun k _ => e k, fun k _ _ => e k, fun k _ _ => e k⟩ (inv_ev hi) (inv_bk hi)
  have ee : ∀ i, pasN n S g2 i 1 0 = pasN n S g i 1 0 := fun i => (rl_pasN (S := S) rl k4 k6 i).sc (by omega)
  rcases ou_D (S := S) (n := n) (g := g) 4 0 with ⟨j, -, a2, a3, a4, a5⟩ | ⟨a1, a2⟩
  · exact Or.inl ⟨j, by omega, a3, by rw [ee]; exact a4, fun i hi => by rw [ee]; exact a5 i (by omega) hi⟩
  · exact Or.inr ⟨a1, fun i hi => by rw [ee]; exact a2 i (by omega) (by omega)⟩
theorem bt_n {x : Int32} (h : ¬ x = 0) : btI x = 1 := if_neg h
theorem bt_z {x : Int32} (h : x = 0) : btI x = 0 := if_pos h
set_option maxRecDepth 100000 in
set_option maxHeartbeats 8000000 in
theorem sg_O5 (C : bC p s m args meth c D cA z0 SK SV A 21 RL code tb_L_law) (had : ad 400 = SK 0) (hR : 11 ≤ R.frames ∧ 442 ≤ R.locals) (hR2 : cells ≤ R.cells ∧ slots ≤ R.slots) (I : SJ S g σ τ ρ c9) (t : Nat) (k6 : ∀ (g2 sv2 : Nat → Nat → Int32) (σ2 τ2 : Nat → Nat → Nat) (ρ2 : Nat → Nat) (c2 : Nat), SJ S g2 σ2 τ2 ρ2 c2 → (∀ k, g2 1 k = g 1 k) → bV p l e R s m args below meth c D cA shZ A 21 tb_L_law Q ad 183 cells slots (layZ g2 sv2 σ2 τ2 ρ2 c2 ev) 448 ([(5, .int (nI t)), (0, .ref 400), (1, .ref 0), (2, .ref 182)] : Lc) ([] : List Value)) : bV p l e R s m args below meth c D cA shZ A 21 tb_L_law Q ad 183 cells slots (layZ g sv σ τ ρ c9 ev) 372 ([(5, .int (nI t)), (0, .ref 400), (1, .ref 0), (2, .ref 182)] : Lc) ([] : List Value) := by
  refine bv_hE C (fun hE => ?_)
  obtain ⟨n, hi⟩ := I.2.1
  refine bv_blk C frk_L csk_L 2 374 rfl (L1 := ([(5, .int (nI t)), (0, .ref 400), (1, .ref 0), (2, .ref 182)] : Lc)) (st1 := ([.int (4), .int (nI t)] : List Value)) (w1 := (layZ g sv σ τ ρ c9 ev)) (by rfl) ?_
  refine bv_irem C rfl (by decide) ?_
  refine bv_blk C frk_L csk_L 1 376 rfl (L1 := ([(5, .int (nI t)), (0, .ref 400), (1, .ref 0), (2, .ref 182)] : Lc)) (st1 := ([.int (3), .int ((nI t) - (nI t) / (4) * (4))] : List Value)) (w1 := (layZ g sv σ τ ρ c9 ev)) (by rfl) ?_
  refine bv_icmp_ne (j := 448) C rfl (by rw [pcL_448]; rfl) (fun c1 => ?_) (fun c1 => ?_)
  · refine bv_sub [0, 1, 2, 3] (by rfl) ?_
    exact k6 g sv σ τ ρ c9 I (fun _ => rfl)
  · refine bv_blk C frk_L csk_L 1 378 rfl (L1 := ([(5, .int (nI t)), (0, .ref 400), (1, .ref 0), (2, .ref 182)] : Lc)) (st1 := ([.ref 0] : List Value)) (w1 := (layZ g sv σ τ ρ c9 ev)) (by rfl) ?_
    refine bv_cE (As := ([] : List Value)) (rest := ([] : List Value)) (v := .long (dgR g)) C rfl (jd_digest (aD_E hE) I) ml_L_109 im_X8_digest sel_X8_digest ini_X8 cd_X8_digest ok_X8_digest rfl ⟨by omega, by omega⟩ hR2 rfl (fun _ => rfl) (fun _ => rfl) (Nat.le_of_ble_eq_true rfl) ?_
    refine bv_blk C frk_L csk_L 3 382 rfl (L1 := ([(16, .long (dgR g)), (5, .int (nI t)), (0, .ref 400), (1, .ref 0), (2, .ref 182)] : Lc)) (st1 := ([.int (4), .ref 0] : List Value)) (w1 := (layZ g sv σ τ ρ c9 ev)) (by rfl) ?_
    refine bv_cE (As := ([.int (nI 4)] : List Value)) (rest := ([] : List Value)) (v := .int ((ouF n S g 4 0).1)) C rfl (fc_outage (aD_E hE) g sv σ τ I.1 ρ c9 n S 4 hi I.bo (by omega) (by omega)) ml_L_148 im_X8_outage sel_X8_outage ini_X8 cd_X8_outage ok_X8_outage rfl ⟨by omega, by omega⟩ hR2 rfl (fun _ => rfl) (fun _ => rfl) (Nat.le_of_ble_eq_true rfl) ?_
    obtain ⟨g2, eg2⟩ : ∃ x, x = (kN g (pasN n S g (ouF n S g 4 0).2)) := ⟨_, rfl⟩
    obtain ⟨sv2, es2⟩ : ∃ x, x = (sS sv 1 ((pasN n S g (ouF n S g 4 0).2) 1)) := ⟨_, rfl⟩
    have e2 : ∀ k, g2 1 k = g 1 k := fun k => by rw [eg2]; exact if_pos rfl
    have hdu := du_of hi e2
    obtain ⟨due, ed⟩ : ∃ x, x = (ouF n S g 4 0).1 := ⟨_, rfl⟩
    rw [← ed] at hdu
    rw [← ed, ← eg2, ← es2]
    have I2 : SJ S g2 σ τ ρ c9 := sj_row I e2
    have hi2 : invK g2 n S := inv_le hi fun k _ => e2 k
    rcases hdu with ⟨u, hu4, hdu, hz, hnz⟩ | ⟨hdu, hnz⟩
    · rcases Nat.eq_zero_or_pos u with hu0 | hu0
      · subst hu0
        refine bv_blk C frk_L csk_L 2 385 rfl (L1 := ([(18, .int due), (16, .long (dgR g)), (5, .int (nI t)), (0, .ref 400), (1, .ref 0), (2, .ref 182)] : Lc)) (st1 := ([.ref 0] : List Value)) (w1 := (layZ g2 sv2 σ τ ρ c9 ev)) (by rfl) ?_
        refine bv_cE (As := ([] : List Value)) (rest := ([] : List Value)) (v := .long (dgR g2)) C rfl (jd_digest (aD_E hE) I2) ml_L_109 im_X8_digest sel_X8_digest ini_X8 cd_X8_digest ok_X8_digest rfl ⟨by omega, by omega⟩ hR2 rfl (fun _ => rfl) (fun _ => rfl) (Nat.le_of_ble_eq_true rfl) ?_
        refine bv_blk C frk_L csk_L 2 388 rfl (L1 := ([(18, .int due), (16, .long (dgR g)), (5, .int (nI t)), (0, .ref 400), (1, .ref 0), (2, .ref 182)] : Lc)) (st1 := ([.int (lg_cmp (dgR g2) (dgR g))] : List Value)) (w1 := (layZ g2 sv2 σ τ ρ c9 ev)) (by rfl) ?_
        refine bv_if_ne (j := 404) C rfl (by rw [pcL_404]; rfl) (fun h => absurd (by rw [dgR_row e2]; exact lg_eq _) h) (fun _ => ?_)
        refine bv_blk C frk_L csk_L 1 390 rfl (L1 := ([(18, .int due), (16, .long (dgR g)), (5, .int (nI t)), (0, .ref 400), (1, .ref 0), (2, .ref 182)] : Lc)) (st1 := ([.int due] : List Value)) (w1 := (layZ g2 sv2 σ τ ρ c9 ev)) (by rfl) ?_
        refine bv_if_ne (j := 393) C rfl (by rw [pcL_393]; rfl) (fun h => absurd (hdu) h) (fun _ => ?_)
        refine bv_blk C frk_L csk_L 1 392 rfl (L1 := ([(18, .int due), (16, .long (dgR g)), (5, .int (nI t)), (0, .ref 400), (1, .ref 0), (2, .ref 182)] : Lc)) (st1 := ([.int (1)] : List Value)) (w1 := (layZ g2 sv2 σ τ ρ c9 ev)) (by rfl) ?_
        refine bv_goto (j := 394) C rfl (by rw [pcL_394]; rfl) ?_
        refine bv_blk C frk_L csk_L 1 395 rfl (L1 := ([(18, .int due), (16, .long (dgR g)), (5, .int (nI t)), (0, .ref 400), (1, .ref 0), (2, .ref 182)] : Lc)) (st1 := ([.ref 0, .int (1)] : List Value)) (w1 := (layZ g2 sv2 σ τ ρ c9 ev)) (by rfl) ?_
        refine bv_cE (As := ([] : List Value)) (rest := ([.int (1)] : List Value)) (v := .int (btI (g2 1 0))) C rfl (fc_isUp (aD_E hE) g2 sv2 σ τ I2.1 ρ c9) ml_L_69 im_X8_isUp sel_X8_isUp ini_X8 cd_X8_isUp ok_X8_isUp rfl ⟨by omega, by omega⟩ hR2 rfl (fun _ => rfl) (fun _ => rfl) (Nat.le_of_ble_eq_true rfl) ?_
        refine bv_if_ne (j := 399) C rfl (by rw [pcL_399]; rfl) (fun h => absurd (bt_z hz) h) (fun _ => ?_)
        refine bv_blk C frk_L csk_L 1 398 rfl (L1 := ([(18, .int due), (16, .long (dgR g)), (5, .int (nI t)), (0, .ref 400), (1, .ref 0), (2, .ref 182)] : Lc)) (st1 := ([.int (1), .int (1)] : List Value)) (w1 := (layZ g2 sv2 σ τ ρ c9 ev)) (by rfl) ?_
        refine bv_goto (j := 400) C rfl (by rw [pcL_400]; rfl) ?_
        refine bv_icmp_ne (j := 404) C rfl (by rw [pcL_404]; rfl) (fun h => absurd h (by decide)) (fun _ => ?_)
        refine bv_blk C frk_L csk_L 2 403 rfl (L1 := ([(18, .int due), (16, .long (dgR g)), (5, .int (nI t)), (0, .ref 400), (1, .ref 0), (2, .ref 182)] : Lc)) (st1 := ([.int (4), .int due] : List Value)) (w1 := (layZ g2 sv2 σ τ ρ c9 ev)) (by rfl) ?_
        refine bv_icmp_le (j := 406) C rfl (by rw [pcL_406]; rfl) (fun _ => ?_) (fun h => absurd (by rw [hdu]; decide) h)
        refine bv_blk C frk_L csk_L 1 407 rfl (L1 := ([(18, .int due), (16, .long (dgR g)), (5, .int (nI t)), (0, .ref 400), (1, .ref 0), (2, .ref 182)] : Lc)) (st1 := ([.int due] : List Value)) (w1 := (layZ g2 sv2 σ τ ρ c9 ev)) (by rfl) ?_
        refine bv_if_ge (j := 410) C rfl (by rw [pcL_410]; rfl) (fun _ => ?_) (fun h => absurd (by rw [hdu]; decide) h)
        refine bv_blk C frk_L csk_L 2 412 rfl (L1 := ([(19, .int due), (18, .int due), (16, .long (dgR g)), (5, .int (nI t)), (0, .ref 400), (1, .ref 0), (2, .ref 182)] : Lc)) (st1 := ([] : List Value)) (w1 := (layZ g2 sv2 σ τ ρ c9 ev)) (by rfl) ?_
        refine bv_sub [2, 1, 0, 3, 4, 5, 6] (by rfl) ?_
        subst hdu
        exact sg_P C had hR hR2 I2 hi2 t (dgR g) (dgR_row e2) 0 (by omega) (nI 0) (fun k a b => ⟨fun z => bt_z (by rw [show k = 0 from nIij (by omega) (by omega) z]; exact hz), fun z => bt_n (hnz k (Nat.lt_of_le_of_ne b fun y => z (by rw [y])))⟩) (fun g3 sv3 σ3 τ3 ρ3 c3 I3 e3 => k6 g3 sv3 σ3 τ3 ρ3 c3 I3 (fun k => (e3 k).trans (e2 k)))
      · refine bv_blk C frk_L csk_L 2 385 rfl (L1 := ([(18, .int due), (16, .long (dgR g)), (5, .int (nI t)), (0, .ref 400), (1, .ref 0), (2, .ref 182)] : Lc)) (st1 := ([.ref 0] : List Value)) (w1 := (layZ g2 sv2 σ τ ρ c9 ev)) (by rfl) ?_
        refine bv_cE (As := ([] : List Value)) (rest := ([] : List Value)) (v := .long (dgR g2)) C rfl (jd_digest (aD_E hE) I2) ml_L_109 im_X8_digest sel_X8_digest ini_X8 cd_X8_digest ok_X8_digest rfl ⟨by omega, by omega⟩ hR2 rfl (fun _ => rfl) (fun _ => rfl) (Nat.le_of_ble_eq_true rfl) ?_
        refine bv_blk C frk_L csk_L 2 388 rfl (L1 := ([(18, .int due), (16, .long (dgR g)), (5, .int (nI t)), (0, .ref 400), (1, .ref 0), (2, .ref 182)] : Lc)) (st1 := ([.int (lg_cmp (dgR g2) (dgR g))] : List Value)) (w1 := (layZ g2 sv2 σ τ ρ c9 ev)) (by rfl) ?_
        refine bv_if_ne (j := 404) C rfl (by rw [pcL_404]; rfl) (fun h => absurd (by rw [dgR_row e2]; exact lg_eq _) h) (fun _ => ?_)
        refine bv_blk C frk_L csk_L 1 390 rfl (L1 := ([(18, .int due), (16, .long (dgR g)), (5, .int (nI t)), (0, .ref 400), (1, .ref 0), (2, .ref 182)] : Lc)) (st1 := ([.int due] : List Value)) (w1 := (layZ g2 sv2 σ τ ρ c9 ev)) (by rfl) ?_
        refine bv_if_ne (j := 393) C rfl (by rw [pcL_393]; rfl) (fun _ => ?_) (fun h => absurd h (fun z => absurd (nIij (a := u) (b := 0) (by omega) (by omega) (hdu.symm.trans z)) (by omega)))
        refine bv_blk C frk_L csk_L 2 395 rfl (L1 := ([(18, .int due), (16, .long (dgR g)), (5, .int (nI t)), (0, .ref 400), (1, .ref 0), (2, .ref 182)] : Lc)) (st1 := ([.ref 0, .int (0)] : List Value)) (w1 := (layZ g2 sv2 σ τ ρ c9 ev)) (by rfl) ?_
        refine bv_cE (As := ([] : List Value)) (rest := ([.int (0)] : List Value)) (v := .int (btI (g2 1 0))) C rfl (fc_isUp (aD_E hE) g2 sv2 σ τ I2.1 ρ c9) ml_L_69 im_X8_isUp sel_X8_isUp ini_X8 cd_X8_isUp ok_X8_isUp rfl ⟨by omega, by omega⟩ hR2 rfl (fun _ => rfl) (fun _ => rfl) (Nat.le_of_ble_eq_true rfl) ?_
        refine bv_if_ne (j := 399) C rfl (by rw [pcL_399]; rfl) (fun _ => ?_) (fun h => absurd h (by rw [show btI (g2 1 0) = 1 from bt_n (hnz 0 hu0)]; decide))
        refine bv_blk C frk_L csk_L 1 400 rfl (L1 := ([(18, .int due), (16, .long (dgR g)), (5, .int (nI t)), (0, .ref 400), (1, .ref 0), (2, .ref 182)] : Lc)) (st1 := ([.int (0), .int (0)] : List Value)) (w1 := (layZ g2 sv2 σ τ ρ c9 ev)) (by rfl) ?_
        refine bv_icmp_ne (j := 404) C rfl (by rw [pcL_404]; rfl) (fun h => absurd h (by decide)) (fun _ => ?_)
        refine bv_blk C frk_L csk_L 2 403 rfl (L1 := ([(18, .int due), (16, .long (dgR g)), (5, .int (nI t)), (0, .ref 400), (1, .ref 0), (2, .ref 182)] : Lc)) (st1 := ([.int (4), .int due] : List Value)) (w1 := (layZ g2 sv2 σ τ ρ c9 ev)) (by rfl) ?_
        refine bv_icmp_le (j := 406) C rfl (by rw [pcL_406]; rfl) (fun _ => ?_) (fun h => absurd (by rw [hdu]; exact nI_le (a := u) (b := 4) hu4 (by omega)) h)
        refine bv_blk C frk_L csk_L 1 407 rfl (L1 := ([(18, .int due), (16, .long (dgR g)), (5, .int (nI t)), (0, .ref 400), (1, .ref 0), (2, .ref 182)] : Lc)) (st1 := ([.int due] : List Value)) (w1 := (layZ g2 sv2 σ τ ρ c9 ev)) (by rfl) ?_
        refine bv_if_ge (j := 410) C rfl (by rw [pcL_410]; rfl) (fun _ => ?_) (fun h => absurd (by rw [hdu]; exact nI_le (a := 0) (b := u) (by omega) (by omega)) h)
        refine bv_blk C frk_L csk_L 2 412 rfl (L1 := ([(19, .int due), (18, .int due), (16, .long (dgR g)), (5, .int (nI t)), (0, .ref 400), (1, .ref 0), (2, .ref 182)] : Lc)) (st1 := ([] : List Value)) (w1 := (layZ g2 sv2 σ τ ρ c9 ev)) (by rfl) ?_
        refine bv_sub [2, 1, 0, 3, 4, 5, 6] (by rfl) ?_
        subst hdu
        exact sg_P C had hR hR2 I2 hi2 t (dgR g) (dgR_row e2) u (by omega) (nI u) (fun k a b => ⟨fun z => bt_z (by rw [show k = u from nIij (by omega) (by omega) z]; exact hz), fun z => bt_n (hnz k (Nat.lt_of_le_of_ne b fun y => z (by rw [y])))⟩) (fun g3 sv3 σ3 τ3 ρ3 c3 I3 e3 => k6 g3 sv3 σ3 τ3 ρ3 c3 I3 (fun k => (e3 k).trans (e2 k)))
    · refine bv_blk C frk_L csk_L 2 385 rfl (L1 := ([(18, .int due), (16, .long (dgR g)), (5, .int (nI t)), (0, .ref 400), (1, .ref 0), (2, .ref 182)] : Lc)) (st1 := ([.ref 0] : List Value)) (w1 := (layZ g2 sv2 σ τ ρ c9 ev)) (by rfl) ?_
      refine bv_cE (As := ([] : List Value)) (rest := ([] : List Value)) (v := .long (dgR g2)) C rfl (jd_digest (aD_E hE) I2) ml_L_109 im_X8_digest sel_X8_digest ini_X8 cd_X8_digest ok_X8_digest rfl ⟨by omega, by omega⟩ hR2 rfl (fun _ => rfl) (fun _ => rfl) (Nat.le_of_ble_eq_true rfl) ?_
      refine bv_blk C frk_L csk_L 2 388 rfl (L1 := ([(18, .int due), (16, .long (dgR g)), (5, .int (nI t)), (0, .ref 400), (1, .ref 0), (2, .ref 182)] : Lc)) (st1 := ([.int (lg_cmp (dgR g2) (dgR g))] : List Value)) (w1 := (layZ g2 sv2 σ τ ρ c9 ev)) (by rfl) ?_
      refine bv_if_ne (j := 404) C rfl (by rw [pcL_404]; rfl) (fun h => absurd (by rw [dgR_row e2]; exact lg_eq _) h) (fun _ => ?_)
      refine bv_blk C frk_L csk_L 1 390 rfl (L1 := ([(18, .int due), (16, .long (dgR g)), (5, .int (nI t)), (0, .ref 400), (1, .ref 0), (2, .ref 182)] : Lc)) (st1 := ([.int due] : List Value)) (w1 := (layZ g2 sv2 σ τ ρ c9 ev)) (by rfl) ?_
      refine bv_if_ne (j := 393) C rfl (by rw [pcL_393]; rfl) (fun _ => ?_) (fun h => absurd h (by rw [hdu]; decide))
      refine bv_blk C frk_L csk_L 2 395 rfl (L1 := ([(18, .int due), (16, .long (dgR g)), (5, .int (nI t)), (0, .ref 400), (1, .ref 0), (2, .ref 182)] : Lc)) (st1 := ([.ref 0, .int (0)] : List Value)) (w1 := (layZ g2 sv2 σ τ ρ c9 ev)) (by rfl) ?_
      refine bv_cE (As := ([] : List Value)) (rest := ([.int (0)] : List Value)) (v := .int (btI (g2 1 0))) C rfl (fc_isUp (aD_E hE) g2 sv2 σ τ I2.1 ρ c9) ml_L_69 im_X8_isUp sel_X8_isUp ini_X8 cd_X8_isUp ok_X8_isUp rfl ⟨by omega, by omega⟩ hR2 rfl (fun _ => rfl) (fun _ => rfl) (Nat.le_of_ble_eq_true rfl) ?_
      refine bv_if_ne (j := 399) C rfl (by rw [pcL_399]; rfl) (fun _ => ?_) (fun h => absurd h (by rw [show btI (g2 1 0) = 1 from bt_n (hnz 0 (by omega))]; decide))
      refine bv_blk C frk_L csk_L 1 400 rfl (L1 := ([(18, .int due), (16, .long (dgR g)), (5, .int (nI t)), (0, .ref 400), (1, .ref 0), (2, .ref 182)] : Lc)) (st1 := ([.int (0), .int (0)] : List Value)) (w1 := (layZ g2 sv2 σ τ ρ c9 ev)) (by rfl) ?_
      refine bv_icmp_ne (j := 404) C rfl (by rw [pcL_404]; rfl) (fun h => absurd h (by decide)) (fun _ => ?_)
      refine bv_blk C frk_L csk_L 2 403 rfl (L1 := ([(18, .int due), (16, .long (dgR g)), (5, .int (nI t)), (0, .ref 400), (1, .ref 0), (2, .ref 182)] : Lc)) (st1 := ([.int (4), .int due] : List Value)) (w1 := (layZ g2 sv2 σ τ ρ c9 ev)) (by rfl) ?_
      refine bv_icmp_le (j := 406) C rfl (by rw [pcL_406]; rfl) (fun _ => ?_) (fun h => absurd (by rw [hdu]; decide) h)
      refine bv_blk C frk_L csk_L 1 407 rfl (L1 := ([(18, .int due), (16, .long (dgR g)), (5, .int (nI t)), (0, .ref 400), (1, .ref 0), (2, .ref 182)] : Lc)) (st1 := ([.int due] : List Value)) (w1 := (layZ g2 sv2 σ τ ρ c9 ev)) (by rfl) ?_
      refine bv_if_ge (j := 410) C rfl (by rw [pcL_410]; rfl) (fun h => absurd h (by rw [hdu]; decide)) (fun _ => ?_)
      refine bv_blk C frk_L csk_L 1 409 rfl (L1 := ([(18, .int due), (16, .long (dgR g)), (5, .int (nI t)), (0, .ref 400), (1, .ref 0), (2, .ref 182)] : Lc)) (st1 := ([.int (4)] : List Value)) (w1 := (layZ g2 sv2 σ τ ρ c9 ev)) (by rfl) ?_
      refine bv_goto (j := 411) C rfl (by rw [pcL_411]; rfl) ?_
      refine bv_blk C frk_L csk_L 1 412 rfl (L1 := ([(19, .int (4)), (18, .int due), (16, .long (dgR g)), (5, .int (nI t)), (0, .ref 400), (1, .ref 0), (2, .ref 182)] : Lc)) (st1 := ([] : List Value)) (w1 := (layZ g2 sv2 σ τ ρ c9 ev)) (by rfl) ?_
      refine bv_sub [2, 1, 0, 3, 4, 5, 6] (by rfl) ?_
      exact sg_P C had hR hR2 I2 hi2 t (dgR g) (dgR_row e2) 4 (by omega) due (fun k a b => ⟨fun z => absurd (z.trans hdu) (nI_nn (by omega)), fun z => bt_n (hnz k b)⟩) (fun g3 sv3 σ3 τ3 ρ3 c3 I3 e3 => k6 g3 sv3 σ3 τ3 ρ3 c3 I3 (fun k => (e3 k).trans (e2 k)))
theorem hb_m {m : Int32} : hbC m (-1) = 0 := if_pos (by decide)
theorem sel_m {z0 : Nat} {g s : Nat → Nat → Int32} (hE : aD (fun q => z0 ≤ q) ad 182) (I : SJ S g σ τ ρ c9) : bF l D cA z0 SK SV ad shF 182 yX8_select cX8_select 4 (some .int) 3 [.ref 0, .int (0), .int (-1)] (layF g s σ τ ρ c9) (some (.int (-100002))) (layF g s σ τ ρ c9) := by
  have h := fc_select0 (l := l) (D := D) (cA := cA) (SK := SK) (SV := SV) hE g s σ τ I.1 ρ c9 (-1) I.bo I.2.2.2.1 I.2.2.1
  unfold fc_select0_r fc_select0_w at h
  rw [if_pos hb_m, if_pos hb_m] at h
  exact h
theorem bh_3 : cs_bhas_r 3 g = 0 := by
  unfold cs_bhas_r
  rw [if_neg (by decide)]
  split
  · rfl
  · exact if_pos (by decide)
set_option maxRecDepth 100000 in
set_option maxHeartbeats 8000000 in
theorem sg_F (C : bC p s m args meth c D cA z0 SK SV A 21 RL code tb_L_law) (had : ad 400 = SK 0) (hR : 11 ≤ R.frames ∧ 442 ≤ R.locals) (hR2 : cells ≤ R.cells ∧ slots ≤ R.slots) (I : SJ S g σ τ ρ c9) (t : Nat) (kR : bV p l e R s m args below meth c D cA shZ A 21 tb_L_law Q ad 183 cells slots (layZ g sv σ τ ρ c9 ev) 480 ([(5, .int (nI t)), (0, .ref 400), (1, .ref 0), (2, .ref 182)] : Lc) ([.int (1)] : List Value)) : bV p l e R s m args below meth c D cA shZ A 21 tb_L_law Q ad 183 cells slots (layZ g sv σ τ ρ c9 ev) 450 ([(5, .int (nI t)), (0, .ref 400), (1, .ref 0), (2, .ref 182)] : Lc) ([] : List Value) := by
  refine bv_hE C (fun hE => ?_)
  refine bv_blk C frk_L csk_L 2 452 rfl (L1 := ([(5, .int (nI t)), (0, .ref 400), (1, .ref 0), (2, .ref 182)] : Lc)) (st1 := ([.int (101), .ref 0] : List Value)) (w1 := (layZ g sv σ τ ρ c9 ev)) (by rfl) ?_
  refine bv_cE (As := ([.int (101)] : List Value)) (rest := ([] : List Value)) (v := .int (-100002)) C rfl (fc_outagex (aD_E hE) g sv σ τ I.1 ρ c9 (101) (by decide)) ml_L_148 im_X8_outage sel_X8_outage ini_X8 cd_X8_outage ok_X8_outage rfl ⟨by omega, by omega⟩ hR2 rfl (fun _ => rfl) (fun _ => rfl) (Nat.le_of_ble_eq_true rfl) ?_
  refine bv_blk C frk_L csk_L 1 454 rfl (L1 := ([(5, .int (nI t)), (0, .ref 400), (1, .ref 0), (2, .ref 182)] : Lc)) (st1 := ([.int (-100002), .int (-100002)] : List Value)) (w1 := (layZ g sv σ τ ρ c9 ev)) (by rfl) ?_
  refine bv_icmp_ne (j := 479) C rfl (by rw [pcL_479]; rfl) (fun h => absurd h (by decide)) (fun _ => ?_)
  refine bv_blk C frk_L csk_L 2 457 rfl (L1 := ([(5, .int (nI t)), (0, .ref 400), (1, .ref 0), (2, .ref 182)] : Lc)) (st1 := ([.int (0), .ref 0] : List Value)) (w1 := (layZ g sv σ τ ρ c9 ev)) (by rfl) ?_
  refine bv_cE (As := ([.int (0)] : List Value)) (rest := ([] : List Value)) (v := .int (-100002)) C rfl (fc_passx (aD_E hE) g sv σ τ I.1 ρ c9 (0) (by decide)) ml_L_59 im_X8_pass sel_X8_pass ini_X8 cd_X8_pass ok_X8_pass rfl ⟨by omega, by omega⟩ hR2 rfl (fun _ => rfl) (fun _ => rfl) (Nat.le_of_ble_eq_true rfl) ?_
  refine bv_blk C frk_L csk_L 1 459 rfl (L1 := ([(5, .int (nI t)), (0, .ref 400), (1, .ref 0), (2, .ref 182)] : Lc)) (st1 := ([.int (-100002), .int (-100002)] : List Value)) (w1 := (layZ g sv σ τ ρ c9 ev)) (by rfl) ?_
  refine bv_icmp_ne (j := 479) C rfl (by rw [pcL_479]; rfl) (fun h => absurd h (by decide)) (fun _ => ?_)
  refine bv_blk C frk_L csk_L 2 462 rfl (L1 := ([(5, .int (nI t)), (0, .ref 400), (1, .ref 0), (2, .ref 182)] : Lc)) (st1 := ([.int (2), .ref 0] : List Value)) (w1 := (layZ g sv σ τ ρ c9 ev)) (by rfl) ?_
  refine bv_cE (As := ([.int (2)] : List Value)) (rest := ([] : List Value)) (v := .int (-100001)) C rfl (fc_sweepx (aD_E hE) g sv σ τ I.1 ρ c9 (2) (by decide)) ml_L_56 im_X8_sweep sel_X8_sweep ini_X8 cd_X8_sweep ok_X8_sweep rfl ⟨by omega, by omega⟩ hR2 rfl (fun _ => rfl) (fun _ => rfl) (Nat.le_of_ble_eq_true rfl) ?_
  refine bv_blk C frk_L csk_L 1 464 rfl (L1 := ([(5, .int (nI t)), (0, .ref 400), (1, .ref 0), (2, .ref 182)] : Lc)) (st1 := ([.int (-100001), .int (-100001)] : List Value)) (w1 := (layZ g sv σ τ ρ c9 ev)) (by rfl) ?_
  refine bv_icmp_ne (j := 479) C rfl (by rw [pcL_479]; rfl) (fun h => absurd h (by decide)) (fun _ => ?_)
  refine bv_blk C frk_L csk_L 3 468 rfl (L1 := ([(5, .int (nI t)), (0, .ref 400), (1, .ref 0), (2, .ref 182)] : Lc)) (st1 := ([.int (-1), .int (0), .ref 0] : List Value)) (w1 := (layZ g sv σ τ ρ c9 ev)) (by rfl) ?_
  refine bv_cE (As := ([.int (0), .int (-1)] : List Value)) (rest := ([] : List Value)) (v := .int (-100002)) C rfl (sel_m (aD_E hE) I) ml_L_53 im_X8_select sel_X8_select ini_X8 cd_X8_select ok_X8_select rfl ⟨by omega, by omega⟩ hR2 rfl (fun _ => rfl) (fun _ => rfl) (Nat.le_of_ble_eq_true rfl) ?_
  refine bv_blk C frk_L csk_L 1 470 rfl (L1 := ([(5, .int (nI t)), (0, .ref 400), (1, .ref 0), (2, .ref 182)] : Lc)) (st1 := ([.int (-100002), .int (-100002)] : List Value)) (w1 := (layZ g sv σ τ ρ c9 ev)) (by rfl) ?_
  refine bv_icmp_ne (j := 479) C rfl (by rw [pcL_479]; rfl) (fun h => absurd h (by decide)) (fun _ => ?_)
  refine bv_blk C frk_L csk_L 3 474 rfl (L1 := ([(5, .int (nI t)), (0, .ref 400), (1, .ref 0), (2, .ref 182)] : Lc)) (st1 := ([.int (0), .int (3), .ref 0] : List Value)) (w1 := (layZ g sv σ τ ρ c9 ev)) (by rfl) ?_
  refine bv_cE (As := ([.int (3), .int (0)] : List Value)) (rest := ([] : List Value)) (v := .int (-100001)) C rfl (fc_backupBeamx (aD_E hE) g sv σ τ I.1 ρ c9 (3) (0) bh_3) ml_L_79 im_X8_backupBeam sel_X8_backupBeam ini_X8 cd_X8_backupBeam ok_X8_backupBeam rfl ⟨by omega, by omega⟩ hR2 rfl (fun _ => rfl) (fun _ => rfl) (Nat.le_of_ble_eq_true rfl) ?_
  refine bv_blk C frk_L csk_L 1 476 rfl (L1 := ([(5, .int (nI t)), (0, .ref 400), (1, .ref 0), (2, .ref 182)] : Lc)) (st1 := ([.int (-100001), .int (-100001)] : List Value)) (w1 := (layZ g sv σ τ ρ c9 ev)) (by rfl) ?_
  refine bv_icmp_ne (j := 479) C rfl (by rw [pcL_479]; rfl) (fun h => absurd h (by decide)) (fun _ => ?_)
  refine bv_blk C frk_L csk_L 1 478 rfl (L1 := ([(5, .int (nI t)), (0, .ref 400), (1, .ref 0), (2, .ref 182)] : Lc)) (st1 := ([.int (1)] : List Value)) (w1 := (layZ g sv σ τ ρ c9 ev)) (by rfl) ?_
  refine bv_goto (j := 480) C rfl (by rw [pcL_480]; rfl) ?_
  exact kR
set_option maxRecDepth 100000 in
set_option maxHeartbeats 8000000 in
theorem lt_loop (C : bC p s m args meth c D cA z0 SK SV A 21 RL code tb_L_law) (had : ad 400 = SK 0) (hR : 11 ≤ R.frames ∧ 442 ≤ R.locals) (hR2 : cells ≤ R.cells ∧ slots ≤ R.slots) (kR : ∀ (t : Nat) (g sv : Nat → Nat → Int32) (σ τ : Nat → Nat → Nat) (ρ : Nat → Nat) (c9 : Nat) (ev : Nat → Int32), bV p l e R s m args below meth c D cA shZ A 21 tb_L_law Q ad 183 cells slots (layZ g sv σ τ ρ c9 ev) 480 ([(5, .int (nI t)), (0, .ref 400), (1, .ref 0), (2, .ref 182)] : Lc) ([.int (1)] : List Value)) : ∀ (r t : Nat) (g sv : Nat → Nat → Int32) (σ τ : Nat → Nat → Nat) (ρ : Nat → Nat) (c9 : Nat) (ev : Nat → Int32), t + r = 12 → TI S g σ τ ρ c9 ev t → bV p l e R s m args below meth c D cA shZ A 21 tb_L_law Q ad 183 cells slots (layZ g sv σ τ ρ c9 ev) 99 ([(5, .int (nI t)), (0, .ref 400), (1, .ref 0), (2, .ref 182)] : Lc) ([] : List Value) := by
  intro r
  induction r with
  | zero =>
    intro t g sv σ τ ρ c9 ev ht hT
    refine bv_blk C frk_L csk_L 2 101 rfl (L1 := ([(5, .int (nI t)), (0, .ref 400), (1, .ref 0), (2, .ref 182)] : Lc)) (st1 := ([.int (12), .int (nI t)] : List Value)) (w1 := (layZ g sv σ τ ρ c9 ev)) (by rfl) ?_
    refine bv_icmp_ge (j := 450) C rfl (by rw [pcL_450]; rfl) (fun _ => ?_) (fun h => absurd (nI_le (a := 12) (b := t) (by omega) (by omega)) h)
    refine bv_sub [0, 1, 2, 3] (by rfl) ?_
    exact sg_F C had hR hR2 hT.1 t (kR _ _ _ _ _ _ _ _)
  | succ r ih =>
    intro t g sv σ τ ρ c9 ev ht hT
    refine bv_blk C frk_L csk_L 2 101 rfl (L1 := ([(5, .int (nI t)), (0, .ref 400), (1, .ref 0), (2, .ref 182)] : Lc)) (st1 := ([.int (12), .int (nI t)] : List Value)) (w1 := (layZ g sv σ τ ρ c9 ev)) (by rfl) ?_
    refine bv_icmp_ge (j := 450) C rfl (by rw [pcL_450]; rfl) (fun h => absurd h (nI_ge (a := t) (b := 12) (by omega) (by omega))) (fun _ => ?_)
    refine bv_sub [0, 1, 2, 3] (by rfl) ?_
    obtain ⟨I, he0, he1, hap, a, b, ha, hb, ha2, hb2⟩ := hT
    obtain ⟨n, hi⟩ := I.2.1
    have hbm := hi.2.2.2.2.2.2.2.1
    refine sg_A C had hR hR2 I he0 he1 t (by omega) (fun z kk v g1 sv1 σ1 τ1 ρ1 c1 hk16 hz hk12 _ a3 I1 => ?_) (fun z kk f v g1 sv1 σ1 τ1 ρ1 c1 hk16 hz hf2 hf tp hd I1 => ?_)
    · refine sg_W C had hR hR2 g1 sv1 σ1 τ1 ρ1 c1 I1 he0 he1 (apK_row hap (inv_bk hi) a3) t z kk v hk16 hz hk12 a3 ?_
      refine sg_O5 C had hR hR2 I1 t (fun g4 sv4 σ4 τ4 ρ4 c4 I4 e4 => ?_)
      have hTI : TI S g4 σ4 τ4 ρ4 c4 ev (t + 1) := by
        obtain ⟨n4, hi4⟩ := I1.2.1
        refine ⟨I4, he0, he1, apK_row (apK_row hap (inv_bk hi) a3) (inv_bk hi4) e4, ?_⟩
        exact ⟨a, b, (e4 3).trans ((a3 3).trans ha), (e4 4).trans ((a3 4).trans hb), by omega, by omega⟩
      refine bv_blk C frk_L csk_L 1 449 rfl (L1 := ([(5, .int ((nI t) + Int32.ofInt 1)), (0, .ref 400), (1, .ref 0), (2, .ref 182)] : Lc)) (st1 := ([] : List Value)) (w1 := (layZ g4 sv4 σ4 τ4 ρ4 c4 ev)) (by rfl) ?_
      rw [show ((nI t) + Int32.ofInt 1) = nI (t + 1) from (nIi rfl)]
      refine bv_goto (j := 99) C rfl (by rw [pcL_99]; rfl) ?_
      refine bv_sub [0, 1, 2, 3] (by rfl) ?_
      exact ih (t + 1) _ _ _ _ _ _ _ (by omega) hTI
    · refine sg_O1 C had hR hR2 g1 sv1 σ1 τ1 ρ1 c1 I1 hap t (by omega) z kk f v hk16 hz hd a b ha hb ha2 hb2 (fun ev1 h10 h11 hap1 h12 => ?_)
      have e0 : ev1 0 = nI (S 0) := h10.trans he0
      have e1 : ev1 1 = nI (S 1) := h11.trans he1
      have kz : bV p l e R s m args below meth c D cA shZ A 21 tb_L_law Q ad 183 cells slots (layZ g1 sv1 σ1 τ1 ρ1 c1 ev1) 264 ([(5, .int (nI t)), (6, .int z), (7, .long (dgR g)), (11, .int (g 1 18)), (12, .int (g 1 38)), (14, .int (0)), (15, .int (nI kk)), (0, .ref 400), (1, .ref 0), (2, .ref 182)] : Lc) ([] : List Value) → bV p l e R s m args below meth c D cA shZ A 21 tb_L_law Q ad 183 cells slots (layZ g1 sv1 σ1 τ1 ρ1 c1 ev1) 190 ([(5, .int (nI t)), (6, .int z), (7, .long (dgR g)), (11, .int (g 1 18)), (12, .int (g 1 38)), (13, .int v), (14, .int (0)), (15, .int (nI kk)), (0, .ref 400), (1, .ref 0), (2, .ref 182)] : Lc) ([] : List Value) := fun k3 => by
        rcases (show f = 0 ∨ f = 1 by omega) with rfl | rfl
        · exact sg_O2_0 C had hR hR2 I1 e0 e1 hap1 t z (dgR g) (g 1 18) (g 1 38) v kk hk16 hf hd.2.2.1 k3
        · exact sg_O2_1 C had hR hR2 I1 e0 e1 hap1 t z (dgR g) (g 1 18) (g 1 38) v kk hk16 hf hd.2.2.1 k3
      refine kz ?_
      refine sg_O3 C had hR hR2 I1 e0 e1 t z (dgR g) (g 1 18) (g 1 38) kk hk16 hbm.1 hbm.2 (fun hk => tk_9 (hd.2.2.2 hk)) ?_
      refine sg_O4 C had hR hR2 I1 t z (dgR g) (g 1 18) (g 1 38) kk hk16 hi rfl tp ?_ (fun g2 c2 ev2 I2 er h20 h21 h22 => ?_)
      · refine sg_O5 C had hR hR2 I1 t (fun g4 sv4 σ4 τ4 ρ4 c4 I4 e4 => ?_)
        have hTI : TI S g4 σ4 τ4 ρ4 c4 ev1 (t + 1) := by
          obtain ⟨n4, hi4⟩ := I1.2.1
          refine ⟨I4, e0, e1, apK_row hap1 (inv_bk hi4) e4, ?_⟩
          obtain ⟨P9, q, t9, q1, q2, q3, q4, q5, -⟩ := hd.1
          exact ⟨a + q, b + t9, (e4 3).trans (by rw [q4, ha, nI_add]), (e4 4).trans (by rw [q5, hb, nI_add]), by omega, by omega⟩
        refine bv_blk C frk_L csk_L 1 449 rfl (L1 := ([(5, .int ((nI t) + Int32.ofInt 1)), (0, .ref 400), (1, .ref 0), (2, .ref 182)] : Lc)) (st1 := ([] : List Value)) (w1 := (layZ g4 sv4 σ4 τ4 ρ4 c4 ev1)) (by rfl) ?_
        rw [show ((nI t) + Int32.ofInt 1) = nI (t + 1) from (nIi rfl)]
        refine bv_goto (j := 99) C rfl (by rw [pcL_99]; rfl) ?_
        refine bv_sub [0, 1, 2, 3] (by rfl) ?_
        exact ih (t + 1) _ _ _ _ _ _ _ (by omega) hTI
      · have hap2 : apK g2 (ev2 2) := by
          rcases h22 with ⟨-, z2⟩ | ⟨y1, y2, z2⟩
          · rw [z2]; exact apK_0 hap (fun k _ => er k)
          · rw [z2, h12 y1 y2]; exact apK_row hap (inv_bk hi) er
        refine sg_O5 C had hR hR2 I2 t (fun g4 sv4 σ4 τ4 ρ4 c4 I4 e4 => ?_)
        have hTI : TI S g4 σ4 τ4 ρ4 c4 ev2 (t + 1) := by
          obtain ⟨n4, hi4⟩ := I2.2.1
          refine ⟨I4, h20.trans e0, h21.trans e1, apK_row hap2 (inv_bk hi4) e4, ?_⟩
          exact ⟨a, b, (e4 3).trans ((er 3).trans ha), (e4 4).trans ((er 4).trans hb), by omega, by omega⟩
        refine bv_blk C frk_L csk_L 1 449 rfl (L1 := ([(5, .int ((nI t) + Int32.ofInt 1)), (0, .ref 400), (1, .ref 0), (2, .ref 182)] : Lc)) (st1 := ([] : List Value)) (w1 := (layZ g4 sv4 σ4 τ4 ρ4 c4 ev2)) (by rfl) ?_
        rw [show ((nI t) + Int32.ofInt 1) = nI (t + 1) from (nIi rfl)]
        refine bv_goto (j := 99) C rfl (by rw [pcL_99]; rfl) ?_
        refine bv_sub [0, 1, 2, 3] (by rfl) ?_
        exact ih (t + 1) _ _ _ _ _ _ _ (by omega) hTI
end LD9
