/-! THE LAW: undo, the look ahead -/
section LC9
variable {p : Program} {l : Launch} {e : Env} {R : Room} {s : State} {m : MethodId} {args : Array Value} {below : List Frame} {meth : Method} {c : Code} {D : va_G} {cA : FieldType → ClassId} {z0 : Nat} {SK : Nat → Nat} {SV : Nat → Int32} {A : Nat → Prop} {Q : State → Prop} {ad : Nat → Nat} {cells slots : Nat} {g sv : Nat → Nat → Int32} {σ τ : Nat → Nat → Nat} {ρ : Nat → Nat} {c9 : Nat} {ev : Nat → Int32} {S : Nat → Nat}
/-- what an interval may have done to the beams u and y -/
def tkG9 (S : Nat → Nat) (g : Nat → Nat → Int32) (u y : Int32) : Prop := (∃ kd vv, (kd = 1 ∨ kd = 3 ∨ kd = 5) ∧ lsE g kd vv (g 1 2)) ∨ ((g 1 18 = u ∨ ∃ d : Int32, (d = -1 ∨ d = 1) ∧ g 1 18 = nbrI (nI (S 0)) u d) ∧ (g 1 38 = y ∨ ∃ d : Int32, (d = -1 ∨ d = 1) ∧ g 1 38 = nbrI (nI (S 1)) y d))
theorem tk_9 {g1 : Nat → Nat → Int32} (h : tkF S g g1) : tkG9 S g1 (g 1 18) (g 1 38) := by
  rcases h with h | h
  · exact Or.inl h
  · exact Or.inr ⟨h 0 (by omega), h 1 (by omega)⟩
theorem ls_oth {kd vv : Int32} (hk : kd = 1 ∨ kd = 3 ∨ kd = 5) (h : lsE g kd vv (g 1 2)) : oth g := by
  obtain ⟨E, h1, h2, h3, -, h5⟩ := h
  refine ⟨E, h1, h2, h5, ?_, ?_⟩
  · rw [h3]; rcases hk with rfl | rfl | rfl <;> decide
  · rw [h3]; rcases hk with rfl | rfl | rfl <;> decide
set_option maxRecDepth 100000 in
set_option maxHeartbeats 8000000 in
theorem sg_O3 (C : bC p s m args meth c D cA z0 SK SV A 21 RL code tb_L_law) (had : ad 400 = SK 0) (hR : 11 ≤ R.frames ∧ 442 ≤ R.locals) (hR2 : cells ≤ R.cells ∧ slots ≤ R.slots) (I : SJ S g σ τ ρ c9) (he0 : ev 0 = nI (S 0)) (he1 : ev 1 = nI (S 1)) (t : Nat) (z : Int32) (was : Int64) (u y : Int32) (kk : Nat) (hk16 : kk < 16) (hu : u = -100000 ∨ bmK (S 0) u) (hy : y = -100000 ∨ bmK (S 1) y) (htk : 12 < kk → tkG9 S g u y) (k4x : bV p l e R s m args below meth c D cA shZ A 21 tb_L_law Q ad 183 cells slots (layZ g sv σ τ ρ c9 ev) 339 ([(5, .int (nI t)), (6, .int z), (7, .long was), (11, .int u), (12, .int y), (14, .int (0)), (15, .int (nI kk)), (0, .ref 400), (1, .ref 0), (2, .ref 182)] : Lc) ([] : List Value)) : bV p l e R s m args below meth c D cA shZ A 21 tb_L_law Q ad 183 cells slots (layZ g sv σ τ ρ c9 ev) 264 ([(5, .int (nI t)), (6, .int z), (7, .long was), (11, .int u), (12, .int y), (14, .int (0)), (15, .int (nI kk)), (0, .ref 400), (1, .ref 0), (2, .ref 182)] : Lc) ([] : List Value) := by
  refine bv_hE C (fun hE => ?_)
  obtain ⟨n, hi⟩ := I.2.1
  obtain ⟨k1, k2, k3, k4, k5, k6⟩ := inv_sec hi
  obtain ⟨E, hEv, hE2⟩ := inv_ev hi
  refine bv_blk C frk_L csk_L 1 265 rfl (L1 := ([(5, .int (nI t)), (6, .int z), (7, .long was), (11, .int u), (12, .int y), (14, .int (0)), (15, .int (nI kk)), (0, .ref 400), (1, .ref 0), (2, .ref 182)] : Lc)) (st1 := ([.int (0)] : List Value)) (w1 := (layZ g sv σ τ ρ c9 ev)) (by rfl) ?_
  refine bv_if_ne (j := 339) C rfl (by rw [pcL_339]; rfl) (fun h => absurd h (by decide)) (fun _ => ?_)
  refine bv_blk C frk_L csk_L 2 268 rfl (L1 := ([(5, .int (nI t)), (6, .int z), (7, .long was), (11, .int u), (12, .int y), (14, .int (0)), (15, .int (nI kk)), (0, .ref 400), (1, .ref 0), (2, .ref 182)] : Lc)) (st1 := ([.int (12), .int (nI kk)] : List Value)) (w1 := (layZ g sv σ τ ρ c9 ev)) (by rfl) ?_
  by_cases ck : 12 < kk
  · refine bv_icmp_le (j := 339) C rfl (by rw [pcL_339]; rfl) (fun h => absurd h (nI_ge (a := 12) (b := kk) (by omega) (by omega))) (fun _ => ?_)
    refine bv_blk C frk_L csk_L 1 270 rfl (L1 := ([(5, .int (nI t)), (6, .int z), (7, .long was), (11, .int u), (12, .int y), (14, .int (0)), (15, .int (nI kk)), (0, .ref 400), (1, .ref 0), (2, .ref 182)] : Lc)) (st1 := ([.ref 0] : List Value)) (w1 := (layZ g sv σ τ ρ c9 ev)) (by rfl) ?_
    refine bv_callSi (As := ([.ref 0] : List Value)) (rest := ([] : List Value)) C rfl (lx_hasOther hE g sv σ τ ρ c9 ev I.1 E hEv hE2) ml_L_137 st_L_hasOther ini_L cd_L_hasOther ok_L_hasOther rfl ⟨by omega, by omega⟩ hR2 rfl (Nat.le_of_ble_eq_true rfl) (fun r9 w9 h9 => ?_)
    obtain ⟨⟨bo, hbo, hob, rfl⟩, rfl⟩ := h9
    rcases hbo with rfl | rfl
    · refine bv_if_ne (j := 339) C rfl (by rw [pcL_339]; rfl) (fun h => absurd h (by decide)) (fun _ => ?_)
      refine bv_blk C frk_L csk_L 2 274 rfl (L1 := ([(16, .int (0)), (5, .int (nI t)), (6, .int z), (7, .long was), (11, .int u), (12, .int y), (14, .int (0)), (15, .int (nI kk)), (0, .ref 400), (1, .ref 0), (2, .ref 182)] : Lc)) (st1 := ([] : List Value)) (w1 := (layZ g sv σ τ ρ c9 ev)) (by rfl) ?_
      rcases htk ck with ⟨kd, vv, q1, q2⟩ | ⟨q1, q2⟩
      · exact absurd (hob (ls_oth q1 q2)) (by decide)
      refine bv_sub [0, 1, 2, 3, 4, 5, 6, 7, 8, 9, 10] (by rfl) ?_
      refine sg_T0 C had hR hR2 I he0 k3 k4 t z was u y kk (fun cn => td_of he0 k3 k4 (hu.resolve_left cn) q1) (sg_T1 C had hR hR2 I he1 k5 k6 t z was u y kk (fun cn => td_of he1 k5 k6 (hy.resolve_left cn) q2) ?_)
      refine bv_blk C frk_L csk_L 2 276 rfl (L1 := ([(16, .int (2)), (5, .int (nI t)), (6, .int z), (7, .long was), (11, .int u), (12, .int y), (14, .int (0)), (15, .int (nI kk)), (0, .ref 400), (1, .ref 0), (2, .ref 182)] : Lc)) (st1 := ([.int (2), .int (2)] : List Value)) (w1 := (layZ g sv σ τ ρ c9 ev)) (by rfl) ?_
      refine bv_icmp_ge (j := 339) C rfl (by rw [pcL_339]; rfl) (fun _ => ?_) (fun h => absurd h (by decide))
      refine bv_sub [1, 2, 3, 4, 5, 6, 7, 8, 9, 10] (by rfl) ?_
      exact k4x
    · refine bv_if_ne (j := 339) C rfl (by rw [pcL_339]; rfl) (fun _ => ?_) (fun h => absurd h (by decide))
      refine bv_sub [0, 1, 2, 3, 4, 5, 6, 7, 8, 9] (by rfl) ?_
      exact k4x
  · refine bv_icmp_le (j := 339) C rfl (by rw [pcL_339]; rfl) (fun _ => ?_) (fun h => absurd (nI_le (a := kk) (b := 12) (by omega) (by omega)) h)
    refine bv_sub [0, 1, 2, 3, 4, 5, 6, 7, 8, 9] (by rfl) ?_
    exact k4x
theorem bo_row {f : Nat → Int32} (h : bo3 (g 1)) (e : ∀ k, f k = g 1 k) : bo3 f := fun k hk => by
  rw [e k]
  exact h k hk
theorem rN_at {f : Nat → Int32} {k : Nat} : rN f g 1 k = f k := if_pos rfl
/-- what undo brings back -/
theorem tp_undo {mm : Nat} {Rw : Nat → Nat → Int32} {s9 : Nat → Nat → Int32} {k9 : Nat} (h : tpS (mm + 1) Rw s9 ρ c9) (hk : c9 = k9 + 1) : (∀ k, s9 (2 + ρ k9) k = Rw mm k) ∧ tpS mm Rw s9 ρ k9 := by
  subst hk
  refine ⟨fun k => ?_, fun i hi => ?_⟩
  · have z := (h 0 (by omega)).2 k
    rw [show k9 + 1 - 1 - 0 = k9 by omega, show mm + 1 - 1 - 0 = mm by omega] at z
    exact z
  · have z := h (i + 1) (by omega)
    refine ⟨by omega, fun k => ?_⟩
    have y := z.2 k
    rw [show k9 + 1 - 1 - (i + 1) = k9 - 1 - i by omega, show mm + 1 - 1 - (i + 1) = mm - 1 - i by omega] at y
    exact y
theorem sj_undo {g0 : Nat → Nat → Int32} {f : Nat → Int32} {k9 n : Nat} (I : SJ S g σ τ ρ c9) (hi : invK g0 n S) (e : ∀ k, f k = g0 1 k) (hk : c9 = k9 + 1) : SJ S (rN f g) σ τ ρ k9 := by
  obtain ⟨i1, -, i3, i4, i5⟩ := I
  exact ⟨i1, ⟨n, inv_le hi fun k _ => rN_at.trans (e k)⟩, by omega, i4, i5⟩
set_option maxRecDepth 100000 in
set_option maxHeartbeats 8000000 in
theorem sg_O4 (C : bC p s m args meth c D cA z0 SK SV A 21 RL code tb_L_law) (had : ad 400 = SK 0) (hR : 11 ≤ R.frames ∧ 442 ≤ R.locals) (hR2 : cells ≤ R.cells ∧ slots ≤ R.slots) (I : SJ S g σ τ ρ c9) (t : Nat) (z : Int32) (was : Int64) (u y : Int32) (kk : Nat) (hk16 : kk < 16) {g0 : Nat → Nat → Int32} {n0 : Nat} (hi0 : invK g0 n0 S) (hwas : dgR g0 = was) (tp : tpS 1 (fun _ => g0 1) sv ρ c9) (kN : bV p l e R s m args below meth c D cA shZ A 21 tb_L_law Q ad 183 cells slots (layZ g sv σ τ ρ c9 ev) 372 ([(5, .int (nI t)), (0, .ref 400), (1, .ref 0), (2, .ref 182)] : Lc) ([] : List Value)) (kU : ∀ (g2 : Nat → Nat → Int32) (c2 : Nat) (ev' : Nat → Int32), SJ S g2 σ τ ρ c2 → (∀ k, g2 1 k = g0 1 k) → ev' 0 = ev 0 → ev' 1 = ev 1 → ((kk = 10 ∨ kk = 0) ∧ ev' 2 = 0 ∨ (kk ≠ 10 ∧ kk ≠ 0 ∧ ev' 2 = ev 2)) → bV p l e R s m args below meth c D cA shZ A 21 tb_L_law Q ad 183 cells slots (layZ g2 sv σ τ ρ c2 ev') 372 ([(5, .int (nI t)), (0, .ref 400), (1, .ref 0), (2, .ref 182)] : Lc) ([] : List Value)) : bV p l e R s m args below meth c D cA shZ A 21 tb_L_law Q ad 183 cells slots (layZ g sv σ τ ρ c9 ev) 339 ([(5, .int (nI t)), (6, .int z), (7, .long was), (11, .int u), (12, .int y), (14, .int (0)), (15, .int (nI kk)), (0, .ref 400), (1, .ref 0), (2, .ref 182)] : Lc) ([] : List Value) := by
  refine bv_hE C (fun hE => ?_)
  have hc6 := I.2.2.1
  obtain ⟨k9, hk9⟩ : ∃ k9, c9 = k9 + 1 := ⟨c9 - 1, by have := (tp 0 (by omega)).1; omega⟩
  have hrow : ∀ k, sv (2 + ρ k9) k = g0 1 k := (tp_undo tp hk9).1
  have I2 : SJ S (rN (sv (2 + ρ k9)) g) σ τ ρ k9 := sj_undo I hi0 hrow hk9
  have dq : dgR (rN (sv (2 + ρ k9)) g) = was := (dgR_row fun k => rN_at.trans (hrow k)).trans hwas
  refine bv_blk C frk_L csk_L 1 340 rfl (L1 := ([(5, .int (nI t)), (6, .int z), (7, .long was), (11, .int u), (12, .int y), (14, .int (0)), (15, .int (nI kk)), (0, .ref 400), (1, .ref 0), (2, .ref 182)] : Lc)) (st1 := ([.int (0)] : List Value)) (w1 := (layZ g sv σ τ ρ c9 ev)) (by rfl) ?_
  refine bv_if_ne (j := 372) C rfl (by rw [pcL_372]; rfl) (fun h => absurd h (by decide)) (fun _ => ?_)
  refine bv_blk C frk_L csk_L 5 346 rfl (L1 := ([(5, .int (nI t)), (6, .int z), (7, .long was), (11, .int u), (12, .int y), (14, .int (0)), (15, .int (nI kk)), (0, .ref 400), (1, .ref 0), (2, .ref 182)] : Lc)) (st1 := ([.int ((z >>> ((29) &&& 31)) &&& (1))] : List Value)) (w1 := (layZ g sv σ τ ρ c9 ev)) (by rfl) ?_
  refine bv_if_ne (j := 372) C rfl (by rw [pcL_372]; rfl) (fun c2 => ?_) (fun c2 => ?_)
  · refine bv_sub [0, 7, 8, 9] (by rfl) ?_
    exact kN
  · refine bv_blk C frk_L csk_L 2 349 rfl (L1 := ([(5, .int (nI t)), (6, .int z), (7, .long was), (11, .int u), (12, .int y), (14, .int (0)), (15, .int (nI kk)), (0, .ref 400), (1, .ref 0), (2, .ref 182)] : Lc)) (st1 := ([.int (2), .ref 182] : List Value)) (w1 := (layZ g sv σ τ ρ c9 ev)) (by rfl) ?_
    refine bv_iald C rfl rfl (by decide) (j := 2) (by exact rfl) (by first | decide | omega) (by decide) (y := (ev 2)) (by rfl) ?_
    refine bv_blk C frk_L csk_L 2 352 rfl (L1 := ([(16, .int (ev 2)), (5, .int (nI t)), (6, .int z), (7, .long was), (11, .int u), (12, .int y), (14, .int (0)), (15, .int (nI kk)), (0, .ref 400), (1, .ref 0), (2, .ref 182)] : Lc)) (st1 := ([.ref 0] : List Value)) (w1 := (layZ g sv σ τ ρ c9 ev)) (by rfl) ?_
    refine bv_cE (As := ([] : List Value)) (rest := ([] : List Value)) (v := .int (nI k9)) C rfl (fc_undo1 (aD_E hE) g sv σ τ I.1 ρ c9 k9 hk9 (by omega) I.2.2.2.1 (bo_row (inv_bo hi0) hrow)) ml_L_145 im_X8_undo sel_X8_undo ini_X8 cd_X8_undo ok_X8_undo rfl ⟨by omega, by omega⟩ hR2 rfl (fun _ => rfl) (fun _ => rfl) (Nat.le_of_ble_eq_true rfl) ?_
    refine bv_if_lt (j := 359) C rfl (by rw [pcL_359]; rfl) (fun h => absurd h (nI_nlt (a := k9) (b := 0) (by omega) (by omega))) (fun _ => ?_)
    refine bv_blk C frk_L csk_L 1 355 rfl (L1 := ([(16, .int (ev 2)), (5, .int (nI t)), (6, .int z), (7, .long was), (11, .int u), (12, .int y), (14, .int (0)), (15, .int (nI kk)), (0, .ref 400), (1, .ref 0), (2, .ref 182)] : Lc)) (st1 := ([.ref 0] : List Value)) (w1 := (layZ (rN (sv (2 + ρ k9)) g) sv σ τ ρ k9 ev)) (by rfl) ?_
    refine bv_cE (As := ([] : List Value)) (rest := ([] : List Value)) (v := .long (dgR (rN (sv (2 + ρ k9)) g))) C rfl (jd_digest (aD_E hE) I2) ml_L_109 im_X8_digest sel_X8_digest ini_X8 cd_X8_digest ok_X8_digest rfl ⟨by omega, by omega⟩ hR2 rfl (fun _ => rfl) (fun _ => rfl) (Nat.le_of_ble_eq_true rfl) ?_
    refine bv_blk C frk_L csk_L 2 358 rfl (L1 := ([(16, .int (ev 2)), (5, .int (nI t)), (6, .int z), (7, .long was), (11, .int u), (12, .int y), (14, .int (0)), (15, .int (nI kk)), (0, .ref 400), (1, .ref 0), (2, .ref 182)] : Lc)) (st1 := ([.int (lg_cmp (dgR (rN (sv (2 + ρ k9)) g)) was)] : List Value)) (w1 := (layZ (rN (sv (2 + ρ k9)) g) sv σ τ ρ k9 ev)) (by rfl) ?_
    refine bv_if_eq (j := 361) C rfl (by rw [pcL_361]; rfl) (fun _ => ?_) (fun h => absurd (by rw [dq]; exact lg_eq _) h)
    refine bv_blk C frk_L csk_L 4 365 rfl (L1 := ([(16, .int (ev 2)), (5, .int (nI t)), (6, .int z), (7, .long was), (11, .int u), (12, .int y), (14, .int (0)), (15, .int (nI kk)), (0, .ref 400), (1, .ref 0), (2, .ref 182)] : Lc)) (st1 := ([.int (10), .int (nI kk), .int (2), .ref 182] : List Value)) (w1 := (layZ (rN (sv (2 + ρ k9)) g) sv σ τ ρ k9 ev)) (by rfl) ?_
    by_cases ck10 : kk = 10
    · refine bv_icmp_eq (j := 368) C rfl (by rw [pcL_368]; rfl) (fun _ => ?_) (fun h => absurd ((congrArg nI ck10 : nI kk = nI 10)) h)
      refine bv_blk C frk_L csk_L 1 369 rfl (L1 := ([(16, .int (ev 2)), (5, .int (nI t)), (6, .int z), (7, .long was), (11, .int u), (12, .int y), (14, .int (0)), (15, .int (nI kk)), (0, .ref 400), (1, .ref 0), (2, .ref 182)] : Lc)) (st1 := ([.int (0), .int (2), .ref 182] : List Value)) (w1 := (layZ (rN (sv (2 + ρ k9)) g) sv σ τ ρ k9 ev)) (by rfl) ?_
      refine bv_goto (j := 371) C rfl (by rw [pcL_371]; rfl) ?_
      refine bv_iast C rfl rfl (by decide) (j := 2) (by exact rfl) (by first | decide | omega) (by decide) ?_
      rw [le_up]
      refine bv_sub [1, 8, 9, 10] (by rfl) ?_
      exact kU _ _ (upd ev 2 (0)) I2 (fun k => rN_at.trans (hrow k)) rfl rfl (Or.inl ⟨Or.inl ck10, rfl⟩)
    · refine bv_icmp_eq (j := 368) C rfl (by rw [pcL_368]; rfl) (fun h => absurd h (fun z => ck10 (nIij (b := 10) (by omega) (by omega) z))) (fun _ => ?_)
      refine bv_blk C frk_L csk_L 1 367 rfl (L1 := ([(16, .int (ev 2)), (5, .int (nI t)), (6, .int z), (7, .long was), (11, .int u), (12, .int y), (14, .int (0)), (15, .int (nI kk)), (0, .ref 400), (1, .ref 0), (2, .ref 182)] : Lc)) (st1 := ([.int (nI kk), .int (2), .ref 182] : List Value)) (w1 := (layZ (rN (sv (2 + ρ k9)) g) sv σ τ ρ k9 ev)) (by rfl) ?_
      by_cases ck0 : kk = 0
      · refine bv_if_ne (j := 370) C rfl (by rw [pcL_370]; rfl) (fun h => absurd ((congrArg nI ck0 : nI kk = nI 0)) h) (fun _ => ?_)
        refine bv_blk C frk_L csk_L 1 369 rfl (L1 := ([(16, .int (ev 2)), (5, .int (nI t)), (6, .int z), (7, .long was), (11, .int u), (12, .int y), (14, .int (0)), (15, .int (nI kk)), (0, .ref 400), (1, .ref 0), (2, .ref 182)] : Lc)) (st1 := ([.int (0), .int (2), .ref 182] : List Value)) (w1 := (layZ (rN (sv (2 + ρ k9)) g) sv σ τ ρ k9 ev)) (by rfl) ?_
        refine bv_goto (j := 371) C rfl (by rw [pcL_371]; rfl) ?_
        refine bv_iast C rfl rfl (by decide) (j := 2) (by exact rfl) (by first | decide | omega) (by decide) ?_
        rw [le_up]
        refine bv_sub [1, 8, 9, 10] (by rfl) ?_
        exact kU _ _ (upd ev 2 (0)) I2 (fun k => rN_at.trans (hrow k)) rfl rfl (Or.inl ⟨Or.inr ck0, rfl⟩)
      · refine bv_if_ne (j := 370) C rfl (by rw [pcL_370]; rfl) (fun _ => ?_) (fun h => absurd h (fun z => ck0 (nIij (b := 0) (by omega) (by omega) z)))
        refine bv_blk C frk_L csk_L 1 371 rfl (L1 := ([(16, .int (ev 2)), (5, .int (nI t)), (6, .int z), (7, .long was), (11, .int u), (12, .int y), (14, .int (0)), (15, .int (nI kk)), (0, .ref 400), (1, .ref 0), (2, .ref 182)] : Lc)) (st1 := ([.int (ev 2), .int (2), .ref 182] : List Value)) (w1 := (layZ (rN (sv (2 + ρ k9)) g) sv σ τ ρ k9 ev)) (by rfl) ?_
        refine bv_iast C rfl rfl (by decide) (j := 2) (by exact rfl) (by first | decide | omega) (by decide) ?_
        rw [le_up]
        refine bv_sub [1, 8, 9, 10] (by rfl) ?_
        exact kU _ _ (upd ev 2 (ev 2)) I2 (fun k => rN_at.trans (hrow k)) rfl rfl (Or.inr ⟨ck10, ck0, rfl⟩)
set_option maxRecDepth 100000 in
set_option maxHeartbeats 8000000 in
theorem sg_P (C : bC p s m args meth c D cA z0 SK SV A 21 RL code tb_L_law) (had : ad 400 = SK 0) (hR : 11 ≤ R.frames ∧ 442 ≤ R.locals) (hR2 : cells ≤ R.cells ∧ slots ≤ R.slots) (I : SJ S g σ τ ρ c9) {n : Nat} (hi : invK g n S) (t : Nat) (was : Int64) (hw : dgR g = was) (u : Nat) (hu4 : u ≤ 4) (due : Int32) (hP : ∀ k, 1 ≤ k → k ≤ u → (nI k = due → btI (pasN n S g k 1 0) = 0) ∧ (¬ nI k = due → btI (pasN n S g k 1 0) = 1)) (k6 : ∀ (g2 sv2 : Nat → Nat → Int32) (σ2 τ2 : Nat → Nat → Nat) (ρ2 : Nat → Nat) (c2 : Nat), SJ S g2 σ2 τ2 ρ2 c2 → (∀ k, g2 1 k = g 1 k) → bV p l e R s m args below meth c D cA shZ A 21 tb_L_law Q ad 183 cells slots (layZ g2 sv2 σ2 τ2 ρ2 c2 ev) 448 ([(5, .int (nI t)), (0, .ref 400), (1, .ref 0), (2, .ref 182)] : Lc) ([] : List Value)) : bV p l e R s m args below meth c D cA shZ A 21 tb_L_law Q ad 183 cells slots (layZ g sv σ τ ρ c9 ev) 412 ([(16, .long was), (18, .int due), (19, .int (nI u)), (5, .int (nI t)), (0, .ref 400), (1, .ref 0), (2, .ref 182)] : Lc) ([] : List Value) := by
  refine bv_hE C (fun hE => ?_)
  refine bv_blk C frk_L csk_L 2 414 rfl (L1 := ([(20, .int (1)), (16, .long was), (18, .int due), (19, .int (nI u)), (5, .int (nI t)), (0, .ref 400), (1, .ref 0), (2, .ref 182)] : Lc)) (st1 := ([] : List Value)) (w1 := (layZ g sv σ τ ρ c9 ev)) (by rfl) ?_
  have lu : ∀ (r i : Nat) (g2 s2 : Nat → Nat → Int32) (ρ2 : Nat → Nat) (c2 : Nat), i + r = u → SJ S g2 σ τ ρ2 c2 → (∀ k, g2 1 k = pasN n S g r 1 k) → tpS r (fun i => pasN n S g i 1) s2 ρ2 c2 → bV p l e R s m args below meth c D cA shZ A 21 tb_L_law Q ad 183 cells slots (layZ g2 s2 σ τ ρ2 c2 ev) 433 ([(20, .int (nI i)), (16, .long was), (18, .int due), (19, .int (nI u)), (5, .int (nI t)), (0, .ref 400), (1, .ref 0), (2, .ref 182)] : Lc) ([] : List Value) := by
    intro r
    induction r with
    | zero =>
      intro i g2 s2 ρ2 c2 hiu I2 h1 h2
      have dq : dgR g2 = was := (dgR_row h1).trans hw
      refine bv_blk C frk_L csk_L 2 435 rfl (L1 := ([(20, .int (nI i)), (16, .long was), (18, .int due), (19, .int (nI u)), (5, .int (nI t)), (0, .ref 400), (1, .ref 0), (2, .ref 182)] : Lc)) (st1 := ([.int (nI u), .int (nI i)] : List Value)) (w1 := (layZ g2 s2 σ τ ρ2 c2 ev)) (by rfl) ?_
      refine bv_icmp_ge (j := 441) C rfl (by rw [pcL_441]; rfl) (fun _ => ?_) (fun h => absurd (nI_le (a := u) (b := i) (by omega) (by omega)) h)
      refine bv_blk C frk_L csk_L 1 442 rfl (L1 := ([(20, .int (nI i)), (16, .long was), (18, .int due), (19, .int (nI u)), (5, .int (nI t)), (0, .ref 400), (1, .ref 0), (2, .ref 182)] : Lc)) (st1 := ([.ref 0] : List Value)) (w1 := (layZ g2 s2 σ τ ρ2 c2 ev)) (by rfl) ?_
      refine bv_cE (As := ([] : List Value)) (rest := ([] : List Value)) (v := .long (dgR g2)) C rfl (jd_digest (aD_E hE) I2) ml_L_109 im_X8_digest sel_X8_digest ini_X8 cd_X8_digest ok_X8_digest rfl ⟨by omega, by omega⟩ hR2 rfl (fun _ => rfl) (fun _ => rfl) (Nat.le_of_ble_eq_true rfl) ?_
      refine bv_blk C frk_L csk_L 2 445 rfl (L1 := ([(20, .int (nI i)), (16, .long was), (18, .int due), (19, .int (nI u)), (5, .int (nI t)), (0, .ref 400), (1, .ref 0), (2, .ref 182)] : Lc)) (st1 := ([.int (lg_cmp (dgR g2) was)] : List Value)) (w1 := (layZ g2 s2 σ τ ρ2 c2 ev)) (by rfl) ?_
      refine bv_if_eq (j := 448) C rfl (by rw [pcL_448]; rfl) (fun _ => ?_) (fun h => absurd (by rw [dq]; exact lg_eq _) h)
      refine bv_sub [4, 5, 6, 7] (by rfl) ?_
      exact k6 g2 s2 σ τ ρ2 c2 I2 h1
    | succ r ih =>
      intro i g2 s2 ρ2 c2 hiu I2 h1 h2
      have hc6 := I2.2.2.1
      obtain ⟨k9, hk9⟩ : ∃ k9, c2 = k9 + 1 := ⟨c2 - 1, by have := (h2 0 (by omega)).1; omega⟩
      obtain ⟨hrow, h3⟩ := tp_undo h2 hk9
      have I3 : SJ S (rN (s2 (2 + ρ2 k9)) g2) σ τ ρ2 k9 := sj_undo I2 (inv_pasN hi r) hrow hk9
      refine bv_blk C frk_L csk_L 2 435 rfl (L1 := ([(20, .int (nI i)), (16, .long was), (18, .int due), (19, .int (nI u)), (5, .int (nI t)), (0, .ref 400), (1, .ref 0), (2, .ref 182)] : Lc)) (st1 := ([.int (nI u), .int (nI i)] : List Value)) (w1 := (layZ g2 s2 σ τ ρ2 c2 ev)) (by rfl) ?_
      refine bv_icmp_ge (j := 441) C rfl (by rw [pcL_441]; rfl) (fun h => absurd h (nI_ge (a := i) (b := u) (by omega) (by omega))) (fun _ => ?_)
      refine bv_blk C frk_L csk_L 1 437 rfl (L1 := ([(20, .int (nI i)), (16, .long was), (18, .int due), (19, .int (nI u)), (5, .int (nI t)), (0, .ref 400), (1, .ref 0), (2, .ref 182)] : Lc)) (st1 := ([.ref 0] : List Value)) (w1 := (layZ g2 s2 σ τ ρ2 c2 ev)) (by rfl) ?_
      refine bv_cE (As := ([] : List Value)) (rest := ([] : List Value)) (v := .int (nI k9)) C rfl (fc_undo1 (aD_E hE) g2 s2 σ τ I2.1 ρ2 c2 k9 hk9 (by omega) I2.2.2.2.1 (bo_row (inv_bo (inv_pasN hi r)) hrow)) ml_L_145 im_X8_undo sel_X8_undo ini_X8 cd_X8_undo ok_X8_undo rfl ⟨by omega, by omega⟩ hR2 rfl (fun _ => rfl) (fun _ => rfl) (Nat.le_of_ble_eq_true rfl) ?_
      refine bv_blk C frk_L csk_L 2 440 rfl (L1 := ([(20, .int ((nI i) + Int32.ofInt 1)), (16, .long was), (18, .int due), (19, .int (nI u)), (5, .int (nI t)), (0, .ref 400), (1, .ref 0), (2, .ref 182)] : Lc)) (st1 := ([] : List Value)) (w1 := (layZ (rN (s2 (2 + ρ2 k9)) g2) s2 σ τ ρ2 k9 ev)) (by rfl) ?_
      rw [show ((nI i) + Int32.ofInt 1) = nI (i + 1) from (nIi rfl)]
      refine bv_goto (j := 433) C rfl (by rw [pcL_433]; rfl) ?_
      refine bv_sub [0, 1, 2, 3, 4, 5, 6, 7] (by rfl) ?_
      exact ih (i + 1) _ _ _ _ (by omega) I3 (fun k => rN_at.trans (hrow k)) h3
  have lp : ∀ (r j : Nat) (s2 : Nat → Nat → Int32) (ρ2 : Nat → Nat) (c2 : Nat), j + r = u → SJ S (pasN n S g j) σ τ ρ2 c2 → tpS j (fun i => pasN n S g i 1) s2 ρ2 c2 → bV p l e R s m args below meth c D cA shZ A 21 tb_L_law Q ad 183 cells slots (layZ (pasN n S g j) s2 σ τ ρ2 c2 ev) 414 ([(20, .int (nI (j + 1))), (16, .long was), (18, .int due), (19, .int (nI u)), (5, .int (nI t)), (0, .ref 400), (1, .ref 0), (2, .ref 182)] : Lc) ([] : List Value) := by
    intro r
    induction r with
    | zero =>
      intro j s2 ρ2 c2 hju I2 h2
      refine bv_blk C frk_L csk_L 2 416 rfl (L1 := ([(20, .int (nI (j + 1))), (16, .long was), (18, .int due), (19, .int (nI u)), (5, .int (nI t)), (0, .ref 400), (1, .ref 0), (2, .ref 182)] : Lc)) (st1 := ([.int (nI u), .int (nI (j + 1))] : List Value)) (w1 := (layZ (pasN n S g j) s2 σ τ ρ2 c2 ev)) (by rfl) ?_
      refine bv_icmp_gt (j := 431) C rfl (by rw [pcL_431]; rfl) (fun _ => ?_) (fun h => absurd (nI_lt (a := u) (b := (j + 1)) (by omega) (by omega)) h)
      refine bv_blk C frk_L csk_L 2 433 rfl (L1 := ([(20, .int (0)), (16, .long was), (18, .int due), (19, .int (nI u)), (5, .int (nI t)), (0, .ref 400), (1, .ref 0), (2, .ref 182)] : Lc)) (st1 := ([] : List Value)) (w1 := (layZ (pasN n S g j) s2 σ τ ρ2 c2 ev)) (by rfl) ?_
      refine bv_sub [0, 1, 2, 3, 4, 5, 6, 7] (by rfl) ?_
      exact lu u 0 _ s2 ρ2 c2 (by omega) I2 (fun k => by rw [show j = u by omega]) (by rw [show j = u by omega] at h2; exact h2)
    | succ r ih =>
      intro j s2 ρ2 c2 hju I2 h2
      refine bv_blk C frk_L csk_L 2 416 rfl (L1 := ([(20, .int (nI (j + 1))), (16, .long was), (18, .int due), (19, .int (nI u)), (5, .int (nI t)), (0, .ref 400), (1, .ref 0), (2, .ref 182)] : Lc)) (st1 := ([.int (nI u), .int (nI (j + 1))] : List Value)) (w1 := (layZ (pasN n S g j) s2 σ τ ρ2 c2 ev)) (by rfl) ?_
      refine bv_icmp_gt (j := 431) C rfl (by rw [pcL_431]; rfl) (fun h => absurd h (nI_nlt (a := u) (b := (j + 1)) (by omega) (by omega))) (fun _ => ?_)
      refine bv_blk C frk_L csk_L 2 419 rfl (L1 := ([(20, .int (nI (j + 1))), (16, .long was), (18, .int due), (19, .int (nI u)), (5, .int (nI t)), (0, .ref 400), (1, .ref 0), (2, .ref 182)] : Lc)) (st1 := ([.int (1), .ref 0] : List Value)) (w1 := (layZ (pasN n S g j) s2 σ τ ρ2 c2 ev)) (by rfl) ?_
      refine bv_cE (As := ([.int (nI 1)] : List Value)) (rest := ([] : List Value)) (v := .int (btI (pasN n S g (j + 1) 1 0))) C rfl (fc_pass (aD_E hE) (pasN n S g j) s2 σ τ I2.1 ρ2 c2 n S 1 I2.bo I2.2.2.2.1 I2.2.2.1 (inv_pasN hi j) (by omega) (by omega)) ml_L_59 im_X8_pass sel_X8_pass ini_X8 cd_X8_pass ok_X8_pass rfl ⟨by omega, by omega⟩ hR2 rfl (fun _ => rfl) (fun _ => rfl) (Nat.le_of_ble_eq_true rfl) ?_
      refine bv_blk C frk_L csk_L 2 422 rfl (L1 := ([(20, .int (nI (j + 1))), (16, .long was), (18, .int due), (19, .int (nI u)), (5, .int (nI t)), (0, .ref 400), (1, .ref 0), (2, .ref 182)] : Lc)) (st1 := ([.int due, .int (nI (j + 1)), .int (btI (pasN n S g (j + 1) 1 0))] : List Value)) (w1 := (layZ (pasN n S g (j + 1)) (svs (pasN n S g j) s2 ρ2 c2) σ τ (svr ρ2 c2) (svc c2) ev)) (by rfl) ?_
      refine bv_icmp_ne (j := 425) C rfl (by rw [pcL_425]; rfl) (fun c6 => ?_) (fun c6 => ?_)
      · refine bv_blk C frk_L csk_L 1 426 rfl (L1 := ([(20, .int (nI (j + 1))), (16, .long was), (18, .int due), (19, .int (nI u)), (5, .int (nI t)), (0, .ref 400), (1, .ref 0), (2, .ref 182)] : Lc)) (st1 := ([.int (1), .int (btI (pasN n S g (j + 1) 1 0))] : List Value)) (w1 := (layZ (pasN n S g (j + 1)) (svs (pasN n S g j) s2 ρ2 c2) σ τ (svr ρ2 c2) (svc c2) ev)) (by rfl) ?_
        refine bv_icmp_eq (j := 429) C rfl (by rw [pcL_429]; rfl) (fun _ => ?_) (fun h => absurd ((hP (j + 1) (by omega) (by omega)).2 c6) h)
        refine bv_blk C frk_L csk_L 1 430 rfl (L1 := ([(20, .int ((nI (j + 1)) + Int32.ofInt 1)), (16, .long was), (18, .int due), (19, .int (nI u)), (5, .int (nI t)), (0, .ref 400), (1, .ref 0), (2, .ref 182)] : Lc)) (st1 := ([] : List Value)) (w1 := (layZ (pasN n S g (j + 1)) (svs (pasN n S g j) s2 ρ2 c2) σ τ (svr ρ2 c2) (svc c2) ev)) (by rfl) ?_
        rw [show ((nI (j + 1)) + Int32.ofInt 1) = nI ((j + 1) + 1) from (nIi rfl)]
        refine bv_goto (j := 414) C rfl (by rw [pcL_414]; rfl) ?_
        refine bv_sub [0, 1, 2, 3, 4, 5, 6, 7] (by rfl) ?_
        exact ih (j + 1) _ _ _ (by omega) (sj_save I2 I2.1 (inv_pasN hi (j + 1))) (tp_save I2 (by omega) h2 (fun _ => rfl))
      · refine bv_blk C frk_L csk_L 1 424 rfl (L1 := ([(20, .int (nI (j + 1))), (16, .long was), (18, .int due), (19, .int (nI u)), (5, .int (nI t)), (0, .ref 400), (1, .ref 0), (2, .ref 182)] : Lc)) (st1 := ([.int (0), .int (btI (pasN n S g (j + 1) 1 0))] : List Value)) (w1 := (layZ (pasN n S g (j + 1)) (svs (pasN n S g j) s2 ρ2 c2) σ τ (svr ρ2 c2) (svc c2) ev)) (by rfl) ?_
        refine bv_goto (j := 426) C rfl (by rw [pcL_426]; rfl) ?_
        refine bv_icmp_eq (j := 429) C rfl (by rw [pcL_429]; rfl) (fun _ => ?_) (fun h => absurd ((hP (j + 1) (by omega) (by omega)).1 c6) h)
        refine bv_blk C frk_L csk_L 1 430 rfl (L1 := ([(20, .int ((nI (j + 1)) + Int32.ofInt 1)), (16, .long was), (18, .int due), (19, .int (nI u)), (5, .int (nI t)), (0, .ref 400), (1, .ref 0), (2, .ref 182)] : Lc)) (st1 := ([] : List Value)) (w1 := (layZ (pasN n S g (j + 1)) (svs (pasN n S g j) s2 ρ2 c2) σ τ (svr ρ2 c2) (svc c2) ev)) (by rfl) ?_
        rw [show ((nI (j + 1)) + Int32.ofInt 1) = nI ((j + 1) + 1) from (nIi rfl)]
        refine bv_goto (j := 414) C rfl (by rw [pcL_414]; rfl) ?_
        refine bv_sub [0, 1, 2, 3, 4, 5, 6, 7] (by rfl) ?_
        exact ih (j + 1) _ _ _ (by omega) (sj_save I2 I2.1 (inv_pasN hi (j + 1))) (tp_save I2 (by omega) h2 (fun _ => rfl))
  refine bv_sub [0, 1, 2, 3, 4, 5, 6, 7] (by rfl) ?_
  exact lp u 0 sv ρ c9 (by omega) I tp_0
end LC9
