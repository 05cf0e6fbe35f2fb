def renB (π : Nat → Nat) (N : Nat) (sh sh' : Sh) (w w' : Wd) : Bool := (List.range N).all fun o => Nat.blt (π o) N && (decide (sh (π o) = sh' o) && (List.range (szE (sh' o))).all fun k => decide (w (π o) k = cvv π (w' o k)))
def injB (π : Nat → Nat) (N : Nat) : Bool := (List.range N).all fun i => (List.range N).all fun j => !(π i == π j) || i == j
theorem renB_ok {π : Nat → Nat} {N : Nat} {sh sh' : Sh} {w w' : Wd} (h : renB π N sh sh' w w' = true) : (∀ o, o < N → π o < N) ∧ (∀ o, o < N → sh (π o) = sh' o) ∧ ∀ o, o < N → ∀ k, k < szE (sh' o) → w (π o) k = cvv π (w' o k) := by
  have h1 : ∀ o, o < N → _ := fun o ho => Bool.and_eq_true_iff.mp (List.all_eq_true.mp h o (List.mem_range.mpr ho))
  refine ⟨fun o ho => Nat.blt_eq.mp (h1 o ho).1, fun o ho => of_decide_eq_true (Bool.and_eq_true_iff.mp (h1 o ho).2).1, fun o ho k hk => ?_⟩
  exact of_decide_eq_true (List.all_eq_true.mp (Bool.and_eq_true_iff.mp (h1 o ho).2).2 k (List.mem_range.mpr hk))
theorem injB_ok {π : Nat → Nat} {N : Nat} (h : injB π N = true) : ∀ i j, i < N → j < N → π i = π j → i = j := by
  intro i j hi hj e
  have h1 := List.all_eq_true.mp (List.all_eq_true.mp h i (List.mem_range.mpr hi)) j (List.mem_range.mpr hj)
  rw [e] at h1
  simpa using h1
section GE
variable {p : Program} {l : Launch} {e : Env} {R : Room} {s : State} {m : MethodId} {args : Array Value} {below : List Frame} {meth : Method} {c : Code} {D : va_G} {cA : FieldType → ClassId} {z0 : Nat} {SK : Nat → Nat} {SV : Nat → Int32} {sh sh' : Sh} {A : Nat → Prop} {nL : Nat} {own : String} {cc : ByteArray} {tb : Tb} {Q : State → Prop} {ad : Nat → Nat} {N cells slots : Nat} {w w' : Wd} {i : Nat} {L L' : Lc} {st st' : List Value}
/-- other numbers for the same objects -/
theorem bv_ren {π : Nat → Nat} (hr : renB π N sh sh' w w' = true) (hi : injB π N = true) (hL : lcv π L' = L) (hst : st'.map (cvv π) = st) (kk : ∀ ad' : Nat → Nat, (∀ o, ad' o = ad (π o)) → bV p l e R s m args below meth c D cA sh' A nL tb Q ad' N cells slots w' i L' st') : bV p l e R s m args below meth c D cA sh A nL tb Q ad N cells slots w i L st := by
  intro H locs ls ha hP hS hl
  obtain ⟨h1, h2, h3⟩ := renB_ok hr
  have k2 := kk (fun o => ad (π o)) (fun _ => rfl) H locs ls ⟨fun x y hx hy e => injB_ok hi x y hx hy (ha.1 _ _ (h1 x hx) (h1 y hy) e), fun x hx => ha.2 _ (h1 x hx)⟩ (fun k q hq => by
    obtain ⟨hk, rfl⟩ := wls_inv hq
    exact at_congr (h2 k hk) (fun b hb => by rw [h2 k hk] at hb; rw [h3 k hk b hb, cvv_cvv]) (hP (π k) _ (wls_get (h1 k hk)))) hS (by
    have e1 : lcv (fun o => ad (π o)) L' = lcv ad L := by
      rw [← hL]
      unfold lcv
      rw [List.map_map]
      exact List.map_congr_left fun q _ => by simp [cvv_cvv]
    rw [e1]
    exact hl)
  have e2 : st'.map (cvv fun o => ad (π o)) = st.map (cvv ad) := by rw [← hst, map_cc]
  rw [e2] at k2
  exact k2
end GE
def shC6 : Sh := fun i => match i with
  | 0 => .inr (5, 18)
  | 1 => .inr (6, 5)
  | 2 => .inl (.int, 16)
  | 3 => .inr (6, 5)
  | 4 => .inl (.int, 16)
  | 5 => .inl (.object "BeamTraining$Path", 8)
  | 6 => .inr (0, 4)
  | 7 => .inl (.int, 3)
  | 8 => .inl (.int, 3)
  | 9 => .inl (.int, 3)
  | 10 => .inr (1, 4)
  | 11 => .inl (.int, 20)
  | 12 => .inl (.int, 20)
  | 13 => .inl (.int, 20)
  | _ => .inr (3, 6)
def pi6 : Nat → Nat := fun o => if o < 6 then o else if o < 14 then o + 8 else o - 8
def gP6 : Nat → Nat → Int32 := fun _ _ => 0
theorem pmK_id : pmK (fun o => o) (fun o => o) := ⟨fun k hk => ⟨hk, rfl⟩, fun k hk => ⟨hk, rfl⟩⟩
def gA6 : Nat → Nat → Int32 := anewG gP6
def shC8 : Sh := fun i => if i = 0 then .inr (7, 6) else if i < 45 then shB ((i - 1) % 22) else match i with
  | 45 => .inl (.object "BeamTraining$State", 6)
  | 46 => .inr (4, 5)
  | 47 => .inl (.char, 120)
  | 48 => .inr (2, 1)
  | 49 => .inl (.int, 256)
  | i => shB ((i - 50) % 22)
def pi8 : Nat → Nat := fun o => if o = 0 then 0 else if o < 6 then 44 + o else if o < 50 then o - 5 else o
def gF8 : Nat → Nat → Int32 := fun a k => if a = 1 then gA6 1 k else if a = 0 ∧ k = 20 then -100000 else 0
def sF8 : Nat → Nat → Int32 := fun _ k => gA6 1 k
def idF : Nat → Nat → Nat := fun _ o => o
def kw_X6_0 : Wd := fun _ k => defaultValue (tyX6 k)
def kw_X6_1 : Wd := extW kw_X6_0 1 (fun k => defaultValue (tyX7 k))
def kw_X6_2 : Wd := catW kw_X6_1 2 1 (layS g0S)
def kw_X6_3 : Wd := up2 kw_X6_2 0 0 (.ref 1)
def kw_X6_4 : Wd := extW kw_X6_3 3 (fun k => defaultValue (tyX7 k))
def kw_X6_5 : Wd := catW kw_X6_4 4 3 (layS g0S)
def kw_X6_6 : Wd := up2 kw_X6_5 0 1 (.ref 3)
def kw_X6_7 : Wd := extW kw_X6_6 5 (fun _ => .null)
def kw_X6_8 : Wd := up2 kw_X6_7 0 2 (.ref 5)
def kw_X6_9 : Wd := extW kw_X6_8 6 (fun k => defaultValue (tyX0 k))
def kw_X6_10 : Wd := catW kw_X6_9 7 6 layK0
def kw_X6_11 : Wd := up2 kw_X6_10 0 4 (.ref 6)
def kw_X6_12 : Wd := extW kw_X6_11 10 (fun k => defaultValue (tyX1 k))
def kw_X6_13 : Wd := catW kw_X6_12 11 10 layK0
def kw_X6_14 : Wd := up2 kw_X6_13 0 5 (.ref 10)
def kw_X6_15 : Wd := extW kw_X6_14 14 (fun k => defaultValue (tyX3 k))
def kw_X6_16 : Wd := catW kw_X6_15 15 14 kw_X3_0
def kw_X6_17 : Wd := up2 kw_X6_16 5 0 (.ref 14)
def kw_X6_18 : Wd := extW kw_X6_17 15 (fun k => defaultValue (tyX3 k))
def kw_X6_19 : Wd := catW kw_X6_18 16 15 kw_X3_0
def kw_X6_20 : Wd := up2 kw_X6_19 5 1 (.ref 15)
def kw_X6_21 : Wd := extW kw_X6_20 16 (fun k => defaultValue (tyX3 k))
def kw_X6_22 : Wd := catW kw_X6_21 17 16 kw_X3_0
def kw_X6_23 : Wd := up2 kw_X6_22 5 2 (.ref 16)
def kw_X6_24 : Wd := extW kw_X6_23 17 (fun k => defaultValue (tyX3 k))
def kw_X6_25 : Wd := catW kw_X6_24 18 17 kw_X3_0
def kw_X6_26 : Wd := up2 kw_X6_25 5 3 (.ref 17)
def kw_X6_27 : Wd := extW kw_X6_26 18 (fun k => defaultValue (tyX3 k))
def kw_X6_28 : Wd := catW kw_X6_27 19 18 kw_X3_0
def kw_X6_29 : Wd := up2 kw_X6_28 5 4 (.ref 18)
def kw_X6_30 : Wd := extW kw_X6_29 19 (fun k => defaultValue (tyX3 k))
def kw_X6_31 : Wd := catW kw_X6_30 20 19 kw_X3_0
def kw_X6_32 : Wd := up2 kw_X6_31 5 5 (.ref 19)
def kw_X6_33 : Wd := extW kw_X6_32 20 (fun k => defaultValue (tyX3 k))
def kw_X6_34 : Wd := catW kw_X6_33 21 20 kw_X3_0
def kw_X6_35 : Wd := up2 kw_X6_34 5 6 (.ref 20)
def kw_X6_36 : Wd := extW kw_X6_35 21 (fun k => defaultValue (tyX3 k))
def kw_X6_37 : Wd := catW kw_X6_36 22 21 kw_X3_0
def kw_X6_38 : Wd := up2 kw_X6_37 5 7 (.ref 21)
set_option maxRecDepth 100000 in
set_option maxHeartbeats 8000000 in
theorem ki_X6 {l : Launch} {D : va_G} {cA : FieldType → ClassId} {z0 : Nat} {SK : Nat → Nat} {SV : Nat → Int32} : bCN l D cA z0 SK SV yX6_init cX6_init 2 3 21 175 shB kw_X6_0 22 (layB gA6 (fun o => o) (fun o => o)) := by
  refine bCN_intro (tb := tb_X6_init) (own := RX6) pn_X6 rfl tk_X6_init rfl (Nat.le_of_ble_eq_true rfl) rfl ?_
  intro a sz p e s m args below meth c hA C hr hin hAO
  refine bv_ren (N := 1) (π := fun o => o) (sh' := shC6) (w' := kw_X6_0) (L' := [(0, .ref 0)]) (st' := []) (by decide +kernel) (by decide +kernel) rfl rfl (fun ad0 hq0 => ?_)
  refine bv_blk C frk_X6 csk_X6 1 1 rfl (L1 := ([(0, .ref 0)] : Lc)) (st1 := ([.ref 0] : List Value)) (w1 := kw_X6_0) (by rfl) ?_
  refine bv_obj C rfl (mw (mT_1 24 rfl) rfl) (mw (mT_1 17 rfl) rfl) (mw (mT_1 18 rfl) rfl) ⟨Nat.le_of_ble_eq_true rfl, Nat.le_of_ble_eq_true rfl⟩ ?_
  refine bv_blk C frk_X6 csk_X6 1 3 rfl (L1 := ([(0, .ref 0)] : Lc)) (st1 := ([.ref 0] : List Value)) (w1 := kw_X6_0) (by rfl) ?_
  refine bv_newC (N := 1) (w1 := kw_X6_1) C rfl cl_X7 tyX7_ok (mw (mT_1 25 rfl) rfl) (mw (mT_1 26 rfl) rfl) (mw (mT_1 3 rfl) rfl) hA rfl (by decide +kernel) rfl rfl (by decide) rfl (by decide) (fun ad1 hg1 => ?_)
  refine bv_blk C frk_X6 csk_X6 1 5 rfl (L1 := ([(0, .ref 0)] : Lc)) (st1 := ([.ref 1, .ref 1, .ref 0] : List Value)) (w1 := kw_X6_1) (by rfl) ?_
  refine bv_callIC (N := 2) (N' := 2) (r0 := 1) (w1 := kw_X6_2) C rfl ki_X7 ml_X6_11 im_X7_init ini_X7 cd_X7_init ok_X7_init rfl ⟨Nat.le_of_ble_eq_true rfl, Nat.le_of_ble_eq_true rfl⟩ ⟨Nat.le_of_ble_eq_true rfl, Nat.le_of_ble_eq_true rfl⟩ hA hAO (by decide) (by decide) (by decide +kernel) (by decide +kernel) (by decide +kernel) (by decide +kernel) rfl rfl (Nat.le_of_ble_eq_true rfl) rfl (by decide) (fun ad2 hg2 => ?_)
  refine bv_putF (ty := .object "BeamTraining$Station") C rfl cl_X6 fl_X6_12 (by decide) rfl hin rfl (by decide +kernel) rfl rfl rfl (by decide) (by decide) ?_
  refine bv_weq (w2 := kw_X6_3) rfl ?_
  refine bv_blk C frk_X6 csk_X6 1 8 rfl (L1 := ([(0, .ref 0)] : Lc)) (st1 := ([.ref 0] : List Value)) (w1 := kw_X6_3) (by rfl) ?_
  refine bv_newC (N := 3) (w1 := kw_X6_4) C rfl cl_X7 tyX7_ok (mw (mT_1 25 rfl) rfl) (mw (mT_1 26 rfl) rfl) (mw (mT_1 3 rfl) rfl) hA rfl (by decide +kernel) rfl rfl (by decide) rfl (by decide) (fun ad3 hg3 => ?_)
  refine bv_blk C frk_X6 csk_X6 1 10 rfl (L1 := ([(0, .ref 0)] : Lc)) (st1 := ([.ref 3, .ref 3, .ref 0] : List Value)) (w1 := kw_X6_4) (by rfl) ?_
  refine bv_callIC (N := 4) (N' := 2) (r0 := 3) (w1 := kw_X6_5) C rfl ki_X7 ml_X6_11 im_X7_init ini_X7 cd_X7_init ok_X7_init rfl ⟨Nat.le_of_ble_eq_true rfl, Nat.le_of_ble_eq_true rfl⟩ ⟨Nat.le_of_ble_eq_true rfl, Nat.le_of_ble_eq_true rfl⟩ hA hAO (by decide) (by decide) (by decide +kernel) (by decide +kernel) (by decide +kernel) (by decide +kernel) rfl rfl (Nat.le_of_ble_eq_true rfl) rfl (by decide) (fun ad4 hg4 => ?_)
  refine bv_putF (ty := .object "BeamTraining$Station") C rfl cl_X6 fl_X6_18 (by decide) rfl hin rfl (by decide +kernel) rfl rfl rfl (by decide) (by decide) ?_
  refine bv_weq (w2 := kw_X6_6) rfl ?_
  refine bv_blk C frk_X6 csk_X6 2 14 rfl (L1 := ([(0, .ref 0)] : Lc)) (st1 := ([.int (8), .ref 0] : List Value)) (w1 := kw_X6_6) (by rfl) ?_
  refine bv_newqC (N := 5) (n := 8) (t0 := 4) (w1 := kw_X6_7) C rfl rfl (mw (mT_1 56 rfl) rfl) hAO.2 hA rfl rfl (by decide) (by decide +kernel) rfl rfl (by decide) rfl (by decide) (fun ad5 hg5 => ?_)
  refine bv_putF (ty := .array (.object "BeamTraining$Path")) C rfl cl_X6 fl_X6_23 (by decide) rfl hin rfl (by decide +kernel) rfl rfl rfl (by decide) (by decide) ?_
  refine bv_weq (w2 := kw_X6_8) rfl ?_
  refine bv_blk C frk_X6 csk_X6 1 17 rfl (L1 := ([(0, .ref 0)] : Lc)) (st1 := ([.ref 0] : List Value)) (w1 := kw_X6_8) (by rfl) ?_
  refine bv_newC (N := 6) (w1 := kw_X6_9) C rfl cl_X0 tyX0_ok (mw (mT_1 58 rfl) rfl) (mw (mT_1 59 rfl) rfl) (mw (mT_1 4 rfl) rfl) hA rfl (by decide +kernel) rfl rfl (by decide) rfl (by decide) (fun ad6 hg6 => ?_)
  refine bv_blk C frk_X6 csk_X6 1 19 rfl (L1 := ([(0, .ref 0)] : Lc)) (st1 := ([.ref 6, .ref 6, .ref 0] : List Value)) (w1 := kw_X6_9) (by rfl) ?_
  refine bv_callIC (N := 7) (N' := 4) (r0 := 6) (w1 := kw_X6_10) C rfl ki_X0 ml_X6_29 im_X0_init ini_X0 cd_X0_init ok_X0_init rfl ⟨Nat.le_of_ble_eq_true rfl, Nat.le_of_ble_eq_true rfl⟩ ⟨Nat.le_of_ble_eq_true rfl, Nat.le_of_ble_eq_true rfl⟩ hA hAO (by decide) (by decide) (by decide +kernel) (by decide +kernel) (by decide +kernel) (by decide +kernel) rfl rfl (Nat.le_of_ble_eq_true rfl) rfl (by decide) (fun ad7 hg7 => ?_)
  refine bv_putF (ty := .object "BeamTraining$Backups") C rfl cl_X6 fl_X6_30 (by decide) rfl hin rfl (by decide +kernel) rfl rfl rfl (by decide) (by decide) ?_
  refine bv_weq (w2 := kw_X6_11) rfl ?_
  refine bv_blk C frk_X6 csk_X6 1 22 rfl (L1 := ([(0, .ref 0)] : Lc)) (st1 := ([.ref 0] : List Value)) (w1 := kw_X6_11) (by rfl) ?_
  refine bv_newC (N := 10) (w1 := kw_X6_12) C rfl cl_X1 tyX1_ok (mw (mT_1 87 rfl) rfl) (mw (mT_1 88 rfl) rfl) (mw (mT_1 5 rfl) rfl) hA rfl (by decide +kernel) rfl rfl (by decide) rfl (by decide) (fun ad8 hg8 => ?_)
  refine bv_blk C frk_X6 csk_X6 1 24 rfl (L1 := ([(0, .ref 0)] : Lc)) (st1 := ([.ref 10, .ref 10, .ref 0] : List Value)) (w1 := kw_X6_12) (by rfl) ?_
  refine bv_callIC (N := 11) (N' := 4) (r0 := 10) (w1 := kw_X6_13) C rfl ki_X1 ml_X6_36 im_X1_init ini_X1 cd_X1_init ok_X1_init rfl ⟨Nat.le_of_ble_eq_true rfl, Nat.le_of_ble_eq_true rfl⟩ ⟨Nat.le_of_ble_eq_true rfl, Nat.le_of_ble_eq_true rfl⟩ hA hAO (by decide) (by decide) (by decide +kernel) (by decide +kernel) (by decide +kernel) (by decide +kernel) rfl rfl (Nat.le_of_ble_eq_true rfl) rfl (by decide) (fun ad9 hg9 => ?_)
  refine bv_putF (ty := .object "BeamTraining$Events") C rfl cl_X6 fl_X6_37 (by decide) rfl hin rfl (by decide +kernel) rfl rfl rfl (by decide) (by decide) ?_
  refine bv_weq (w2 := kw_X6_14) rfl ?_
  refine bv_blk C frk_X6 csk_X6 5 31 rfl (L1 := ([(1, .int (0)), (0, .ref 0)] : Lc)) (st1 := ([.ref 5, .int (0)] : List Value)) (w1 := kw_X6_14) (by rfl) ?_
  refine bv_alen C 4 rfl rfl rfl (by decide) ?_
  refine bv_icmp_ge (j := 42) C rfl rfl (fun h => absurd h (nI_ge (a := 0) (b := 8) (by omega) (by omega))) (fun _ => ?_)
  refine bv_blk C frk_X6 csk_X6 3 36 rfl (L1 := ([(1, .int (0)), (0, .ref 0)] : Lc)) (st1 := ([.int (0), .ref 5] : List Value)) (w1 := kw_X6_14) (by rfl) ?_
  refine bv_newC (N := 14) (w1 := kw_X6_15) C rfl cl_X3 tyX3_ok (mw (mT_1 56 rfl) rfl) (mw (mT_1 111 rfl) rfl) (mw (mT_1 6 rfl) rfl) hA rfl (by decide +kernel) rfl rfl (by decide) rfl (by decide) (fun ad10 hg10 => ?_)
  refine bv_blk C frk_X6 csk_X6 1 38 rfl (L1 := ([(1, .int (0)), (0, .ref 0)] : Lc)) (st1 := ([.ref 14, .ref 14, .int (0), .ref 5] : List Value)) (w1 := kw_X6_15) (by rfl) ?_
  refine bv_callIC (N := 15) (N' := 1) (r0 := 14) (w1 := kw_X6_16) C rfl ki_X3 ml_X6_41 im_X3_init ini_X3 cd_X3_init ok_X3_init rfl ⟨Nat.le_of_ble_eq_true rfl, Nat.le_of_ble_eq_true rfl⟩ ⟨Nat.le_of_ble_eq_true rfl, Nat.le_of_ble_eq_true rfl⟩ hA hAO (by decide) (by decide) (by decide +kernel) (by decide +kernel) (by decide +kernel) (by decide +kernel) rfl rfl (Nat.le_of_ble_eq_true rfl) rfl (by decide) (fun ad11 hg11 => ?_)
  refine bv_aastPath (y := 14) C rfl rfl (by decide) (j := 0) (by decide) (by decide) (by decide) rfl (by decide) ?_
  refine bv_weq (w2 := kw_X6_17) rfl ?_
  refine bv_blk C frk_X6 csk_X6 1 41 rfl (L1 := ([(1, .int ((0) + Int32.ofInt 1)), (0, .ref 0)] : Lc)) (st1 := ([] : List Value)) (w1 := kw_X6_17) (by rfl) ?_
  rw [show ((0) + Int32.ofInt 1) = (1) from by decide]
  refine bv_goto (j := 28) C rfl rfl ?_
  refine bv_blk C frk_X6 csk_X6 3 31 rfl (L1 := ([(1, .int (1)), (0, .ref 0)] : Lc)) (st1 := ([.ref 5, .int (1)] : List Value)) (w1 := kw_X6_17) (by rfl) ?_
  refine bv_alen C 4 rfl rfl rfl (by decide) ?_
  refine bv_icmp_ge (j := 42) C rfl rfl (fun h => absurd h (nI_ge (a := 1) (b := 8) (by omega) (by omega))) (fun _ => ?_)
  refine bv_blk C frk_X6 csk_X6 3 36 rfl (L1 := ([(1, .int (1)), (0, .ref 0)] : Lc)) (st1 := ([.int (1), .ref 5] : List Value)) (w1 := kw_X6_17) (by rfl) ?_
  refine bv_newC (N := 15) (w1 := kw_X6_18) C rfl cl_X3 tyX3_ok (mw (mT_1 56 rfl) rfl) (mw (mT_1 111 rfl) rfl) (mw (mT_1 6 rfl) rfl) hA rfl (by decide +kernel) rfl rfl (by decide) rfl (by decide) (fun ad12 hg12 => ?_)
  refine bv_blk C frk_X6 csk_X6 1 38 rfl (L1 := ([(1, .int (1)), (0, .ref 0)] : Lc)) (st1 := ([.ref 15, .ref 15, .int (1), .ref 5] : List Value)) (w1 := kw_X6_18) (by rfl) ?_
  refine bv_callIC (N := 16) (N' := 1) (r0 := 15) (w1 := kw_X6_19) C rfl ki_X3 ml_X6_41 im_X3_init ini_X3 cd_X3_init ok_X3_init rfl ⟨Nat.le_of_ble_eq_true rfl, Nat.le_of_ble_eq_true rfl⟩ ⟨Nat.le_of_ble_eq_true rfl, Nat.le_of_ble_eq_true rfl⟩ hA hAO (by decide) (by decide) (by decide +kernel) (by decide +kernel) (by decide +kernel) (by decide +kernel) rfl rfl (Nat.le_of_ble_eq_true rfl) rfl (by decide) (fun ad13 hg13 => ?_)
  refine bv_aastPath (y := 15) C rfl rfl (by decide) (j := 1) (by decide) (by decide) (by decide) rfl (by decide) ?_
  refine bv_weq (w2 := kw_X6_20) rfl ?_
  refine bv_blk C frk_X6 csk_X6 1 41 rfl (L1 := ([(1, .int ((1) + Int32.ofInt 1)), (0, .ref 0)] : Lc)) (st1 := ([] : List Value)) (w1 := kw_X6_20) (by rfl) ?_
  rw [show ((1) + Int32.ofInt 1) = (2) from by decide]
  refine bv_goto (j := 28) C rfl rfl ?_
  refine bv_blk C frk_X6 csk_X6 3 31 rfl (L1 := ([(1, .int (2)), (0, .ref 0)] : Lc)) (st1 := ([.ref 5, .int (2)] : List Value)) (w1 := kw_X6_20) (by rfl) ?_
  refine bv_alen C 4 rfl rfl rfl (by decide) ?_
  refine bv_icmp_ge (j := 42) C rfl rfl (fun h => absurd h (nI_ge (a := 2) (b := 8) (by omega) (by omega))) (fun _ => ?_)
  refine bv_blk C frk_X6 csk_X6 3 36 rfl (L1 := ([(1, .int (2)), (0, .ref 0)] : Lc)) (st1 := ([.int (2), .ref 5] : List Value)) (w1 := kw_X6_20) (by rfl) ?_
  refine bv_newC (N := 16) (w1 := kw_X6_21) C rfl cl_X3 tyX3_ok (mw (mT_1 56 rfl) rfl) (mw (mT_1 111 rfl) rfl) (mw (mT_1 6 rfl) rfl) hA rfl (by decide +kernel) rfl rfl (by decide) rfl (by decide) (fun ad14 hg14 => ?_)
  refine bv_blk C frk_X6 csk_X6 1 38 rfl (L1 := ([(1, .int (2)), (0, .ref 0)] : Lc)) (st1 := ([.ref 16, .ref 16, .int (2), .ref 5] : List Value)) (w1 := kw_X6_21) (by rfl) ?_
  refine bv_callIC (N := 17) (N' := 1) (r0 := 16) (w1 := kw_X6_22) C rfl ki_X3 ml_X6_41 im_X3_init ini_X3 cd_X3_init ok_X3_init rfl ⟨Nat.le_of_ble_eq_true rfl, Nat.le_of_ble_eq_true rfl⟩ ⟨Nat.le_of_ble_eq_true rfl, Nat.le_of_ble_eq_true rfl⟩ hA hAO (by decide) (by decide) (by decide +kernel) (by decide +kernel) (by decide +kernel) (by decide +kernel) rfl rfl (Nat.le_of_ble_eq_true rfl) rfl (by decide) (fun ad15 hg15 => ?_)
  refine bv_aastPath (y := 16) C rfl rfl (by decide) (j := 2) (by decide) (by decide) (by decide) rfl (by decide) ?_
  refine bv_weq (w2 := kw_X6_23) rfl ?_
  refine bv_blk C frk_X6 csk_X6 1 41 rfl (L1 := ([(1, .int ((2) + Int32.ofInt 1)), (0, .ref 0)] : Lc)) (st1 := ([] : List Value)) (w1 := kw_X6_23) (by rfl) ?_
  rw [show ((2) + Int32.ofInt 1) = (3) from by decide]
  refine bv_goto (j := 28) C rfl rfl ?_
  refine bv_blk C frk_X6 csk_X6 3 31 rfl (L1 := ([(1, .int (3)), (0, .ref 0)] : Lc)) (st1 := ([.ref 5, .int (3)] : List Value)) (w1 := kw_X6_23) (by rfl) ?_
  refine bv_alen C 4 rfl rfl rfl (by decide) ?_
  refine bv_icmp_ge (j := 42) C rfl rfl (fun h => absurd h (nI_ge (a := 3) (b := 8) (by omega) (by omega))) (fun _ => ?_)
  refine bv_blk C frk_X6 csk_X6 3 36 rfl (L1 := ([(1, .int (3)), (0, .ref 0)] : Lc)) (st1 := ([.int (3), .ref 5] : List Value)) (w1 := kw_X6_23) (by rfl) ?_
  refine bv_newC (N := 17) (w1 := kw_X6_24) C rfl cl_X3 tyX3_ok (mw (mT_1 56 rfl) rfl) (mw (mT_1 111 rfl) rfl) (mw (mT_1 6 rfl) rfl) hA rfl (by decide +kernel) rfl rfl (by decide) rfl (by decide) (fun ad16 hg16 => ?_)
  refine bv_blk C frk_X6 csk_X6 1 38 rfl (L1 := ([(1, .int (3)), (0, .ref 0)] : Lc)) (st1 := ([.ref 17, .ref 17, .int (3), .ref 5] : List Value)) (w1 := kw_X6_24) (by rfl) ?_
  refine bv_callIC (N := 18) (N' := 1) (r0 := 17) (w1 := kw_X6_25) C rfl ki_X3 ml_X6_41 im_X3_init ini_X3 cd_X3_init ok_X3_init rfl ⟨Nat.le_of_ble_eq_true rfl, Nat.le_of_ble_eq_true rfl⟩ ⟨Nat.le_of_ble_eq_true rfl, Nat.le_of_ble_eq_true rfl⟩ hA hAO (by decide) (by decide) (by decide +kernel) (by decide +kernel) (by decide +kernel) (by decide +kernel) rfl rfl (Nat.le_of_ble_eq_true rfl) rfl (by decide) (fun ad17 hg17 => ?_)
  refine bv_aastPath (y := 17) C rfl rfl (by decide) (j := 3) (by decide) (by decide) (by decide) rfl (by decide) ?_
  refine bv_weq (w2 := kw_X6_26) rfl ?_
  refine bv_blk C frk_X6 csk_X6 1 41 rfl (L1 := ([(1, .int ((3) + Int32.ofInt 1)), (0, .ref 0)] : Lc)) (st1 := ([] : List Value)) (w1 := kw_X6_26) (by rfl) ?_
  rw [show ((3) + Int32.ofInt 1) = (4) from by decide]
  refine bv_goto (j := 28) C rfl rfl ?_
  refine bv_blk C frk_X6 csk_X6 3 31 rfl (L1 := ([(1, .int (4)), (0, .ref 0)] : Lc)) (st1 := ([.ref 5, .int (4)] : List Value)) (w1 := kw_X6_26) (by rfl) ?_
  refine bv_alen C 4 rfl rfl rfl (by decide) ?_
  refine bv_icmp_ge (j := 42) C rfl rfl (fun h => absurd h (nI_ge (a := 4) (b := 8) (by omega) (by omega))) (fun _ => ?_)
  refine bv_blk C frk_X6 csk_X6 3 36 rfl (L1 := ([(1, .int (4)), (0, .ref 0)] : Lc)) (st1 := ([.int (4), .ref 5] : List Value)) (w1 := kw_X6_26) (by rfl) ?_
  refine bv_newC (N := 18) (w1 := kw_X6_27) C rfl cl_X3 tyX3_ok (mw (mT_1 56 rfl) rfl) (mw (mT_1 111 rfl) rfl) (mw (mT_1 6 rfl) rfl) hA rfl (by decide +kernel) rfl rfl (by decide) rfl (by decide) (fun ad18 hg18 => ?_)
  refine bv_blk C frk_X6 csk_X6 1 38 rfl (L1 := ([(1, .int (4)), (0, .ref 0)] : Lc)) (st1 := ([.ref 18, .ref 18, .int (4), .ref 5] : List Value)) (w1 := kw_X6_27) (by rfl) ?_
  refine bv_callIC (N := 19) (N' := 1) (r0 := 18) (w1 := kw_X6_28) C rfl ki_X3 ml_X6_41 im_X3_init ini_X3 cd_X3_init ok_X3_init rfl ⟨Nat.le_of_ble_eq_true rfl, Nat.le_of_ble_eq_true rfl⟩ ⟨Nat.le_of_ble_eq_true rfl, Nat.le_of_ble_eq_true rfl⟩ hA hAO (by decide) (by decide) (by decide +kernel) (by decide +kernel) (by decide +kernel) (by decide +kernel) rfl rfl (Nat.le_of_ble_eq_true rfl) rfl (by decide) (fun ad19 hg19 => ?_)
  refine bv_aastPath (y := 18) C rfl rfl (by decide) (j := 4) (by decide) (by decide) (by decide) rfl (by decide) ?_
  refine bv_weq (w2 := kw_X6_29) rfl ?_
  refine bv_blk C frk_X6 csk_X6 1 41 rfl (L1 := ([(1, .int ((4) + Int32.ofInt 1)), (0, .ref 0)] : Lc)) (st1 := ([] : List Value)) (w1 := kw_X6_29) (by rfl) ?_
  rw [show ((4) + Int32.ofInt 1) = (5) from by decide]
  refine bv_goto (j := 28) C rfl rfl ?_
  refine bv_blk C frk_X6 csk_X6 3 31 rfl (L1 := ([(1, .int (5)), (0, .ref 0)] : Lc)) (st1 := ([.ref 5, .int (5)] : List Value)) (w1 := kw_X6_29) (by rfl) ?_
  refine bv_alen C 4 rfl rfl rfl (by decide) ?_
  refine bv_icmp_ge (j := 42) C rfl rfl (fun h => absurd h (nI_ge (a := 5) (b := 8) (by omega) (by omega))) (fun _ => ?_)
  refine bv_blk C frk_X6 csk_X6 3 36 rfl (L1 := ([(1, .int (5)), (0, .ref 0)] : Lc)) (st1 := ([.int (5), .ref 5] : List Value)) (w1 := kw_X6_29) (by rfl) ?_
  refine bv_newC (N := 19) (w1 := kw_X6_30) C rfl cl_X3 tyX3_ok (mw (mT_1 56 rfl) rfl) (mw (mT_1 111 rfl) rfl) (mw (mT_1 6 rfl) rfl) hA rfl (by decide +kernel) rfl rfl (by decide) rfl (by decide) (fun ad20 hg20 => ?_)
  refine bv_blk C frk_X6 csk_X6 1 38 rfl (L1 := ([(1, .int (5)), (0, .ref 0)] : Lc)) (st1 := ([.ref 19, .ref 19, .int (5), .ref 5] : List Value)) (w1 := kw_X6_30) (by rfl) ?_
  refine bv_callIC (N := 20) (N' := 1) (r0 := 19) (w1 := kw_X6_31) C rfl ki_X3 ml_X6_41 im_X3_init ini_X3 cd_X3_init ok_X3_init rfl ⟨Nat.le_of_ble_eq_true rfl, Nat.le_of_ble_eq_true rfl⟩ ⟨Nat.le_of_ble_eq_true rfl, Nat.le_of_ble_eq_true rfl⟩ hA hAO (by decide) (by decide) (by decide +kernel) (by decide +kernel) (by decide +kernel) (by decide +kernel) rfl rfl (Nat.le_of_ble_eq_true rfl) rfl (by decide) (fun ad21 hg21 => ?_)
  refine bv_aastPath (y := 19) C rfl rfl (by decide) (j := 5) (by decide) (by decide) (by decide) rfl (by decide) ?_
  refine bv_weq (w2 := kw_X6_32) rfl ?_
  refine bv_blk C frk_X6 csk_X6 1 41 rfl (L1 := ([(1, .int ((5) + Int32.ofInt 1)), (0, .ref 0)] : Lc)) (st1 := ([] : List Value)) (w1 := kw_X6_32) (by rfl) ?_
  rw [show ((5) + Int32.ofInt 1) = (6) from by decide]
  refine bv_goto (j := 28) C rfl rfl ?_
  refine bv_blk C frk_X6 csk_X6 3 31 rfl (L1 := ([(1, .int (6)), (0, .ref 0)] : Lc)) (st1 := ([.ref 5, .int (6)] : List Value)) (w1 := kw_X6_32) (by rfl) ?_
  refine bv_alen C 4 rfl rfl rfl (by decide) ?_
  refine bv_icmp_ge (j := 42) C rfl rfl (fun h => absurd h (nI_ge (a := 6) (b := 8) (by omega) (by omega))) (fun _ => ?_)
  refine bv_blk C frk_X6 csk_X6 3 36 rfl (L1 := ([(1, .int (6)), (0, .ref 0)] : Lc)) (st1 := ([.int (6), .ref 5] : List Value)) (w1 := kw_X6_32) (by rfl) ?_
  refine bv_newC (N := 20) (w1 := kw_X6_33) C rfl cl_X3 tyX3_ok (mw (mT_1 56 rfl) rfl) (mw (mT_1 111 rfl) rfl) (mw (mT_1 6 rfl) rfl) hA rfl (by decide +kernel) rfl rfl (by decide) rfl (by decide) (fun ad22 hg22 => ?_)
  refine bv_blk C frk_X6 csk_X6 1 38 rfl (L1 := ([(1, .int (6)), (0, .ref 0)] : Lc)) (st1 := ([.ref 20, .ref 20, .int (6), .ref 5] : List Value)) (w1 := kw_X6_33) (by rfl) ?_
  refine bv_callIC (N := 21) (N' := 1) (r0 := 20) (w1 := kw_X6_34) C rfl ki_X3 ml_X6_41 im_X3_init ini_X3 cd_X3_init ok_X3_init rfl ⟨Nat.le_of_ble_eq_true rfl, Nat.le_of_ble_eq_true rfl⟩ ⟨Nat.le_of_ble_eq_true rfl, Nat.le_of_ble_eq_true rfl⟩ hA hAO (by decide) (by decide) (by decide +kernel) (by decide +kernel) (by decide +kernel) (by decide +kernel) rfl rfl (Nat.le_of_ble_eq_true rfl) rfl (by decide) (fun ad23 hg23 => ?_)
  refine bv_aastPath (y := 20) C rfl rfl (by decide) (j := 6) (by decide) (by decide) (by decide) rfl (by decide) ?_
  refine bv_weq (w2 := kw_X6_35) rfl ?_
  refine bv_blk C frk_X6 csk_X6 1 41 rfl (L1 := ([(1, .int ((6) + Int32.ofInt 1)), (0, .ref 0)] : Lc)) (st1 := ([] : List Value)) (w1 := kw_X6_35) (by rfl) ?_
  rw [show ((6) + Int32.ofInt 1) = (7) from by decide]
  refine bv_goto (j := 28) C rfl rfl ?_
  refine bv_blk C frk_X6 csk_X6 3 31 rfl (L1 := ([(1, .int (7)), (0, .ref 0)] : Lc)) (st1 := ([.ref 5, .int (7)] : List Value)) (w1 := kw_X6_35) (by rfl) ?_
  refine bv_alen C 4 rfl rfl rfl (by decide) ?_
  refine bv_icmp_ge (j := 42) C rfl rfl (fun h => absurd h (nI_ge (a := 7) (b := 8) (by omega) (by omega))) (fun _ => ?_)
  refine bv_blk C frk_X6 csk_X6 3 36 rfl (L1 := ([(1, .int (7)), (0, .ref 0)] : Lc)) (st1 := ([.int (7), .ref 5] : List Value)) (w1 := kw_X6_35) (by rfl) ?_
  refine bv_newC (N := 21) (w1 := kw_X6_36) C rfl cl_X3 tyX3_ok (mw (mT_1 56 rfl) rfl) (mw (mT_1 111 rfl) rfl) (mw (mT_1 6 rfl) rfl) hA rfl (by decide +kernel) rfl rfl (by decide) rfl (by decide) (fun ad24 hg24 => ?_)
  refine bv_blk C frk_X6 csk_X6 1 38 rfl (L1 := ([(1, .int (7)), (0, .ref 0)] : Lc)) (st1 := ([.ref 21, .ref 21, .int (7), .ref 5] : List Value)) (w1 := kw_X6_36) (by rfl) ?_
  refine bv_callIC (N := 22) (N' := 1) (r0 := 21) (w1 := kw_X6_37) C rfl ki_X3 ml_X6_41 im_X3_init ini_X3 cd_X3_init ok_X3_init rfl ⟨Nat.le_of_ble_eq_true rfl, Nat.le_of_ble_eq_true rfl⟩ ⟨Nat.le_of_ble_eq_true rfl, Nat.le_of_ble_eq_true rfl⟩ hA hAO (by decide) (by decide) (by decide +kernel) (by decide +kernel) (by decide +kernel) (by decide +kernel) rfl rfl (Nat.le_of_ble_eq_true rfl) rfl (by decide) (fun ad25 hg25 => ?_)
  refine bv_aastPath (y := 21) C rfl rfl (by decide) (j := 7) (by decide) (by decide) (by decide) rfl (by decide) ?_
  refine bv_weq (w2 := kw_X6_38) rfl ?_
  refine bv_blk C frk_X6 csk_X6 1 41 rfl (L1 := ([(1, .int ((7) + Int32.ofInt 1)), (0, .ref 0)] : Lc)) (st1 := ([] : List Value)) (w1 := kw_X6_38) (by rfl) ?_
  rw [show ((7) + Int32.ofInt 1) = (8) from by decide]
  refine bv_goto (j := 28) C rfl rfl ?_
  refine bv_blk C frk_X6 csk_X6 3 31 rfl (L1 := ([(1, .int (8)), (0, .ref 0)] : Lc)) (st1 := ([.ref 5, .int (8)] : List Value)) (w1 := kw_X6_38) (by rfl) ?_
  refine bv_alen C 4 rfl rfl rfl (by decide) ?_
  refine bv_icmp_ge (j := 42) C rfl rfl (fun _ => ?_) (fun h => absurd (nI_le (a := 8) (b := 8) (by omega) (by omega)) h)
  refine bv_blk C frk_X6 csk_X6 1 43 rfl (L1 := ([(1, .int (8)), (0, .ref 0)] : Lc)) (st1 := ([.ref 0] : List Value)) (w1 := kw_X6_38) (by rfl) ?_
  refine bv_sub [1] (by rfl) ?_
  refine bv_ren (N := 22) (π := pi6) (sh' := shB) (w' := layB gP6 (fun o => o) (fun o => o)) (L' := [(0, .ref 0)]) (st' := [.ref 0]) (by decide +kernel) (by decide +kernel) rfl rfl (fun ad26 hq26 => ?_)
  have hg26 : ∀ o, (o < 1 ∨ o < 1) → ad26 o = ad25 o := fun o ho => (by rw [show o = 0 by omega]; exact hq26 0)
  refine bv_hE C (fun hE => ?_)
  refine bv_fV0 C rfl (k2_startAnew hE gP6 (fun o => o) (fun o => o) pmK_id) ml_X6_42 im_X6_startAnew sel_X6_startAnew ini_X6 cd_X6_startAnew ok_X6_startAnew rfl ⟨Nat.le_of_ble_eq_true rfl, Nat.le_of_ble_eq_true rfl⟩ ⟨Nat.le_of_ble_eq_true rfl, Nat.le_of_ble_eq_true rfl⟩ (by decide) rfl rfl rfl (rest := ([] : List Value)) rfl (Nat.le_of_ble_eq_true rfl) ?_
  refine bv_weq (w2 := layB gA6 (fun o => o) (fun o => o)) rfl ?_
  exact bv_vretN C rfl hr ((hg26 0 (Or.inl (by decide))).trans ((hg25 0 (Or.inl (by decide))).trans ((hg24 0 (Or.inl (by decide))).trans ((hg23 0 (Or.inl (by decide))).trans ((hg22 0 (Or.inl (by decide))).trans ((hg21 0 (Or.inl (by decide))).trans ((hg20 0 (Or.inl (by decide))).trans ((hg19 0 (Or.inl (by decide))).trans ((hg18 0 (Or.inl (by decide))).trans ((hg17 0 (Or.inl (by decide))).trans ((hg16 0 (Or.inl (by decide))).trans ((hg15 0 (Or.inl (by decide))).trans ((hg14 0 (Or.inl (by decide))).trans ((hg13 0 (Or.inl (by decide))).trans ((hg12 0 (Or.inl (by decide))).trans ((hg11 0 (Or.inl (by decide))).trans ((hg10 0 (Or.inl (by decide))).trans ((hg9 0 (Or.inl (by decide))).trans ((hg8 0 (Or.inl (by decide))).trans ((hg7 0 (Or.inl (by decide))).trans ((hg6 0 (Or.inl (by decide))).trans ((hg5 0 (Or.inl (by decide))).trans ((hg4 0 (Or.inl (by decide))).trans ((hg3 0 (Or.inl (by decide))).trans ((hg2 0 (Or.inl (by decide))).trans ((hg1 0 (Or.inl (by decide))).trans ((hq0 0))))))))))))))))))))))))))))
