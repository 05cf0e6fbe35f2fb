/-! THE LAW: what stands at its start; its start and its end -/
def lwG : Cond := Jvm.Cond.and given_1 narrow_1
theorem all_r {n : Nat} {f : Nat → Bool} (h : (List.range n).all f = true) {i : Nat} (hi : i < n) : f i = true := List.all_eq_true.mp h i (List.mem_range.mpr hi)
def lwN : Bool := nestW.all fun w => decide (w ∈ lw_tbl) && w.onTables
theorem lwN_t : lwN = true := by decide +kernel
theorem inL {C : String} {T : u_T} {n ci : Nat} (h : clOK ci C T n) : ∀ w ∈ u_ws C T n, w ∈ lw_tbl := fun w hw => (List.mem_filter.mp (h.2.1 w hw)).1
def caF (a1 a2 a4 a5 : ClassId) : FieldType → ClassId := fun t => match t with
  | .int => a1
  | .char => a2
  | .object C => if C = "BeamTraining$State" then a4 else a5
  | _ => a1
def nth8 {α : Type} (a0 a1 a2 a3 a4 a5 a6 a7 : α) (c : Nat) : α := match c with
  | 0 => a0
  | 1 => a1
  | 2 => a2
  | 3 => a3
  | 4 => a4
  | 5 => a5
  | 6 => a6
  | _ => a7
def skZ (b L : Nat) : Nat → Nat := fun i => if i = 0 then b else L
theorem lw_bK {p : Program} {s : State} {m : MethodId} {meth : Method} {c : Code} {b L : Nat} {xs : Nat → Int32} (hL : L ≤ 260) (C0 : lw_At p s m meth c b L xs) : ∃ (D : va_G) (cA : FieldType → ClassId), bK D cA s.heap.size (skZ b L) xs s s.heap ∧ aoK s := by
  obtain ⟨-, -, -, -, -, hts, hX, hbl, -, hg⟩ := C0
  obtain ⟨c0, i0, h0⟩ := u_known hts (inL cl_X0) (hts (Cond.instantiable RX0 4) (by decide +kernel))
  obtain ⟨c1, i1, h1⟩ := u_known hts (inL cl_X1) (hts (Cond.instantiable RX1 4) (by decide +kernel))
  obtain ⟨c2, i2, h2⟩ := u_known hts (inL cl_X2) (hts (Cond.instantiable RX2 1) (by decide +kernel))
  obtain ⟨c3, i3, h3⟩ := u_known hts (inL cl_X3) (hts (Cond.instantiable RX3 6) (by decide +kernel))
  obtain ⟨c4, i4, h4⟩ := u_known hts (inL cl_X5) (hts (Cond.instantiable RX5 5) (by decide +kernel))
  obtain ⟨c5, i5, h5⟩ := u_known hts (inL cl_X6) (hts (Cond.instantiable RX6 18) (by decide +kernel))
  obtain ⟨c6, i6, h6⟩ := u_known hts (inL cl_X7) (hts (Cond.instantiable RX7 5) (by decide +kernel))
  obtain ⟨c7, i7, h7⟩ := u_known hts (inL cl_X8) (hts (Cond.instantiable RX8 6) (by decide +kernel))
  obtain ⟨a1, k1, p1, f1, g1, t1⟩ := Cond.arrayClass_spec (hts (Cond.arrayClass .int) (by decide +kernel))
  obtain ⟨a2, k2, p2, f2, g2, t2⟩ := Cond.arrayClass_spec (hts (Cond.arrayClass .char) (by decide +kernel))
  have o4 := hts (Cond.arrayOver (.object "BeamTraining$State")) (by decide +kernel)
  have o5 := hts (Cond.arrayOver (.object "BeamTraining$Path")) (by decide +kernel)
  obtain ⟨p4, a4, k4, f4, -, g4, t4, n4⟩ := Cond.arrayOver_spec o4
  obtain ⟨p5, a5, k5, f5, -, g5, t5, n5⟩ := Cond.arrayOver_spec o5
  have e4 : caF a1 a2 a4 a5 (.object "BeamTraining$State") = a4 := (show (if "BeamTraining$State" = "BeamTraining$State" then a4 else a5) = a4 from if_pos rfl)
  have e5 : caF a1 a2 a4 a5 (.object "BeamTraining$Path") = a5 := (show (if "BeamTraining$Path" = "BeamTraining$State" then a4 else a5) = a5 from if_neg (by decide))
  refine ⟨(nth8 c0 c1 c2 c3 c4 c5 c6 c7, nth8 i0 i1 i2 i3 i4 i5 i6 i7), caF a1 a2 a4 a5, ⟨⟨fun k q hq => ?_, fun k q hq => ?_⟩, fun w hw => ?_, hX, hbl, hL⟩, va_AO.of o4, va_AO.of o5⟩
  · match k, hq with
    | 0, hq => cases hq; exact h0
    | 1, hq => cases hq; exact h1
    | 2, hq => cases hq; exact h2
    | 3, hq => cases hq; exact h3
    | 4, hq => cases hq; exact h4
    | 5, hq => cases hq; exact h5
    | 6, hq => cases hq; exact h6
    | 7, hq => cases hq; exact h7
    | k + 8, hq => cases hq
  · match k, hq with
    | 0, hq => cases hq; exact ⟨fun n z => ⟨(fun k h => by cases h), k1, g1, p1, t1⟩, f1⟩
    | 1, hq => cases hq; exact ⟨fun n z => ⟨(fun k h => by cases h), k2, g2, p2, t2⟩, f2⟩
    | 2, hq => cases hq; exact ⟨fun n z => ⟨(fun k h => by cases h), k1, g1, p1, t1⟩, f1⟩
    | 3, hq =>
      cases hq
      refine ⟨fun n z => ?_, ?_⟩
      · show s.isArrayOf (arrV (caF a1 a2 a4 a5 (.object "BeamTraining$State")) n z) (.object "BeamTraining$State")
        rw [e4]
        exact ⟨(fun k h => by cases h), k4, g4, p4, t4⟩
      · show va_RA s (caF a1 a2 a4 a5 (.object "BeamTraining$State")) (.object "BeamTraining$State")
        rw [e4]
        exact ⟨k4, p4, g4, t4, f4, n4⟩
    | 4, hq =>
      cases hq
      refine ⟨fun n z => ?_, ?_⟩
      · show s.isArrayOf (arrV (caF a1 a2 a4 a5 (.object "BeamTraining$Path")) n z) (.object "BeamTraining$Path")
        rw [e5]
        exact ⟨(fun k h => by cases h), k5, g5, p5, t5⟩
      · show va_RA s (caF a1 a2 a4 a5 (.object "BeamTraining$Path")) (.object "BeamTraining$Path")
        rw [e5]
        exact ⟨k5, p5, g5, t5, f5, n5⟩
    | k + 5, hq => cases hq
  · have z := List.all_eq_true.mp lwN_t w hw
    rw [Bool.and_eq_true] at z
    exact va_Nw.of z.2 (hts w (of_decide_eq_true z.1))
def adI (b : Nat) : Nat → Nat := fun _ => b
def zW9 : Wd := fun _ _ => .int 0
def kwL_1 : Wd := extW zW9 0 (fun k => defaultValue (tyX8 k))
def kwL_2 : Wd := catW kwL_1 1 0 (layF gF8 sF8 idF idF (fun j => j) 0)
def kwL_3 : Wd := extW kwL_2 182 (fun _ => defaultValue .int)
theorem kwL_4 : wEq shZ 183 kwL_3 (layZ gF8 sF8 idF idF (fun j => j) 0 (fun _ => 0)) := eqB_ok (by decide +kernel)
theorem gF_k : ∀ k, k < 55 → gF8 1 k = bgV k := fun k hk => (show gF8 1 k = gA6 1 k from rfl).trans (an_k k hk)
theorem inv_F : invK gF8 0 (fun _ => 8) := (inv_new gF_k).1
theorem SJ_0 : SJ (fun _ => 8) gF8 idF idF (fun j => j) 0 := ⟨fun _ _ => pmK_id, ⟨0, inv_F⟩, by omega, fun _ h => h, fun _ _ _ _ h => h⟩
set_option maxRecDepth 100000 in
set_option maxHeartbeats 8000000 in
theorem whole_start {p : Program} {e : Env} {s : State} {m : MethodId} {below : List Frame} {meth : Method} {c : Code} (l : Launch) (hflags : l.flags = flags0) {b L : Nat} {xs : Nat → Int32} (hL : L ≤ 260) (C0 : lw_At p s m meth c b L xs) : W p l e room_1 s m #[Value.ref b] below meth c s.heap [] 0 0 (lw_Z below #[Value.ref b] s) (entryFrame m ([Value.ref b] : List Value).toArray 21) := by
  obtain ⟨D, cA, hbK, hAO⟩ := lw_bK hL C0
  obtain ⟨hx, hcb, hr, hml, hown, hts, hX, hbl, hlocks, hgv⟩ := C0
  have hl := lv_entry ([Value.ref b]) (n := 21) (Nat.le_of_ble_eq_true rfl)
  rw [lg_entry_eq]
  generalize (lg_sl ([Value.ref b]) ++ List.replicate (21 - (lg_sl ([Value.ref b])).length) Slot.unset).toArray = ls at hl ⊢
  have C : bC p s m #[Value.ref b] meth c D cA s.heap.size (skZ b L) xs (fun q => s.heap.size ≤ q) 21 RL code tb_L_law := ⟨hx, hcb, hml, hown, fun w hw => hts w (List.mem_filter.mp hw).1, hbK, tk_L_law, fun q hq => hq, hlocks⟩
  have hA : ∀ q : Nat, s.heap.size ≤ q → (fun q : Nat => s.heap.size ≤ q) q := fun _ h => h
  suffices K : bV p l e room_1 s m #[Value.ref b] below meth c D cA shZ (fun q => s.heap.size ≤ q) 21 tb_L_law (lw_Z below #[Value.ref b] s) (adI b) 0 0 0 zW9 0 ([(0, .ref 400)] : Lc) [] by
    have k := K s.heap [] ls ⟨fun i j hi => absurd hi (Nat.not_lt_zero i), fun i hi => absurd hi (Nat.not_lt_zero i)⟩ (fun k q h => by cases h) va_S.rf hl
    exact k
  refine bv_newC (N := 0) (w1 := kwL_1) C rfl cl_X8 tyX8_ok (mw (mT_1 11 rfl) rfl) (mw (mT_1 12 rfl) rfl) ini_X8 hA rfl (by decide +kernel) rfl rfl ⟨Nat.le_of_ble_eq_true rfl, Nat.le_of_ble_eq_true rfl⟩ rfl (by decide) (fun ad1 hg1 => ?_)
  refine bv_dup C rfl rfl ?_
  refine bv_callIC (N := 1) (N' := 182) (r0 := 0) (w1 := kwL_2) C rfl ki_X8 ml_L_100 im_X8_init ini_X8 cd_X8_init ok_X8_init rfl ⟨Nat.le_of_ble_eq_true rfl, Nat.le_of_ble_eq_true rfl⟩ ⟨Nat.le_of_ble_eq_true rfl, Nat.le_of_ble_eq_true rfl⟩ hA hAO (by decide) (by decide) (by decide +kernel) (by decide +kernel) (by decide +kernel) (by decide +kernel) rfl rfl (Nat.le_of_ble_eq_true rfl) rfl (by decide) (fun ad2 hg2 => ?_)
  refine bv_astore_n (n := 1) C rfl (by decide) ?_
  refine bv_iconst (n := 4) C rfl ?_
  refine bv_newaC (N := 182) (n := 4) (t0 := 0) (ty := .int) (w1 := kwL_3) C rfl rfl (Or.inl rfl) rfl (mw (mT_1 55 rfl) rfl) hA rfl rfl (by decide) (by decide +kernel) rfl rfl ⟨Nat.le_of_ble_eq_true rfl, Nat.le_of_ble_eq_true rfl⟩ rfl (by decide) (fun ad3 hg3 => ?_)
  refine bv_astore_n (n := 2) C rfl (by decide) ?_
  refine bv_w kwL_4 ?_
  have had : ad3 400 = skZ b L 0 := (hg3 400 (Or.inr (by omega))).trans ((hg2 400 (Or.inr (by omega))).trans (hg1 400 (Or.inr (by omega))))
  refine bv_sub (L' := [(0, .ref 400), (1, .ref 0), (2, .ref 182)]) [2, 1, 0] rfl ?_
  have hR : 11 ≤ room_1.frames ∧ 442 ≤ room_1.locals := ⟨Nat.le_of_ble_eq_true rfl, Nat.le_of_ble_eq_true rfl⟩
  refine sg_S C had hR ⟨Nat.le_of_ble_eq_true rfl, Nat.le_of_ble_eq_true rfl⟩ (fun S g2 sv2 σ2 τ2 ρ2 c2 ev2 hT => ?_) SJ_0 inv_F (gF_k 3 (by omega)) (gF_k 4 (by omega)) (gF_k 15 (by omega)) (gF_k 35 (by omega))
  refine lt_loop C had hR ⟨Nat.le_of_ble_eq_true rfl, Nat.le_of_ble_eq_true rfl⟩ (fun t g sv σ τ ρ c9 ev => ?_) 12 0 g2 sv2 σ2 τ2 ρ2 c2 ev2 rfl hT
  intro H locs ls ha hP hS hl
  have hdg := (tk_L_law 480 _ rfl rfl).1
  refine va_forget (fun q hq => hS.2.2 q hq) ?_
  refine W.widen (k := 600000) (n := 7302250) (Nat.le_of_ble_eq_true rfl) (Nat.le_of_ble_eq_true rfl) ?_
  exact W.base (lw_ret (Drawn.sameBut.refl s.drawn lw_cs) hx hcb hr hlocks hdg)
