/-! CLOSED WORLDS: what is to be checked of them is computed -/
def eqB (N : Nat) (sh : Sh) (w w' : Wd) : Bool := (List.range N).all fun i => (List.range (szE (sh i))).all fun k => decide (w i k = w' i k)
def rxB (N : Nat) (sh : Sh) (w : Wd) : Bool := (List.range N).all fun i => (List.range (szE (sh i))).all fun k => match w i k with
  | .ref r => Nat.blt r N
  | _ => true
theorem eqB_ok {N : Nat} {sh : Sh} {w w' : Wd} (h : eqB N sh w w' = true) : wEq sh N w w' := by
  intro i hi k hk
  have h1 := List.all_eq_true.mp h i (List.mem_range.mpr hi)
  have h2 := List.all_eq_true.mp h1 k (List.mem_range.mpr hk)
  exact of_decide_eq_true h2
theorem rxB_ok {N : Nat} {sh : Sh} {w : Wd} (h : rxB N sh w = true) : rfL N sh w := by
  intro i hi k hk r hr
  have h1 := List.all_eq_true.mp h i (List.mem_range.mpr hi)
  have h2 := List.all_eq_true.mp h1 k (List.mem_range.mpr hk)
  rw [hr] at h2
  exact Nat.blt_eq.mp h2
theorem def_nr (t : FieldType) (r : Nat) : defaultValue t ≠ .ref r := by
  cases t <;> intro h <;> cases h
def extW (w : Wd) (N : Nat) (f : Nat → Value) : Wd := fun i => if i = N then f else w i
theorem extW_e {w : Wd} {N : Nat} {sh : Sh} {f : Nat → Value} : wEq sh N w (extW w N f) := by
  intro i hi k hk
  unfold extW
  rw [if_neg (by omega)]
theorem extW_N {w : Wd} {N k : Nat} {f : Nat → Value} : extW w N f N k = f k := by
  unfold extW
  rw [if_pos rfl]
def catW (w : Wd) (N r0 : Nat) (w' : Wd) : Wd := fun i k => if i = r0 then cvv (ioC N r0) (w' 0 k) else if i < N then w i k else cvv (ioC N r0) (w' (i - N + 1) k)
theorem catW_a {w w' : Wd} {N r0 o k : Nat} (hr : r0 < N) : catW w N r0 w' (ioC N r0 o) k = cvv (ioC N r0) (w' o k) := by
  unfold catW
  by_cases h : o = 0
  · have e : ioC N r0 o = r0 := if_pos h
    rw [e, if_pos rfl, h]
  · have e : ioC N r0 o = N + o - 1 := if_neg h
    rw [e, if_neg (by omega), if_neg (by omega), show N + o - 1 - N + 1 = o by omega]
theorem catW_b {w w' : Wd} {N r0 x k : Nat} (h : x < N) (hx : x ≠ r0) : catW w N r0 w' x k = w x k := (if_neg hx).trans (if_pos h)
def shB9 (N r0 N' : Nat) (sh sh' : Sh) : Bool := (List.range N').all fun o => decide (sh (ioC N r0 o) = sh' o)
theorem shB9_ok {N r0 N' : Nat} {sh sh' : Sh} (h : shB9 N r0 N' sh sh' = true) : ∀ o, o < N' → sh (ioC N r0 o) = sh' o := fun o ho => of_decide_eq_true (List.all_eq_true.mp h o (List.mem_range.mpr ho))
def rcB (r0 : Nat) (sh' : Sh) (w w0 : Wd) : Bool := (List.range (szE (sh' 0))).all fun k => decide (w r0 k = w0 0 k) && match w0 0 k with
  | .ref _ => false
  | _ => true
theorem rcB_ok {r0 : Nat} {sh' : Sh} {w w0 : Wd} (h : rcB r0 sh' w w0 = true) : (∀ k, k < szE (sh' 0) → w r0 k = w0 0 k) ∧ ∀ k, k < szE (sh' 0) → ∀ x : Nat, w0 0 k ≠ .ref x := by
  refine ⟨fun k hk => ?_, fun k hk x e => ?_⟩
  · have h1 := List.all_eq_true.mp h k (List.mem_range.mpr hk)
    exact of_decide_eq_true (Bool.and_eq_true_iff.mp h1).1
  · have h1 := (Bool.and_eq_true_iff.mp (List.all_eq_true.mp h k (List.mem_range.mpr hk))).2
    rw [e] at h1
    cases h1
section GD
variable {p : Program} {l : Launch} {e : Env} {R : Room} {s : State} {m : MethodId} {args : Array Value} {below : List Frame} {meth : Method} {c : Code} {D : va_G} {cA : FieldType → ClassId} {z0 : Nat} {SK : Nat → Nat} {SV : Nat → Int32} {sh : Sh} {A : Nat → Prop} {nL : Nat} {own : String} {cc : ByteArray} {tb : Tb} {Q : State → Prop} {ad : Nat → Nat} {N cells slots : Nat} {w w1 : Wd} {i j pc : Nat} {L L1 : Lc} {st st1 r : List Value}
theorem bv_newC (C : bC p s m args meth c D cA z0 SK SV A nL own cc tb) {Cn : String} {T : u_T} {n ci idx : Nat} {ty : Nat → FieldType} (ht : tb[i]? = some (pc, .new idx)) (hc : clOK ci Cn T n) (hty : ∀ k, k < n → parseFieldDescriptor (T k).2.2.1 = some (ty k)) (hlk : Cond.classLink own idx Cn ∈ ALLW) (hin : Cond.instantiable Cn n ∈ ALLW) (hini : Cond.initialized Cn ∈ ALLW) (hA : ∀ q, s.heap.size ≤ q → A q) (hsh : sh N = .inr (ci, n)) (hr : rxB N sh w = true) (hL : vsL N (L.map fun q => q.2) = true) (hst : vsL N r = true) (hR : cells + 1 ≤ R.cells ∧ slots + n ≤ R.slots) (e1 : extW w N (fun k => defaultValue (ty k)) = w1)
    (h200 : N < 200) (kk : ∀ ad' : Nat → Nat, (∀ o, (o < N ∨ 200 ≤ o) → ad' o = ad o) → bV p l e R s m args below meth c D cA sh A nL tb Q ad' (N + 1) (cells + 1) (slots + n) w1 (i + 1) L (.ref N :: r)) : bV p l e R s m args below meth c D cA sh A nL tb Q ad N cells slots w i L r := by
  subst e1
  exact bv_new C ht hc hty hlk hin hini hA hsh (fun k _ => (extW_N (w := w) (N := N) (k := k) (f := fun k => defaultValue (ty k))).symm) extW_e (fun k _ x => by rw [extW_N]; exact def_nr _ _) (rxB_ok hr) hL hst hR h200 kk
theorem bv_newaC (C : bC p s m args meth c D cA z0 SK SV A nL own cc tb) {atype : ArrayType} {ty : FieldType} {n : Nat} {x : Int32} {t0 : Nat} (ht : tb[i]? = some (pc, .newarray atype)) (hty : newarray.typeOf atype = ty) (h3 : ty = .int ∨ ty = .char ∨ ty = .float) (hq : (tysOf cA)[t0]? = some (cA ty, ty)) (hlk : Cond.arrayClass (newarray.typeOf atype) ∈ ALLW) (hA : ∀ q, s.heap.size ≤ q → A q) (hsh : sh N = .inl (ty, n)) (hx : x = nI n) (hn2 : n < 100000) (hr : rxB N sh w = true) (hL : vsL N (L.map fun q => q.2) = true) (hst : vsL N r = true) (hR : cells + 1 ≤ R.cells ∧ slots + n ≤ R.slots) (e1 : extW w N (fun _ => defaultValue ty) = w1)
    (h200 : N < 200) (kk : ∀ ad' : Nat → Nat, (∀ o, (o < N ∨ 200 ≤ o) → ad' o = ad o) → bV p l e R s m args below meth c D cA sh A nL tb Q ad' (N + 1) (cells + 1) (slots + n) w1 (i + 1) L (.ref N :: r)) : bV p l e R s m args below meth c D cA sh A nL tb Q ad N cells slots w i L (.int x :: r) := by
  subst e1
  exact bv_newa C ht hty h3 hq hlk hA hsh hx hn2 (fun k _ => extW_N) extW_e (rxB_ok hr) hL hst hR h200 kk
theorem bv_newqC (C : bC p s m args meth c D cA z0 SK SV A nL own cc tb) {Cn : String} {n idx : Nat} {x : Int32} {t0 : Nat} (ht : tb[i]? = some (pc, .anewarray idx)) (hq : (tysOf cA)[t0]? = some (cA (.object Cn), .object Cn)) (hlk : Cond.classLink own idx Cn ∈ ALLW) (hov : va_AO Cn s) (hA : ∀ q, s.heap.size ≤ q → A q) (hsh : sh N = .inl (.object Cn, n)) (hx : x = nI n) (hn2 : n < 100000) (hr : rxB N sh w = true) (hL : vsL N (L.map fun q => q.2) = true) (hst : vsL N r = true) (hR : cells + 1 ≤ R.cells ∧ slots + n ≤ R.slots) (e1 : extW w N (fun _ => .null) = w1)
    (h200 : N < 200) (kk : ∀ ad' : Nat → Nat, (∀ o, (o < N ∨ 200 ≤ o) → ad' o = ad o) → bV p l e R s m args below meth c D cA sh A nL tb Q ad' (N + 1) (cells + 1) (slots + n) w1 (i + 1) L (.ref N :: r)) : bV p l e R s m args below meth c D cA sh A nL tb Q ad N cells slots w i L (.int x :: r) := by
  subst e1
  exact bv_newq C ht hq hlk hov hA hsh hx hn2 (fun k _ => extW_N) extW_e (rxB_ok hr) hL hst hR h200 kk
theorem bv_callIC (C : bC p s m args meth c D cA z0 SK SV A nL own cc tb) {y : MethodName} {bytes : ByteArray} {maxL d mc ms idx N' r0 : Nat} {sh' : Sh} {w0 w' : Wd} (ht : tb[i]? = some (pc, .invokespecial idx)) (hM : bCN l D cA z0 SK SV y bytes maxL d mc ms sh' w0 N' w')
    (hlk : Cond.methodLink own idx y ∈ ALLW) (him : Cond.instanceMethod y ∈ ALLW) (hini : Cond.initialized y.cls ∈ ALLW) (hcd : Cond.code y bytes maxL none ∈ ALLW) (hok : callOK y 0) (hy1 : y.name = "<init>") (hR : d + 1 ≤ R.frames ∧ 8 + (maxL + 11) + 41 * d ≤ R.locals) (hR2 : cells + mc ≤ R.cells ∧ slots + ms ≤ R.slots) (hA : ∀ q, s.heap.size ≤ q → A q) (hAO : aoK s)
    (hr0 : r0 < N) (hN' : 0 < N') (hrc : rcB r0 sh' w w0 = true) (hshN : shB9 N r0 N' sh sh' = true) (hrf : rxB N sh w = true) (hrf' : rxB N' sh' w' = true) (hL : vsL N (L.map fun q => q.2) = true) (hst : vsL N r = true) (hcat : (r.map fun v => v.category).sum ≤ 8) (e1 : catW w N r0 w' = w1)
    (h200 : N + N' ≤ 200) (kk : ∀ ad' : Nat → Nat, (∀ o, (o < N ∨ 200 ≤ o) → ad' o = ad o) → bV p l e R s m args below meth c D cA sh A nL tb Q ad' (N + N' - 1) (cells + mc) (slots + ms) w1 (i + 1) L r) : bV p l e R s m args below meth c D cA sh A nL tb Q ad N cells slots w i L (.ref r0 :: r) := by
  subst e1
  have h := shB9_ok hshN
  have h0 : sh r0 = sh' 0 := by have z := h 0 hN'; rw [show ioC N r0 0 = r0 from if_pos rfl] at z; exact z
  exact bv_callI C ht hM hlk him hini hcd hok hy1 hR hR2 hA hAO hr0 hN' h0 (rcB_ok hrc).1 (rcB_ok hrc).2 h (fun o ho k hk => catW_a hr0) (fun x hx hxr k hk => catW_b hx hxr) (rxB_ok hrf) (rxB_ok hrf') hL hst hcat h200 kk
theorem bv_hE (C : bC p s m args meth c D cA z0 SK SV A nL own cc tb) (k : aD (fun q => z0 ≤ q) ad N → bV p l e R s m args below meth c D cA sh A nL tb Q ad N cells slots w i L st) : bV p l e R s m args below meth c D cA sh A nL tb Q ad N cells slots w i L st :=
  fun H locs ls ha => k ⟨ha.1, fun i hi => C.2.2.2.2.2.2.2.1 _ (ha.2 i hi)⟩ H locs ls ha
end GD
/-! A STATION: 0 itself, 1 its table -/
def shS : Sh := fun i => match i with
  | 0 => .inr (6, 5)
  | _ => .inl (.int, 16)
def layS (g : Nat → Nat → Int32) : Wd := fun i k => match i with
  | 0 => (match k with
    | 4 => .ref 1
    | k => .int (g 1 (15 + k)))
  | _ => .int (g 1 (19 + k))
theorem lb_up22 {g : Nat → Nat → Int32} {σ τ : Nat → Nat} {o k a b : Nat} {x : Int32} (hσ : pmK σ τ) (ho : o < 26) (hk : k < szE (shB o)) (hi : iB o k = true) (hp : pB τ o k = (a, b)) : wEq shB 22 (up2 (layB g σ τ) o k (.int x)) (layB (ug g a b x) σ τ) := fun i h1 q h2 => lb_up hσ ho hk hi hp i (by omega) q h2
set_option maxRecDepth 100000 in
set_option maxHeartbeats 8000000 in
theorem k2_clearTable_1 {l : Launch} {D : va_G} {cA : FieldType → ClassId} {z0 : Nat} {SK : Nat → Nat} {SV : Nat → Int32} {ad : Nat → Nat} (hE : aD (fun q => z0 ≤ q) ad 22) (g : Nat → Nat → Int32) (σ τ : Nat → Nat) (hσ : pmK σ τ)  : bF l D cA z0 SK SV ad shB 22 yX7_clearTable cX7_clearTable 2 none 0 [.ref 1] (layB g σ τ) none (layB (fillG g 19 16 (-100000)) σ τ) := by
  refine bCT_intro (tb := tb_X7_clearTable) (own := RX7) hE pn_X7 rfl tk_X7_clearTable rfl (Nat.le_of_ble_eq_true rfl) ?_
  intro p e s0 m args below meth c C hr
  refine bv_blk C frk_X7 csk_X7 2 2 rfl (L1 := ([(1, .int (0)), (0, .ref 1)] : Lc)) (st1 := ([] : List Value)) (w1 := (layB g σ τ)) (by rfl) ?_
  have lp_a : ∀ (n_a k_a : Nat), 0 ≤ k_a → k_a + n_a = 16 → bV p l e (bR 0) s0 m args below meth c D cA shB (adA ad 22) 2 tb_X7_clearTable (MQ below (bQ D cA ad shB 22 (fun r w1 => r = none ∧ w1 = (layB (fillG g 19 16 (-100000)) σ τ))) args s0 0 0 (adA ad 22)) ad 22 0 0 (layB (fillG g 19 k_a (-100000)) σ τ) 2 ([(1, .int (nI k_a)), (0, .ref 1)] : Lc) ([] : List Value) := by
    intro n_a
    induction n_a with
    | zero =>
      intro k_a hs_a hk_a
      have hkB_a : k_a = 16 := by omega
      rw [hkB_a]
      refine bv_blk C frk_X7 csk_X7 2 4 rfl (L1 := ([(1, .int (nI 16)), (0, .ref 1)] : Lc)) (st1 := ([.int (16), .int (nI 16)] : List Value)) (w1 := (layB (fillG g 19 16 (-100000)) σ τ)) (by rfl) ?_
      refine bv_icmp_ge (j := 12) C rfl rfl (fun _ => ?_) (fun h => absurd (nI_le (a := 16) (b := 16) (by omega) (by omega)) h)
      exact bv_vret C rfl hr ⟨by (rfl), by (rfl)⟩
    | succ n_a ih =>
      intro k_a hs_a hk_a
      refine bv_blk C frk_X7 csk_X7 2 4 rfl (L1 := ([(1, .int (nI k_a)), (0, .ref 1)] : Lc)) (st1 := ([.int (16), .int (nI k_a)] : List Value)) (w1 := (layB (fillG g 19 k_a (-100000)) σ τ)) (by rfl) ?_
      refine bv_icmp_ge (j := 12) C rfl rfl (fun h => absurd h (nI_ge (a := k_a) (b := 16) (by omega) (by omega))) (fun _ => ?_)
      refine bv_blk C frk_X7 csk_X7 4 9 rfl (L1 := ([(1, .int (nI k_a)), (0, .ref 1)] : Lc)) (st1 := ([.int (-100000), .int (nI k_a), .ref 2] : List Value)) (w1 := (layB (fillG g 19 k_a (-100000)) σ τ)) (by rfl) ?_
      refine bv_iast C rfl rfl (by decide) (j := k_a) (by exact rfl) (by first | decide | omega) (by decide) ?_
      refine bv_w (lb_up22 (o := 2) (k := k_a) (a := 1) (b := (19 + k_a)) hσ (by decide) (show k_a < 16 by first | decide | omega) (by rfl) (by rfl)) ?_
      refine bv_blk C frk_X7 csk_X7 1 11 rfl (L1 := ([(1, .int ((nI k_a) + Int32.ofInt 1)), (0, .ref 1)] : Lc)) (st1 := ([] : List Value)) (w1 := (layB (ug (fillG g 19 k_a (-100000)) 1 (19 + k_a) (-100000)) σ τ)) (by rfl) ?_
      rw [show ((nI k_a) + Int32.ofInt 1) = nI (k_a + 1) from (nIi rfl)]
      refine bv_goto (j := 2) C rfl rfl ?_
      refine bv_weq (show (layB (ug (fillG g 19 k_a (-100000)) 1 (19 + k_a) (-100000)) σ τ) = (layB (fillG g 19 (k_a + 1) (-100000)) σ τ) from by exact congrArg (fun x => layB x σ τ) (fill_s g 19 k_a (-100000))) ?_
      refine bv_sub [0, 1] (by rfl) ?_
      exact ih (k_a + 1) (by omega) (by omega)
  refine bv_weq (show (layB g σ τ) = (layB (fillG g 19 0 (-100000)) σ τ) from by rw [fill_0]) ?_
  refine bv_sub [0, 1] (by rfl) ?_
  exact lp_a (16 - 0) 0 (Nat.le_refl _) (by omega)
set_option maxRecDepth 100000 in
set_option maxHeartbeats 8000000 in
theorem k2_clearTable_3 {l : Launch} {D : va_G} {cA : FieldType → ClassId} {z0 : Nat} {SK : Nat → Nat} {SV : Nat → Int32} {ad : Nat → Nat} (hE : aD (fun q => z0 ≤ q) ad 22) (g : Nat → Nat → Int32) (σ τ : Nat → Nat) (hσ : pmK σ τ)  : bF l D cA z0 SK SV ad shB 22 yX7_clearTable cX7_clearTable 2 none 0 [.ref 3] (layB g σ τ) none (layB (fillG g 39 16 (-100000)) σ τ) := by
  refine bCT_intro (tb := tb_X7_clearTable) (own := RX7) hE pn_X7 rfl tk_X7_clearTable rfl (Nat.le_of_ble_eq_true rfl) ?_
  intro p e s0 m args below meth c C hr
  refine bv_blk C frk_X7 csk_X7 2 2 rfl (L1 := ([(1, .int (0)), (0, .ref 3)] : Lc)) (st1 := ([] : List Value)) (w1 := (layB g σ τ)) (by rfl) ?_
  have lp_a : ∀ (n_a k_a : Nat), 0 ≤ k_a → k_a + n_a = 16 → bV p l e (bR 0) s0 m args below meth c D cA shB (adA ad 22) 2 tb_X7_clearTable (MQ below (bQ D cA ad shB 22 (fun r w1 => r = none ∧ w1 = (layB (fillG g 39 16 (-100000)) σ τ))) args s0 0 0 (adA ad 22)) ad 22 0 0 (layB (fillG g 39 k_a (-100000)) σ τ) 2 ([(1, .int (nI k_a)), (0, .ref 3)] : Lc) ([] : List Value) := by
    intro n_a
    induction n_a with
    | zero =>
      intro k_a hs_a hk_a
      have hkB_a : k_a = 16 := by omega
      rw [hkB_a]
      refine bv_blk C frk_X7 csk_X7 2 4 rfl (L1 := ([(1, .int (nI 16)), (0, .ref 3)] : Lc)) (st1 := ([.int (16), .int (nI 16)] : List Value)) (w1 := (layB (fillG g 39 16 (-100000)) σ τ)) (by rfl) ?_
      refine bv_icmp_ge (j := 12) C rfl rfl (fun _ => ?_) (fun h => absurd (nI_le (a := 16) (b := 16) (by omega) (by omega)) h)
      exact bv_vret C rfl hr ⟨by (rfl), by (rfl)⟩
    | succ n_a ih =>
      intro k_a hs_a hk_a
      refine bv_blk C frk_X7 csk_X7 2 4 rfl (L1 := ([(1, .int (nI k_a)), (0, .ref 3)] : Lc)) (st1 := ([.int (16), .int (nI k_a)] : List Value)) (w1 := (layB (fillG g 39 k_a (-100000)) σ τ)) (by rfl) ?_
      refine bv_icmp_ge (j := 12) C rfl rfl (fun h => absurd h (nI_ge (a := k_a) (b := 16) (by omega) (by omega))) (fun _ => ?_)
      refine bv_blk C frk_X7 csk_X7 4 9 rfl (L1 := ([(1, .int (nI k_a)), (0, .ref 3)] : Lc)) (st1 := ([.int (-100000), .int (nI k_a), .ref 4] : List Value)) (w1 := (layB (fillG g 39 k_a (-100000)) σ τ)) (by rfl) ?_
      refine bv_iast C rfl rfl (by decide) (j := k_a) (by exact rfl) (by first | decide | omega) (by decide) ?_
      refine bv_w (lb_up22 (o := 4) (k := k_a) (a := 1) (b := (39 + k_a)) hσ (by decide) (show k_a < 16 by first | decide | omega) (by rfl) (by rfl)) ?_
      refine bv_blk C frk_X7 csk_X7 1 11 rfl (L1 := ([(1, .int ((nI k_a) + Int32.ofInt 1)), (0, .ref 3)] : Lc)) (st1 := ([] : List Value)) (w1 := (layB (ug (fillG g 39 k_a (-100000)) 1 (39 + k_a) (-100000)) σ τ)) (by rfl) ?_
      rw [show ((nI k_a) + Int32.ofInt 1) = nI (k_a + 1) from (nIi rfl)]
      refine bv_goto (j := 2) C rfl rfl ?_
      refine bv_weq (show (layB (ug (fillG g 39 k_a (-100000)) 1 (39 + k_a) (-100000)) σ τ) = (layB (fillG g 39 (k_a + 1) (-100000)) σ τ) from by exact congrArg (fun x => layB x σ τ) (fill_s g 39 k_a (-100000))) ?_
      refine bv_sub [0, 1] (by rfl) ?_
      exact ih (k_a + 1) (by omega) (by omega)
  refine bv_weq (show (layB g σ τ) = (layB (fillG g 39 0 (-100000)) σ τ) from by rw [fill_0]) ?_
  refine bv_sub [0, 1] (by rfl) ?_
  exact lp_a (16 - 0) 0 (Nat.le_refl _) (by omega)
set_option maxRecDepth 100000 in
set_option maxHeartbeats 8000000 in
theorem k2_setUp_1 {l : Launch} {D : va_G} {cA : FieldType → ClassId} {z0 : Nat} {SK : Nat → Nat} {SV : Nat → Int32} {ad : Nat → Nat} (hE : aD (fun q => z0 ≤ q) ad 22) (g : Nat → Nat → Int32) (σ τ : Nat → Nat) (hσ : pmK σ τ) (x y z : Int32) : bF l D cA z0 SK SV ad shB 22 yX7_setUp cX7_setUp 4 none 1 [.ref 1, .int x, .int y, .int z] (layB g σ τ) none (layB (fillG (ug (ug (ug (ug g 1 15 x) 1 16 y) 1 17 z) 1 18 (-100000)) 19 16 (-100000)) σ τ) := by
  refine bCT_intro (tb := tb_X7_setUp) (own := RX7) hE pn_X7 rfl tk_X7_setUp rfl (Nat.le_of_ble_eq_true rfl) ?_
  intro p e s0 m args below meth c C hr
  refine bv_blk C frk_X7 csk_X7 3 3 rfl (L1 := ([(0, .ref 1), (1, .int x), (2, .int y), (3, .int z)] : Lc)) (st1 := ([] : List Value)) (w1 := up2 (layB g σ τ) 1 0 (.int x)) (by rfl) ?_
  refine bv_w (lb_up22 (o := 1) (k := 0) (a := 1) (b := 15) hσ (by decide) (by decide) (by rfl) (by rfl)) ?_
  refine bv_blk C frk_X7 csk_X7 3 6 rfl (L1 := ([(0, .ref 1), (1, .int x), (2, .int y), (3, .int z)] : Lc)) (st1 := ([] : List Value)) (w1 := up2 (layB (ug g 1 15 x) σ τ) 1 1 (.int y)) (by rfl) ?_
  refine bv_w (lb_up22 (o := 1) (k := 1) (a := 1) (b := 16) hσ (by decide) (by decide) (by rfl) (by rfl)) ?_
  refine bv_blk C frk_X7 csk_X7 3 9 rfl (L1 := ([(0, .ref 1), (1, .int x), (2, .int y), (3, .int z)] : Lc)) (st1 := ([] : List Value)) (w1 := up2 (layB (ug (ug g 1 15 x) 1 16 y) σ τ) 1 2 (.int z)) (by rfl) ?_
  refine bv_w (lb_up22 (o := 1) (k := 2) (a := 1) (b := 17) hσ (by decide) (by decide) (by rfl) (by rfl)) ?_
  refine bv_blk C frk_X7 csk_X7 3 12 rfl (L1 := ([(0, .ref 1), (1, .int x), (2, .int y), (3, .int z)] : Lc)) (st1 := ([] : List Value)) (w1 := up2 (layB (ug (ug (ug g 1 15 x) 1 16 y) 1 17 z) σ τ) 1 3 (.int (-100000))) (by rfl) ?_
  refine bv_w (lb_up22 (o := 1) (k := 3) (a := 1) (b := 18) hσ (by decide) (by decide) (by rfl) (by rfl)) ?_
  refine bv_blk C frk_X7 csk_X7 1 13 rfl (L1 := ([(0, .ref 1), (1, .int x), (2, .int y), (3, .int z)] : Lc)) (st1 := ([.ref 1] : List Value)) (w1 := (layB (ug (ug (ug (ug g 1 15 x) 1 16 y) 1 17 z) 1 18 (-100000)) σ τ)) (by rfl) ?_
  refine bv_fV0 C rfl (k2_clearTable_1 hE (ug (ug (ug (ug g 1 15 x) 1 16 y) 1 17 z) 1 18 (-100000)) σ τ hσ) ml_X7_29 im_X7_clearTable sel_X7_clearTable ini_X7 cd_X7_clearTable ok_X7_clearTable rfl ⟨Nat.le_of_ble_eq_true rfl, Nat.le_of_ble_eq_true rfl⟩ ⟨Nat.zero_le _, Nat.zero_le _⟩ (by decide) rfl rfl rfl (rest := ([] : List Value)) rfl (Nat.le_of_ble_eq_true rfl) ?_
  exact bv_vret C rfl hr ⟨by (rfl), by (rfl)⟩
set_option maxRecDepth 100000 in
set_option maxHeartbeats 8000000 in
theorem k2_setUp_3 {l : Launch} {D : va_G} {cA : FieldType → ClassId} {z0 : Nat} {SK : Nat → Nat} {SV : Nat → Int32} {ad : Nat → Nat} (hE : aD (fun q => z0 ≤ q) ad 22) (g : Nat → Nat → Int32) (σ τ : Nat → Nat) (hσ : pmK σ τ) (x y z : Int32) : bF l D cA z0 SK SV ad shB 22 yX7_setUp cX7_setUp 4 none 1 [.ref 3, .int x, .int y, .int z] (layB g σ τ) none (layB (fillG (ug (ug (ug (ug g 1 35 x) 1 36 y) 1 37 z) 1 38 (-100000)) 39 16 (-100000)) σ τ) := by
  refine bCT_intro (tb := tb_X7_setUp) (own := RX7) hE pn_X7 rfl tk_X7_setUp rfl (Nat.le_of_ble_eq_true rfl) ?_
  intro p e s0 m args below meth c C hr
  refine bv_blk C frk_X7 csk_X7 3 3 rfl (L1 := ([(0, .ref 3), (1, .int x), (2, .int y), (3, .int z)] : Lc)) (st1 := ([] : List Value)) (w1 := up2 (layB g σ τ) 3 0 (.int x)) (by rfl) ?_
  refine bv_w (lb_up22 (o := 3) (k := 0) (a := 1) (b := 35) hσ (by decide) (by decide) (by rfl) (by rfl)) ?_
  refine bv_blk C frk_X7 csk_X7 3 6 rfl (L1 := ([(0, .ref 3), (1, .int x), (2, .int y), (3, .int z)] : Lc)) (st1 := ([] : List Value)) (w1 := up2 (layB (ug g 1 35 x) σ τ) 3 1 (.int y)) (by rfl) ?_
  refine bv_w (lb_up22 (o := 3) (k := 1) (a := 1) (b := 36) hσ (by decide) (by decide) (by rfl) (by rfl)) ?_
  refine bv_blk C frk_X7 csk_X7 3 9 rfl (L1 := ([(0, .ref 3), (1, .int x), (2, .int y), (3, .int z)] : Lc)) (st1 := ([] : List Value)) (w1 := up2 (layB (ug (ug g 1 35 x) 1 36 y) σ τ) 3 2 (.int z)) (by rfl) ?_
  refine bv_w (lb_up22 (o := 3) (k := 2) (a := 1) (b := 37) hσ (by decide) (by decide) (by rfl) (by rfl)) ?_
  refine bv_blk C frk_X7 csk_X7 3 12 rfl (L1 := ([(0, .ref 3), (1, .int x), (2, .int y), (3, .int z)] : Lc)) (st1 := ([] : List Value)) (w1 := up2 (layB (ug (ug (ug g 1 35 x) 1 36 y) 1 37 z) σ τ) 3 3 (.int (-100000))) (by rfl) ?_
  refine bv_w (lb_up22 (o := 3) (k := 3) (a := 1) (b := 38) hσ (by decide) (by decide) (by rfl) (by rfl)) ?_
  refine bv_blk C frk_X7 csk_X7 1 13 rfl (L1 := ([(0, .ref 3), (1, .int x), (2, .int y), (3, .int z)] : Lc)) (st1 := ([.ref 3] : List Value)) (w1 := (layB (ug (ug (ug (ug g 1 35 x) 1 36 y) 1 37 z) 1 38 (-100000)) σ τ)) (by rfl) ?_
  refine bv_fV0 C rfl (k2_clearTable_3 hE (ug (ug (ug (ug g 1 35 x) 1 36 y) 1 37 z) 1 38 (-100000)) σ τ hσ) ml_X7_29 im_X7_clearTable sel_X7_clearTable ini_X7 cd_X7_clearTable ok_X7_clearTable rfl ⟨Nat.le_of_ble_eq_true rfl, Nat.le_of_ble_eq_true rfl⟩ ⟨Nat.zero_le _, Nat.zero_le _⟩ (by decide) rfl rfl rfl (rest := ([] : List Value)) rfl (Nat.le_of_ble_eq_true rfl) ?_
  exact bv_vret C rfl hr ⟨by (rfl), by (rfl)⟩
set_option maxRecDepth 100000 in
set_option maxHeartbeats 8000000 in
theorem k2_startAnew {l : Launch} {D : va_G} {cA : FieldType → ClassId} {z0 : Nat} {SK : Nat → Nat} {SV : Nat → Int32} {ad : Nat → Nat} (hE : aD (fun q => z0 ≤ q) ad 22) (g : Nat → Nat → Int32) (σ τ : Nat → Nat) (hσ : pmK σ τ)  : bF l D cA z0 SK SV ad shB 22 yX6_startAnew cX6_startAnew 1 none 2 [.ref 0] (layB g σ τ) none (layB (anewG g) σ τ) := by
  refine bCT_intro (tb := tb_X6_startAnew) (own := RX6) hE pn_X6 rfl tk_X6_startAnew rfl (Nat.le_of_ble_eq_true rfl) ?_
  intro p e s0 m args below meth c C hr
  refine bv_blk C frk_X6 csk_X6 5 5 rfl (L1 := ([(0, .ref 0)] : Lc)) (st1 := ([.int (40), .int (0), .int (8), .ref 1] : List Value)) (w1 := (layB g σ τ)) (by rfl) ?_
  refine bv_fV0 C rfl (k2_setUp_1 hE g σ τ hσ (8) (0) (40)) ml_X6_45 im_X7_setUp sel_X7_setUp ini_X7 cd_X7_setUp ok_X7_setUp rfl ⟨Nat.le_of_ble_eq_true rfl, Nat.le_of_ble_eq_true rfl⟩ ⟨Nat.zero_le _, Nat.zero_le _⟩ (by decide) rfl rfl rfl (rest := ([] : List Value)) rfl (Nat.le_of_ble_eq_true rfl) ?_
  refine bv_blk C frk_X6 csk_X6 5 11 rfl (L1 := ([(0, .ref 0)] : Lc)) (st1 := ([.int (40), .int (0), .int (8), .ref 3] : List Value)) (w1 := (layB (fillG (ug (ug (ug (ug g 1 15 (8)) 1 16 (0)) 1 17 (40)) 1 18 (-100000)) 19 16 (-100000)) σ τ)) (by rfl) ?_
  refine bv_fV0 C rfl (k2_setUp_3 hE (fillG (ug (ug (ug (ug g 1 15 (8)) 1 16 (0)) 1 17 (40)) 1 18 (-100000)) 19 16 (-100000)) σ τ hσ (8) (0) (40)) ml_X6_45 im_X7_setUp sel_X7_setUp ini_X7 cd_X7_setUp ok_X7_setUp rfl ⟨Nat.le_of_ble_eq_true rfl, Nat.le_of_ble_eq_true rfl⟩ ⟨Nat.zero_le _, Nat.zero_le _⟩ (by decide) rfl rfl rfl (rest := ([] : List Value)) rfl (Nat.le_of_ble_eq_true rfl) ?_
  refine bv_blk C frk_X6 csk_X6 3 15 rfl (L1 := ([(0, .ref 0)] : Lc)) (st1 := ([] : List Value)) (w1 := up2 (layB (fillG (ug (ug (ug (ug (fillG (ug (ug (ug (ug g 1 15 (8)) 1 16 (0)) 1 17 (40)) 1 18 (-100000)) 19 16 (-100000)) 1 35 (8)) 1 36 (0)) 1 37 (40)) 1 38 (-100000)) 39 16 (-100000)) σ τ) 0 3 (.int (0))) (by rfl) ?_
  refine bv_w (lb_up22 (o := 0) (k := 3) (a := 1) (b := 12) hσ (by decide) (by decide) (by rfl) (by rfl)) ?_
  refine bv_blk C frk_X6 csk_X6 4 19 rfl (L1 := ([(0, .ref 0)] : Lc)) (st1 := ([] : List Value)) (w1 := up2 (layB (ug (fillG (ug (ug (ug (ug (fillG (ug (ug (ug (ug g 1 15 (8)) 1 16 (0)) 1 17 (40)) 1 18 (-100000)) 19 16 (-100000)) 1 35 (8)) 1 36 (0)) 1 37 (40)) 1 38 (-100000)) 39 16 (-100000)) 1 12 (0)) σ τ) 14 3 (.int (0))) (by rfl) ?_
  refine bv_w (lb_up22 (o := 14) (k := 3) (a := 1) (b := 13) hσ (by decide) (by decide) (by rfl) (by rfl)) ?_
  refine bv_blk C frk_X6 csk_X6 4 23 rfl (L1 := ([(0, .ref 0)] : Lc)) (st1 := ([] : List Value)) (w1 := up2 (layB (ug (ug (fillG (ug (ug (ug (ug (fillG (ug (ug (ug (ug g 1 15 (8)) 1 16 (0)) 1 17 (40)) 1 18 (-100000)) 19 16 (-100000)) 1 35 (8)) 1 36 (0)) 1 37 (40)) 1 38 (-100000)) 39 16 (-100000)) 1 12 (0)) 1 13 (0)) σ τ) 18 3 (.int (0))) (by rfl) ?_
  refine bv_w (lb_up22 (o := 18) (k := 3) (a := 1) (b := 14) hσ (by decide) (by decide) (by rfl) (by rfl)) ?_
  refine bv_blk C frk_X6 csk_X6 2 25 rfl (L1 := ([(0, .ref 0)] : Lc)) (st1 := ([.int (0), .ref 0] : List Value)) (w1 := (layB (ug (ug (ug (fillG (ug (ug (ug (ug (fillG (ug (ug (ug (ug g 1 15 (8)) 1 16 (0)) 1 17 (40)) 1 18 (-100000)) 19 16 (-100000)) 1 35 (8)) 1 36 (0)) 1 37 (40)) 1 38 (-100000)) 39 16 (-100000)) 1 12 (0)) 1 13 (0)) 1 14 (0)) σ τ)) (by rfl) ?_
  refine bv_put (ty := .boolean) C rfl cl_X6 fl_X6_57 (by decide) rfl (by decide +kernel) (nar_01 (by decide) _) rfl rfl (by decide) (by decide) ?_
  refine bv_w (lb_up22 (o := 0) (k := 6) (a := 1) (b := 0) hσ (by decide) (by decide) (by rfl) (by rfl)) ?_
  refine bv_blk C frk_X6 csk_X6 3 29 rfl (L1 := ([(0, .ref 0)] : Lc)) (st1 := ([] : List Value)) (w1 := up2 (layB (ug (ug (ug (ug (fillG (ug (ug (ug (ug (fillG (ug (ug (ug (ug g 1 15 (8)) 1 16 (0)) 1 17 (40)) 1 18 (-100000)) 19 16 (-100000)) 1 35 (8)) 1 36 (0)) 1 37 (40)) 1 38 (-100000)) 39 16 (-100000)) 1 12 (0)) 1 13 (0)) 1 14 (0)) 1 0 (0)) σ τ) 0 7 (.int (0))) (by rfl) ?_
  refine bv_w (lb_up22 (o := 0) (k := 7) (a := 1) (b := 1) hσ (by decide) (by decide) (by rfl) (by rfl)) ?_
  refine bv_blk C frk_X6 csk_X6 3 32 rfl (L1 := ([(0, .ref 0)] : Lc)) (st1 := ([] : List Value)) (w1 := up2 (layB (ug (ug (ug (ug (ug (fillG (ug (ug (ug (ug (fillG (ug (ug (ug (ug g 1 15 (8)) 1 16 (0)) 1 17 (40)) 1 18 (-100000)) 19 16 (-100000)) 1 35 (8)) 1 36 (0)) 1 37 (40)) 1 38 (-100000)) 39 16 (-100000)) 1 12 (0)) 1 13 (0)) 1 14 (0)) 1 0 (0)) 1 1 (0)) σ τ) 0 8 (.int (0))) (by rfl) ?_
  refine bv_w (lb_up22 (o := 0) (k := 8) (a := 1) (b := 2) hσ (by decide) (by decide) (by rfl) (by rfl)) ?_
  refine bv_blk C frk_X6 csk_X6 3 35 rfl (L1 := ([(0, .ref 0)] : Lc)) (st1 := ([] : List Value)) (w1 := up2 (layB (ug (ug (ug (ug (ug (ug (fillG (ug (ug (ug (ug (fillG (ug (ug (ug (ug g 1 15 (8)) 1 16 (0)) 1 17 (40)) 1 18 (-100000)) 19 16 (-100000)) 1 35 (8)) 1 36 (0)) 1 37 (40)) 1 38 (-100000)) 39 16 (-100000)) 1 12 (0)) 1 13 (0)) 1 14 (0)) 1 0 (0)) 1 1 (0)) 1 2 (0)) σ τ) 0 9 (.int (0))) (by rfl) ?_
  refine bv_w (lb_up22 (o := 0) (k := 9) (a := 1) (b := 3) hσ (by decide) (by decide) (by rfl) (by rfl)) ?_
  refine bv_blk C frk_X6 csk_X6 3 38 rfl (L1 := ([(0, .ref 0)] : Lc)) (st1 := ([] : List Value)) (w1 := up2 (layB (ug (ug (ug (ug (ug (ug (ug (fillG (ug (ug (ug (ug (fillG (ug (ug (ug (ug g 1 15 (8)) 1 16 (0)) 1 17 (40)) 1 18 (-100000)) 19 16 (-100000)) 1 35 (8)) 1 36 (0)) 1 37 (40)) 1 38 (-100000)) 39 16 (-100000)) 1 12 (0)) 1 13 (0)) 1 14 (0)) 1 0 (0)) 1 1 (0)) 1 2 (0)) 1 3 (0)) σ τ) 0 10 (.int (0))) (by rfl) ?_
  refine bv_w (lb_up22 (o := 0) (k := 10) (a := 1) (b := 4) hσ (by decide) (by decide) (by rfl) (by rfl)) ?_
  refine bv_blk C frk_X6 csk_X6 3 41 rfl (L1 := ([(0, .ref 0)] : Lc)) (st1 := ([] : List Value)) (w1 := up2 (layB (ug (ug (ug (ug (ug (ug (ug (ug (fillG (ug (ug (ug (ug (fillG (ug (ug (ug (ug g 1 15 (8)) 1 16 (0)) 1 17 (40)) 1 18 (-100000)) 19 16 (-100000)) 1 35 (8)) 1 36 (0)) 1 37 (40)) 1 38 (-100000)) 39 16 (-100000)) 1 12 (0)) 1 13 (0)) 1 14 (0)) 1 0 (0)) 1 1 (0)) 1 2 (0)) 1 3 (0)) 1 4 (0)) σ τ) 0 11 (.int (1))) (by rfl) ?_
  refine bv_w (lb_up22 (o := 0) (k := 11) (a := 1) (b := 5) hσ (by decide) (by decide) (by rfl) (by rfl)) ?_
  refine bv_blk C frk_X6 csk_X6 3 44 rfl (L1 := ([(0, .ref 0)] : Lc)) (st1 := ([] : List Value)) (w1 := up2 (layB (ug (ug (ug (ug (ug (ug (ug (ug (ug (fillG (ug (ug (ug (ug (fillG (ug (ug (ug (ug g 1 15 (8)) 1 16 (0)) 1 17 (40)) 1 18 (-100000)) 19 16 (-100000)) 1 35 (8)) 1 36 (0)) 1 37 (40)) 1 38 (-100000)) 39 16 (-100000)) 1 12 (0)) 1 13 (0)) 1 14 (0)) 1 0 (0)) 1 1 (0)) 1 2 (0)) 1 3 (0)) 1 4 (0)) 1 5 (1)) σ τ) 0 12 (.int (0))) (by rfl) ?_
  refine bv_w (lb_up22 (o := 0) (k := 12) (a := 1) (b := 6) hσ (by decide) (by decide) (by rfl) (by rfl)) ?_
  refine bv_blk C frk_X6 csk_X6 3 47 rfl (L1 := ([(0, .ref 0)] : Lc)) (st1 := ([] : List Value)) (w1 := up2 (layB (ug (ug (ug (ug (ug (ug (ug (ug (ug (ug (fillG (ug (ug (ug (ug (fillG (ug (ug (ug (ug g 1 15 (8)) 1 16 (0)) 1 17 (40)) 1 18 (-100000)) 19 16 (-100000)) 1 35 (8)) 1 36 (0)) 1 37 (40)) 1 38 (-100000)) 39 16 (-100000)) 1 12 (0)) 1 13 (0)) 1 14 (0)) 1 0 (0)) 1 1 (0)) 1 2 (0)) 1 3 (0)) 1 4 (0)) 1 5 (1)) 1 6 (0)) σ τ) 0 13 (.int (0))) (by rfl) ?_
  refine bv_w (lb_up22 (o := 0) (k := 13) (a := 1) (b := 7) hσ (by decide) (by decide) (by rfl) (by rfl)) ?_
  refine bv_blk C frk_X6 csk_X6 2 49 rfl (L1 := ([(0, .ref 0)] : Lc)) (st1 := ([.int (0), .ref 0] : List Value)) (w1 := (layB (ug (ug (ug (ug (ug (ug (ug (ug (ug (ug (ug (fillG (ug (ug (ug (ug (fillG (ug (ug (ug (ug g 1 15 (8)) 1 16 (0)) 1 17 (40)) 1 18 (-100000)) 19 16 (-100000)) 1 35 (8)) 1 36 (0)) 1 37 (40)) 1 38 (-100000)) 39 16 (-100000)) 1 12 (0)) 1 13 (0)) 1 14 (0)) 1 0 (0)) 1 1 (0)) 1 2 (0)) 1 3 (0)) 1 4 (0)) 1 5 (1)) 1 6 (0)) 1 7 (0)) σ τ)) (by rfl) ?_
  refine bv_put (ty := .boolean) C rfl cl_X6 fl_X6_82 (by decide) rfl (by decide +kernel) (nar_01 (by decide) _) rfl rfl (by decide) (by decide) ?_
  refine bv_w (lb_up22 (o := 0) (k := 14) (a := 1) (b := 8) hσ (by decide) (by decide) (by rfl) (by rfl)) ?_
  refine bv_blk C frk_X6 csk_X6 3 53 rfl (L1 := ([(0, .ref 0)] : Lc)) (st1 := ([] : List Value)) (w1 := up2 (layB (ug (ug (ug (ug (ug (ug (ug (ug (ug (ug (ug (ug (fillG (ug (ug (ug (ug (fillG (ug (ug (ug (ug g 1 15 (8)) 1 16 (0)) 1 17 (40)) 1 18 (-100000)) 19 16 (-100000)) 1 35 (8)) 1 36 (0)) 1 37 (40)) 1 38 (-100000)) 39 16 (-100000)) 1 12 (0)) 1 13 (0)) 1 14 (0)) 1 0 (0)) 1 1 (0)) 1 2 (0)) 1 3 (0)) 1 4 (0)) 1 5 (1)) 1 6 (0)) 1 7 (0)) 1 8 (0)) σ τ) 0 15 (.int (4))) (by rfl) ?_
  refine bv_w (lb_up22 (o := 0) (k := 15) (a := 1) (b := 9) hσ (by decide) (by decide) (by rfl) (by rfl)) ?_
  refine bv_blk C frk_X6 csk_X6 3 56 rfl (L1 := ([(0, .ref 0)] : Lc)) (st1 := ([] : List Value)) (w1 := up2 (layB (ug (ug (ug (ug (ug (ug (ug (ug (ug (ug (ug (ug (ug (fillG (ug (ug (ug (ug (fillG (ug (ug (ug (ug g 1 15 (8)) 1 16 (0)) 1 17 (40)) 1 18 (-100000)) 19 16 (-100000)) 1 35 (8)) 1 36 (0)) 1 37 (40)) 1 38 (-100000)) 39 16 (-100000)) 1 12 (0)) 1 13 (0)) 1 14 (0)) 1 0 (0)) 1 1 (0)) 1 2 (0)) 1 3 (0)) 1 4 (0)) 1 5 (1)) 1 6 (0)) 1 7 (0)) 1 8 (0)) 1 9 (4)) σ τ) 0 16 (.int (2))) (by rfl) ?_
  refine bv_w (lb_up22 (o := 0) (k := 16) (a := 1) (b := 10) hσ (by decide) (by decide) (by rfl) (by rfl)) ?_
  refine bv_blk C frk_X6 csk_X6 2 58 rfl (L1 := ([(0, .ref 0)] : Lc)) (st1 := ([.int (0), .ref 0] : List Value)) (w1 := (layB (ug (ug (ug (ug (ug (ug (ug (ug (ug (ug (ug (ug (ug (ug (fillG (ug (ug (ug (ug (fillG (ug (ug (ug (ug g 1 15 (8)) 1 16 (0)) 1 17 (40)) 1 18 (-100000)) 19 16 (-100000)) 1 35 (8)) 1 36 (0)) 1 37 (40)) 1 38 (-100000)) 39 16 (-100000)) 1 12 (0)) 1 13 (0)) 1 14 (0)) 1 0 (0)) 1 1 (0)) 1 2 (0)) 1 3 (0)) 1 4 (0)) 1 5 (1)) 1 6 (0)) 1 7 (0)) 1 8 (0)) 1 9 (4)) 1 10 (2)) σ τ)) (by rfl) ?_
  refine bv_put (ty := .boolean) C rfl cl_X6 fl_X6_91 (by decide) rfl (by decide +kernel) (nar_01 (by decide) _) rfl rfl (by decide) (by decide) ?_
  refine bv_w (lb_up22 (o := 0) (k := 17) (a := 1) (b := 11) hσ (by decide) (by decide) (by rfl) (by rfl)) ?_
  exact bv_vret C rfl hr ⟨by (rfl), by (rfl)⟩
