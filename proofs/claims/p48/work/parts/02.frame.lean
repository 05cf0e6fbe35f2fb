/-! WORLDS: an object has a number; Wd says what stands in each of its places; references in a world are numbers. -/
abbrev Wd : Type := Nat → Nat → Value
abbrev Sh : Type := Nat → (FieldType × Nat) ⊕ (Nat × Nat)
abbrev Tb : Type := List (Nat × Instr)
abbrev Lc : Type := List (Nat × Value)
def szE (x : (FieldType × Nat) ⊕ (Nat × Nat)) : Nat := match x with
  | .inl a => a.2
  | .inr b => b.2
def cvv (ad : Nat → Nat) (v : Value) : Value := match v with
  | .ref a => .ref (ad a)
  | v => v
def vInt (v : Value) : Int32 := match v with
  | .int x => x
  | _ => 0
def vLng (v : Value) : Int64 := match v with
  | .long x => x
  | _ => 0
def vFlt (v : Value) : UInt32 := match v with
  | .float x => x
  | _ => 0
def vRfn (ad : Nat → Nat) (v : Value) : Option Nat := match v with
  | .ref a => some (ad a)
  | _ => none
def up2 (w : Wd) (i k : Nat) (v : Value) : Wd := fun a b => if a = i then (if b = k then v else w a b) else w a b
def arE (ad : Nat → Nat) (ty : FieldType) (f : Nat → Value) : (Nat → Int32) ⊕ (Nat → Int64) ⊕ (Nat → UInt32) ⊕ (Nat → UInt64) ⊕ (Nat → Option Nat) := match ty with
  | .object _ => .inr (.inr (.inr (.inr fun k => vRfn ad (f k))))
  | .float => .inr (.inr (.inl fun k => vFlt (f k)))
  | _ => .inl fun k => vInt (f k)
def cel (cA : FieldType → ClassId) (ad : Nat → Nat) (sh : Sh) (w : Wd) (i : Nat) : va_E := match sh i with
  | .inr b => .inr (b.1, (List.range b.2).map fun k => cvv ad (w i k))
  | .inl a => .inl (cA a.1, (a.2, arE ad a.1 (w i)))
def wls (cA : FieldType → ClassId) (ad : Nat → Nat) (sh : Sh) (w : Wd) (N : Nat) : va_W := (List.range N).map fun i => (ad i, cel cA ad sh w i)
def aD (A : Nat → Prop) (ad : Nat → Nat) (N : Nat) : Prop := (∀ i j, i < N → j < N → ad i = ad j → i = j) ∧ ∀ i, i < N → A (ad i)
theorem wls_get {cA : FieldType → ClassId} {ad : Nat → Nat} {sh : Sh} {w : Wd} {N i : Nat} (h : i < N) : (wls cA ad sh w N)[i]? = some (ad i, cel cA ad sh w i) := by
  simp [wls, h]
theorem wls_inv {cA : FieldType → ClassId} {ad : Nat → Nat} {sh : Sh} {w : Wd} {N k : Nat} {q : Nat × va_E} (h : (wls cA ad sh w N)[k]? = some q) : k < N ∧ q = (ad k, cel cA ad sh w k) := by
  by_cases hk : k < N
  · rw [wls_get hk] at h
    exact ⟨hk, (Option.some.inj h).symm⟩
  · rw [List.getElem?_eq_none (by simp [wls]; omega)] at h
    cases h
theorem aD.vaD {cA : FieldType → ClassId} {ad : Nat → Nat} {sh : Sh} {w : Wd} {N : Nat} {A : Nat → Prop} (h : aD A ad N) : va_D A (wls cA ad sh w N) := by
  refine ⟨fun i j p q hp hq e => ?_, fun k q hq => ?_⟩
  · obtain ⟨h1, rfl⟩ := wls_inv hp
    obtain ⟨h2, rfl⟩ := wls_inv hq
    exact h.1 i j h1 h2 e
  · obtain ⟨h1, rfl⟩ := wls_inv hq
    exact h.2 k h1
theorem cel_inr {cA : FieldType → ClassId} {ad : Nat → Nat} {sh : Sh} {w : Wd} {i ci n : Nat} (h : sh i = .inr (ci, n)) : cel cA ad sh w i = .inr (ci, (List.range n).map fun k => cvv ad (w i k)) := by
  simp [cel, h]
theorem cel_inl {cA : FieldType → ClassId} {ad : Nat → Nat} {sh : Sh} {w : Wd} {i n : Nat} {ty : FieldType} (h : sh i = .inl (ty, n)) : cel cA ad sh w i = .inl (cA ty, (n, arE ad ty (w i))) := by
  simp [cel, h]
theorem cel_ne {cA : FieldType → ClassId} {ad : Nat → Nat} {sh : Sh} {w : Wd} {i j k : Nat} {v : Value} (h : j ≠ i) : cel cA ad sh (up2 w i k v) j = cel cA ad sh w j := by
  have e : up2 w i k v j = w j := by
    funext b
    simp [up2, h]
  unfold cel
  rw [e]
theorem wls_set {cA : FieldType → ClassId} {ad : Nat → Nat} {sh : Sh} {w : Wd} {N i k : Nat} {v : Value} {e : va_E} (hi : i < N) (he : cel cA ad sh (up2 w i k v) i = e) : (wls cA ad sh w N).set i (ad i, e) = wls cA ad sh (up2 w i k v) N := by
  apply List.ext_getElem?
  intro j
  by_cases hj : j < N
  · rw [wls_get hj]
    by_cases h : j = i
    · subst h
      rw [List.getElem?_set_self (by simp [wls]; exact hj), he]
    · rw [List.getElem?_set_ne (Ne.symm h), wls_get hj, cel_ne h]
  · rw [List.getElem?_eq_none (by simp [wls]; omega), List.getElem?_eq_none (by simp [wls]; omega)]
theorem fs_get {ad : Nat → Nat} {f : Nat → Value} {n k : Nat} (h : k < n) : ((List.range n).map fun k => cvv ad (f k))[k]? = some (cvv ad (f k)) := by
  simp [h]
theorem cel_put {cA : FieldType → ClassId} {ad : Nat → Nat} {sh : Sh} {w : Wd} {i ci n k : Nat} {v : Value} (h : sh i = .inr (ci, n)) : cel cA ad sh (up2 w i k v) i = .inr (ci, ((List.range n).map fun k => cvv ad (w i k)).set k (cvv ad v)) := by
  rw [cel_inr h]
  have e : ((List.range n).map fun b => cvv ad (up2 w i k v i b)) = ((List.range n).map fun k => cvv ad (w i k)).set k (cvv ad v) := by
    apply List.ext_getElem?
    intro j
    by_cases hj : j < n
    · by_cases hk : j = k
      · subst hk
        rw [List.getElem?_set_self (by simp; exact hj)]
        simp [hj, up2]
      · rw [List.getElem?_set_ne (Ne.symm hk)]
        simp [hj, up2, hk]
    · rw [List.getElem?_eq_none (by simp; omega), List.getElem?_eq_none (by simp; omega)]
  rw [e]
theorem cel_ast {cA : FieldType → ClassId} {ad : Nat → Nat} {sh : Sh} {w : Wd} {i n k : Nat} {x : Int32} {ty : FieldType} (h : sh i = .inl (ty, n)) (hty : ty = .int ∨ ty = .char) : cel cA ad sh (up2 w i k (.int x)) i = .inl (cA ty, (n, .inl (upd (fun k => vInt (w i k)) k x))) := by
  rw [cel_inl h]
  have e : (fun b => vInt (up2 w i k (.int x) i b)) = upd (fun k => vInt (w i k)) k x := by
    funext b
    by_cases hb : b = k <;> simp [up2, upd, hb, vInt]
  rcases hty with rfl | rfl <;> simp only [arE, e]
theorem cel_astF {cA : FieldType → ClassId} {ad : Nat → Nat} {sh : Sh} {w : Wd} {i n k : Nat} {x : UInt32} (h : sh i = .inl (.float, n)) : cel cA ad sh (up2 w i k (.float x)) i = .inl (cA .float, (n, .inr (.inr (.inl (vf_upd (fun k => vFlt (w i k)) k x))))) := by
  rw [cel_inl h]
  have e : (fun b => vFlt (up2 w i k (.float x) i b)) = vf_upd (fun k => vFlt (w i k)) k x := by
    funext b
    by_cases hb : b = k <;> simp [up2, vf_upd, hb, vFlt]
  simp only [arE, e]
theorem cel_astR {cA : FieldType → ClassId} {ad : Nat → Nat} {sh : Sh} {w : Wd} {i n k x : Nat} {C : String} (h : sh i = .inl (.object C, n)) : cel cA ad sh (up2 w i k (.ref x)) i = .inl (cA (.object C), (n, .inr (.inr (.inr (.inr (va_up (fun k => vRfn ad (w i k)) k (some (ad x)))))))) := by
  rw [cel_inl h]
  have e : (fun b => vRfn ad (up2 w i k (.ref x) i b)) = va_up (fun k => vRfn ad (w i k)) k (some (ad x)) := by
    funext b
    by_cases hb : b = k <;> simp [up2, va_up, hb, vRfn]
  simp only [arE, e]
/-- two worlds that agree in all places that there are -/
def wEq (sh : Sh) (N : Nat) (w w' : Wd) : Prop := ∀ i, i < N → ∀ k, k < szE (sh i) → w i k = w' i k
/-! LOCALS -/
def bget (L : Lc) (i : Nat) : Option Value := (L.find? fun q => q.1 == i).map fun q => q.2
def bset (L : Lc) (i : Nat) (v : Value) : Lc := (i, v) :: L.filter fun q => !(q.1 == i) && !(q.1 + 1 == i && q.2.category == 2)
def bset2 (L : Lc) (i : Nat) (v : Value) : Lc := (i, v) :: L.filter fun q => !(q.1 == i) && (!(q.1 == i + 1) && !(q.1 + 1 == i && q.2.category == 2))
abbrev lcv (ad : Nat → Nat) (L : Lc) : Lc := L.map fun q => (q.1, cvv ad q.2)
theorem cvv_cat (ad : Nat → Nat) (v : Value) : (cvv ad v).category = v.category := by cases v <;> rfl
theorem bget_at {ls : Array Slot} {nL : Nat} {ad : Nat → Nat} {L : Lc} {i : Nat} {v : Value} (h : lv_has ls nL (lcv ad L)) (hg : bget L i = some v) : ls[i]? = some (.val (cvv ad v)) := by
  obtain ⟨q, h1, rfl⟩ := Option.map_eq_some_iff.mp hg
  have h2 := List.find?_some h1
  have h3 := List.mem_of_find?_eq_some h1
  have h4 : q.1 = i := by simpa using h2
  have h5 := h.2.2 (q.1, cvv ad q.2) (List.mem_map.mpr ⟨q, h3, rfl⟩)
  rw [← h4]
  exact h5
theorem bset_cv (ad : Nat → Nat) (L : Lc) (i : Nat) (v : Value) : (i, cvv ad v) :: (lcv ad L).filter (fun q => !(q.1 == i) && !(q.1 + 1 == i && q.2.category == 2)) = lcv ad (bset L i v) := by
  simp only [bset, lcv, List.map_cons, List.filter_map]
  congr 2
  apply List.filter_congr
  intro q _
  simp [cvv_cat]
theorem bset2_cv (ad : Nat → Nat) (L : Lc) (i : Nat) (v : Value) : (i, cvv ad v) :: (lcv ad L).filter (fun q => !(q.1 == i) && (!(q.1 == i + 1) && !(q.1 + 1 == i && q.2.category == 2))) = lcv ad (bset2 L i v) := by
  simp only [bset2, lcv, List.map_cons, List.filter_map]
  congr 2
  apply List.filter_congr
  intro q _
  simp [cvv_cat]
/-! CODE: a table of instructions; a place in it is the program counter -/
def ilen (x : Instr) : Nat := match x with
  | .bipush _ => 2
  | .sipush _ => 3
  | .ldc _ => 2
  | .ldc_w _ => 3
  | .ldc2_w _ => 3
  | .iload _ => 2
  | .lload _ => 2
  | .fload _ => 2
  | .aload _ => 2
  | .istore _ => 2
  | .lstore _ => 2
  | .fstore _ => 2
  | .astore _ => 2
  | .iinc _ _ => 3
  | .goto _ => 3
  | .ifCond _ _ => 3
  | .if_icmp _ _ => 3
  | .getfield _ => 3
  | .putfield _ => 3
  | .getstatic _ => 3
  | .invokevirtual _ => 3
  | .invokespecial _ => 3
  | .invokestatic _ => 3
  | .new _ => 3
  | .anewarray _ => 3
  | .newarray _ => 2
  | _ => 1
def isSw (x : Instr) : Bool := match x with
  | .tableswitch _ _ _ _ => true
  | _ => false
def pcAt (tb : Tb) (i : Nat) : Nat := match tb[i]? with
  | some t => t.1
  | none => match tb[i - 1]? with
    | some t => t.1 + ilen t.2
    | none => 0
def tbOK (cc : ByteArray) (tb : Tb) : Prop := ∀ i t, tb[i]? = some t → isSw t.2 = false → decode cc t.1 = .ok (t.2, ilen t.2) ∧ ∀ t', tb[i + 1]? = some t' → t'.1 = t.1 + ilen t.2
def tbC (cc : ByteArray) : Tb → Bool
  | [] => true
  | t :: tl => (isSw t.2 || (decide (decode cc t.1 = .ok (t.2, ilen t.2)) && (match tl with
    | [] => true
    | t' :: _ => t'.1 == t.1 + ilen t.2))) && tbC cc tl
theorem tbC_ok (cc : ByteArray) : ∀ tb : Tb, tbC cc tb = true → tbOK cc tb
  | [], _, i, t, h, _ => by simp at h
  | u :: tl, hc, i, t, h, hs => by
    simp only [tbC, Bool.and_eq_true, Bool.or_eq_true] at hc
    cases i with
    | zero =>
      rw [List.getElem?_cons_zero] at h
      cases h
      rcases hc.1 with h1 | h1
      · rw [h1] at hs; cases hs
      · refine ⟨of_decide_eq_true h1.1, fun t' ht' => ?_⟩
        rw [List.getElem?_cons_succ] at ht'
        cases tl with
        | nil => simp at ht'
        | cons x xs =>
          rw [List.getElem?_cons_zero] at ht'
          cases ht'
          simpa using h1.2
    | succ i =>
      rw [List.getElem?_cons_succ] at h
      exact tbC_ok cc tl hc.2 i t h hs
theorem pcAt_of {tb : Tb} {i pc : Nat} {x : Instr} (h : tb[i]? = some (pc, x)) : pcAt tb i = pc := by
  simp [pcAt, h]
theorem pcAt_nx {cc : ByteArray} {tb : Tb} {i pc : Nat} {x : Instr} (ho : tbOK cc tb) (h : tb[i]? = some (pc, x)) (hs : isSw x = false) : pcAt tb (i + 1) = pc + ilen x := by
  cases h1 : tb[i + 1]? with
  | none => simp [pcAt, h1, h]
  | some t => simp [pcAt, h1, (ho i _ h hs).2 t h1]
/-! WHAT HOLDS IN EVERY METHOD -/
def nestW : List Cond := [.methodLinkNest RX0 29 yX8_mix RX8, .methodLinkNest RX1 28 yX8_mix RX8, .methodLinkNest RX3 34 yX8_mix RX8, .methodLinkNest RX3 34 yX8_mix RX8, .methodLinkNest RX6 234 yX8_bit RX8, .methodLinkNest RX6 238 yX8_mix RX8, .methodLinkNest RX7 50 yX8_mix RX8]
def tysOf (cA : FieldType → ClassId) : List (ClassId × FieldType) := [(cA .int, .int), (cA .char, .char), (cA .int, .int), (cA (.object "BeamTraining$State"), .object "BeamTraining$State"), (cA (.object "BeamTraining$Path"), .object "BeamTraining$Path")]
/-- the classes, the nest words, the script (it lies ahead of z0, where nothing is written) -/
def bK (D : va_G) (cA : FieldType → ClassId) (z0 : Nat) (SK : Nat → Nat) (SV : Nat → Int32) (U : State) (H : Heap) : Prop :=
  va_K D vwCl (tysOf cA) U ∧ (∀ w ∈ nestW, va_Nw w U) ∧ va_X (SK 0) (SK 1) SV U H ∧ SK 0 < z0 ∧ SK 1 ≤ 260
theorem va_Nw.warmNest {w : Cond} (hw : w ∈ nestW) {s U : State} (hW : s.WarmedH U.vm) (h : va_Nw w s) : va_Nw w U := by
  simp only [nestW, List.mem_cons, List.not_mem_nil, or_false] at hw
  rcases hw with rfl | rfl | rfl | rfl | rfl | rfl | rfl <;> exact va_Nw.warmM hW h
theorem va_Nw.sameNest {w : Cond} (hw : w ∈ nestW) {s U : State} (hv : s.vm = U.vm) (h : va_Nw w s) : va_Nw w U := by
  simp only [nestW, List.mem_cons, List.not_mem_nil, or_false] at hw
  rcases hw with rfl | rfl | rfl | rfl | rfl | rfl | rfl <;> exact va_Nw.same rfl hv h
theorem bK.warm {D : va_G} {cA : FieldType → ClassId} {z0 : Nat} {SK : Nat → Nat} {SV : Nat → Int32} {s U : State} {H : Heap} (hW : s.WarmedH U.vm) (h : bK D cA z0 SK SV s H) : bK D cA z0 SK SV U H :=
  ⟨va_K.moved hW.alike h.1, fun w hw => va_Nw.warmNest hw hW (h.2.1 w hw), h.2.2.1.moved hW.alike, h.2.2.2⟩
theorem bK.same {D : va_G} {cA : FieldType → ClassId} {z0 : Nat} {SK : Nat → Nat} {SV : Nat → Int32} {s U : State} {H : Heap} (hv : s.vm = U.vm) (h : bK D cA z0 SK SV s H) : bK D cA z0 SK SV U H :=
  ⟨va_K.moved (by rw [hv]; exact Vm.Alike.refl _) h.1, fun w hw => va_Nw.sameNest hw hv (h.2.1 w hw), h.2.2.1.moved (by rw [hv]; exact Vm.Alike.refl _), h.2.2.2⟩
theorem bK.kept {D : va_G} {cA : FieldType → ClassId} {z0 : Nat} {SK : Nat → Nat} {SV : Nat → Int32} {s : State} {H H1 : Heap} (hq : ∀ a : Nat, a < H.size → ¬ z0 ≤ a → H1[a]? = H[a]?) (h : bK D cA z0 SK SV s H) : bK D cA z0 SK SV s H1 :=
  ⟨h.1, h.2.1, h.2.2.1.kept (by obtain ⟨scr, h1, -⟩ := h.2.2.1; exact hq _ (Array.getElem?_eq_some_iff.mp h1).1 (Nat.not_le.mpr h.2.2.2.1)), h.2.2.2⟩

section BV
variable {p : Program} {l : Launch} {e : Env} {R : Room} {s : State} {m : MethodId} {args : Array Value} {below : List Frame} {meth : Method} {c : Code} {D : va_G} {cA : FieldType → ClassId} {z0 : Nat} {SK : Nat → Nat} {SV : Nat → Int32} {sh : Sh} {A : Nat → Prop} {nL : Nat} {own : String} {cc : ByteArray} {tb : Tb} {Q : State → Prop} {ad : Nat → Nat} {N cells slots : Nat} {w w' : Wd} {i j pc : Nat} {L : Lc} {st r : List Value}
/-- what is fixed while a method runs -/
def bC (p : Program) (s : State) (m : MethodId) (args : Array Value) (meth : Method) (c : Code) (D : va_G) (cA : FieldType → ClassId) (z0 : Nat) (SK : Nat → Nat) (SV : Nat → Int32) (A : Nat → Prop) (nL : Nat) (own : String) (cc : ByteArray) (tb : Tb) : Prop :=
  p.tables.exec = Jvm.exec ∧ c.code = cc ∧ c.maxLocals = nL ∧ s.vm.findClass own = some m.cls ∧ (∀ w ∈ ALLW, w.before args s = true) ∧ bK D cA z0 SK SV s s.heap ∧ tbOK cc tb ∧ (∀ q, A q → z0 ≤ q) ∧ meth.locks = false
def bV (p : Program) (l : Launch) (e : Env) (R : Room) (s : State) (m : MethodId) (args : Array Value) (below : List Frame) (meth : Method) (c : Code) (D : va_G) (cA : FieldType → ClassId) (sh : Sh) (A : Nat → Prop) (nL : Nat) (tb : Tb) (Q : State → Prop) (ad : Nat → Nat) (N cells slots : Nat) (w : Wd) (i : Nat) (L : Lc) (st : List Value) : Prop :=
  ∀ (H : Heap) (locs : List Loc) (ls : Array Slot), aD A ad N → va_P D vwCl (wls cA ad sh w N) H → va_S A s.heap H locs → lv_has ls nL (lcv ad L) → W p l e R s m args below meth c H locs cells slots Q (F0 m (pcAt tb i) ls (st.map (cvv ad)))

theorem bv_iconst (C : bC p s m args meth c D cA z0 SK SV A nL own cc tb) {n : Int} (ht : tb[i]? = some (pc, .iconst n)) (k : bV p l e R s m args below meth c D cA sh A nL tb Q ad N cells slots w (i + 1) L (.int (Int32.ofInt n) :: st)) : bV p l e R s m args below meth c D cA sh A nL tb Q ad N cells slots w i L (st) := by
  intro H locs ls ha hP hS hl
  have hn := pcAt_nx C.2.2.2.2.2.2.1 ht rfl
  have hd := (C.2.2.2.2.2.2.1 i _ ht rfl).1
  rw [pcAt_of ht]
  have k := k H locs ls ha hP hS hl
  rw [hn] at k
  exact lv_iconst C.1 C.2.1 hd rfl k
theorem bv_bipush (C : bC p s m args meth c D cA z0 SK SV A nL own cc tb) {n : Int} (ht : tb[i]? = some (pc, .bipush n)) (k : bV p l e R s m args below meth c D cA sh A nL tb Q ad N cells slots w (i + 1) L (.int (Int8.ofInt n).toInt32 :: st)) : bV p l e R s m args below meth c D cA sh A nL tb Q ad N cells slots w i L (st) := by
  intro H locs ls ha hP hS hl
  have hn := pcAt_nx C.2.2.2.2.2.2.1 ht rfl
  have hd := (C.2.2.2.2.2.2.1 i _ ht rfl).1
  rw [pcAt_of ht]
  have k := k H locs ls ha hP hS hl
  rw [hn] at k
  exact lv_bipush C.1 C.2.1 hd rfl k
theorem bv_sipush (C : bC p s m args meth c D cA z0 SK SV A nL own cc tb) {n : Int} (ht : tb[i]? = some (pc, .sipush n)) (k : bV p l e R s m args below meth c D cA sh A nL tb Q ad N cells slots w (i + 1) L (.int (Int16.ofInt n).toInt32 :: st)) : bV p l e R s m args below meth c D cA sh A nL tb Q ad N cells slots w i L (st) := by
  intro H locs ls ha hP hS hl
  have hn := pcAt_nx C.2.2.2.2.2.2.1 ht rfl
  have hd := (C.2.2.2.2.2.2.1 i _ ht rfl).1
  rw [pcAt_of ht]
  have k := k H locs ls ha hP hS hl
  rw [hn] at k
  exact lv_sipush C.1 C.2.1 hd rfl k
theorem bv_lconst (C : bC p s m args meth c D cA z0 SK SV A nL own cc tb) {n : Fin 2} (ht : tb[i]? = some (pc, .lconst n)) (k : bV p l e R s m args below meth c D cA sh A nL tb Q ad N cells slots w (i + 1) L (.long (Int64.ofNat (n : Nat)) :: st)) : bV p l e R s m args below meth c D cA sh A nL tb Q ad N cells slots w i L (st) := by
  intro H locs ls ha hP hS hl
  have hn := pcAt_nx C.2.2.2.2.2.2.1 ht rfl
  have hd := (C.2.2.2.2.2.2.1 i _ ht rfl).1
  rw [pcAt_of ht]
  have k := k H locs ls ha hP hS hl
  rw [hn] at k
  exact lv_lconst C.1 C.2.1 hd rfl k
theorem bv_fconst0 (C : bC p s m args meth c D cA z0 SK SV A nL own cc tb) (ht : tb[i]? = some (pc, .fconst 0)) (k : bV p l e R s m args below meth c D cA sh A nL tb Q ad N cells slots w (i + 1) L (.float FP.fconst0 :: st)) : bV p l e R s m args below meth c D cA sh A nL tb Q ad N cells slots w i L (st) := by
  intro H locs ls ha hP hS hl
  have hn := pcAt_nx C.2.2.2.2.2.2.1 ht rfl
  have hd := (C.2.2.2.2.2.2.1 i _ ht rfl).1
  rw [pcAt_of ht]
  have k := k H locs ls ha hP hS hl
  rw [hn] at k
  exact lv_fconst0 C.1 C.2.1 hd k
theorem bv_fconst1 (C : bC p s m args meth c D cA z0 SK SV A nL own cc tb) (ht : tb[i]? = some (pc, .fconst 1)) (k : bV p l e R s m args below meth c D cA sh A nL tb Q ad N cells slots w (i + 1) L (.float FP.fconst1 :: st)) : bV p l e R s m args below meth c D cA sh A nL tb Q ad N cells slots w i L (st) := by
  intro H locs ls ha hP hS hl
  have hn := pcAt_nx C.2.2.2.2.2.2.1 ht rfl
  have hd := (C.2.2.2.2.2.2.1 i _ ht rfl).1
  rw [pcAt_of ht]
  have k := k H locs ls ha hP hS hl
  rw [hn] at k
  exact lv_fconst1 C.1 C.2.1 hd k
theorem bv_fconst2 (C : bC p s m args meth c D cA z0 SK SV A nL own cc tb) (ht : tb[i]? = some (pc, .fconst 2)) (k : bV p l e R s m args below meth c D cA sh A nL tb Q ad N cells slots w (i + 1) L (.float FP.fconst2 :: st)) : bV p l e R s m args below meth c D cA sh A nL tb Q ad N cells slots w i L (st) := by
  intro H locs ls ha hP hS hl
  have hn := pcAt_nx C.2.2.2.2.2.2.1 ht rfl
  have hd := (C.2.2.2.2.2.2.1 i _ ht rfl).1
  rw [pcAt_of ht]
  have k := k H locs ls ha hP hS hl
  rw [hn] at k
  exact lv_fconst2 C.1 C.2.1 hd k
theorem bv_ldc (C : bC p s m args meth c D cA z0 SK SV A nL own cc tb) {n : Nat} {v : Int32} (ht : tb[i]? = some (pc, .ldc n)) (hc : Cond.constant own n v ∈ ALLW) (k : bV p l e R s m args below meth c D cA sh A nL tb Q ad N cells slots w (i + 1) L (.int v :: st)) : bV p l e R s m args below meth c D cA sh A nL tb Q ad N cells slots w i L (st) := by
  intro H locs ls ha hP hS hl
  have hn := pcAt_nx C.2.2.2.2.2.2.1 ht rfl
  have hd := (C.2.2.2.2.2.2.1 i _ ht rfl).1
  rw [pcAt_of ht]
  have k := k H locs ls ha hP hS hl
  rw [hn] at k
  exact lv_ldc C.1 C.2.1 C.2.2.2.1 (C.2.2.2.2.1 _ hc) hd k
theorem bv_ldcf (C : bC p s m args meth c D cA z0 SK SV A nL own cc tb) {n : Nat} {v : UInt32} (ht : tb[i]? = some (pc, .ldc n)) (hc : Cond.constantFloat own n v ∈ ALLW) (k : bV p l e R s m args below meth c D cA sh A nL tb Q ad N cells slots w (i + 1) L (.float v :: st)) : bV p l e R s m args below meth c D cA sh A nL tb Q ad N cells slots w i L (st) := by
  intro H locs ls ha hP hS hl
  have hn := pcAt_nx C.2.2.2.2.2.2.1 ht rfl
  have hd := (C.2.2.2.2.2.2.1 i _ ht rfl).1
  rw [pcAt_of ht]
  have k := k H locs ls ha hP hS hl
  rw [hn] at k
  exact lv_ldcf C.1 C.2.1 C.2.2.2.1 (C.2.2.2.2.1 _ hc) hd k
theorem bv_ldc2 (C : bC p s m args meth c D cA z0 SK SV A nL own cc tb) {n : Nat} {v : Int64} (ht : tb[i]? = some (pc, .ldc2_w n)) (hc : Cond.constantLong own n v ∈ ALLW) (k : bV p l e R s m args below meth c D cA sh A nL tb Q ad N cells slots w (i + 1) L (.long v :: st)) : bV p l e R s m args below meth c D cA sh A nL tb Q ad N cells slots w i L (st) := by
  intro H locs ls ha hP hS hl
  have hn := pcAt_nx C.2.2.2.2.2.2.1 ht rfl
  have hd := (C.2.2.2.2.2.2.1 i _ ht rfl).1
  rw [pcAt_of ht]
  have k := k H locs ls ha hP hS hl
  rw [hn] at k
  exact lv_ldc2 C.1 C.2.1 C.2.2.2.1 (C.2.2.2.2.1 _ hc) hd k
theorem bv_iload_n (C : bC p s m args meth c D cA z0 SK SV A nL own cc tb) {n : Fin 4} {x : Int32} (ht : tb[i]? = some (pc, .iload_n n)) (hg : bget L (n : Nat) = some (.int x)) (k : bV p l e R s m args below meth c D cA sh A nL tb Q ad N cells slots w (i + 1) L (.int x :: st)) : bV p l e R s m args below meth c D cA sh A nL tb Q ad N cells slots w i L (st) := by
  intro H locs ls ha hP hS hl
  have hn := pcAt_nx C.2.2.2.2.2.2.1 ht rfl
  have hd := (C.2.2.2.2.2.2.1 i _ ht rfl).1
  rw [pcAt_of ht]
  have k := k H locs ls ha hP hS hl
  rw [hn] at k
  exact lv_iload_n C.1 C.2.1 hd rfl (bget_at hl hg) k
theorem bv_iload (C : bC p s m args meth c D cA z0 SK SV A nL own cc tb) {n : Nat} {x : Int32} (ht : tb[i]? = some (pc, .iload n)) (hg : bget L n = some (.int x)) (k : bV p l e R s m args below meth c D cA sh A nL tb Q ad N cells slots w (i + 1) L (.int x :: st)) : bV p l e R s m args below meth c D cA sh A nL tb Q ad N cells slots w i L (st) := by
  intro H locs ls ha hP hS hl
  have hn := pcAt_nx C.2.2.2.2.2.2.1 ht rfl
  have hd := (C.2.2.2.2.2.2.1 i _ ht rfl).1
  rw [pcAt_of ht]
  have k := k H locs ls ha hP hS hl
  rw [hn] at k
  exact lv_iload C.1 C.2.1 hd (bget_at hl hg) k
theorem bv_lload_n (C : bC p s m args meth c D cA z0 SK SV A nL own cc tb) {n : Fin 4} {x : Int64} (ht : tb[i]? = some (pc, .lload_n n)) (hg : bget L (n : Nat) = some (.long x)) (k : bV p l e R s m args below meth c D cA sh A nL tb Q ad N cells slots w (i + 1) L (.long x :: st)) : bV p l e R s m args below meth c D cA sh A nL tb Q ad N cells slots w i L (st) := by
  intro H locs ls ha hP hS hl
  have hn := pcAt_nx C.2.2.2.2.2.2.1 ht rfl
  have hd := (C.2.2.2.2.2.2.1 i _ ht rfl).1
  rw [pcAt_of ht]
  have k := k H locs ls ha hP hS hl
  rw [hn] at k
  exact lv_lload_n C.1 C.2.1 hd rfl (bget_at hl hg) k
theorem bv_lload (C : bC p s m args meth c D cA z0 SK SV A nL own cc tb) {n : Nat} {x : Int64} (ht : tb[i]? = some (pc, .lload n)) (hg : bget L n = some (.long x)) (k : bV p l e R s m args below meth c D cA sh A nL tb Q ad N cells slots w (i + 1) L (.long x :: st)) : bV p l e R s m args below meth c D cA sh A nL tb Q ad N cells slots w i L (st) := by
  intro H locs ls ha hP hS hl
  have hn := pcAt_nx C.2.2.2.2.2.2.1 ht rfl
  have hd := (C.2.2.2.2.2.2.1 i _ ht rfl).1
  rw [pcAt_of ht]
  have k := k H locs ls ha hP hS hl
  rw [hn] at k
  exact lv_lload C.1 C.2.1 hd (bget_at hl hg) k
theorem bv_fload_n (C : bC p s m args meth c D cA z0 SK SV A nL own cc tb) {n : Fin 4} {x : UInt32} (ht : tb[i]? = some (pc, .fload_n n)) (hg : bget L (n : Nat) = some (.float x)) (k : bV p l e R s m args below meth c D cA sh A nL tb Q ad N cells slots w (i + 1) L (.float x :: st)) : bV p l e R s m args below meth c D cA sh A nL tb Q ad N cells slots w i L (st) := by
  intro H locs ls ha hP hS hl
  have hn := pcAt_nx C.2.2.2.2.2.2.1 ht rfl
  have hd := (C.2.2.2.2.2.2.1 i _ ht rfl).1
  rw [pcAt_of ht]
  have k := k H locs ls ha hP hS hl
  rw [hn] at k
  exact lv_fload_n C.1 C.2.1 hd rfl (bget_at hl hg) k
theorem bv_fload (C : bC p s m args meth c D cA z0 SK SV A nL own cc tb) {n : Nat} {x : UInt32} (ht : tb[i]? = some (pc, .fload n)) (hg : bget L n = some (.float x)) (k : bV p l e R s m args below meth c D cA sh A nL tb Q ad N cells slots w (i + 1) L (.float x :: st)) : bV p l e R s m args below meth c D cA sh A nL tb Q ad N cells slots w i L (st) := by
  intro H locs ls ha hP hS hl
  have hn := pcAt_nx C.2.2.2.2.2.2.1 ht rfl
  have hd := (C.2.2.2.2.2.2.1 i _ ht rfl).1
  rw [pcAt_of ht]
  have k := k H locs ls ha hP hS hl
  rw [hn] at k
  exact lv_fload C.1 C.2.1 hd (bget_at hl hg) k
theorem bv_aload_n (C : bC p s m args meth c D cA z0 SK SV A nL own cc tb) {n : Fin 4} {x : Nat} (ht : tb[i]? = some (pc, .aload_n n)) (hg : bget L (n : Nat) = some (.ref x)) (k : bV p l e R s m args below meth c D cA sh A nL tb Q ad N cells slots w (i + 1) L (.ref x :: st)) : bV p l e R s m args below meth c D cA sh A nL tb Q ad N cells slots w i L (st) := by
  intro H locs ls ha hP hS hl
  have hn := pcAt_nx C.2.2.2.2.2.2.1 ht rfl
  have hd := (C.2.2.2.2.2.2.1 i _ ht rfl).1
  rw [pcAt_of ht]
  have k := k H locs ls ha hP hS hl
  rw [hn] at k
  exact lv_aload_n C.1 C.2.1 hd rfl (bget_at hl hg) k
theorem bv_aload (C : bC p s m args meth c D cA z0 SK SV A nL own cc tb) {n x : Nat} (ht : tb[i]? = some (pc, .aload n)) (hg : bget L n = some (.ref x)) (k : bV p l e R s m args below meth c D cA sh A nL tb Q ad N cells slots w (i + 1) L (.ref x :: st)) : bV p l e R s m args below meth c D cA sh A nL tb Q ad N cells slots w i L (st) := by
  intro H locs ls ha hP hS hl
  have hn := pcAt_nx C.2.2.2.2.2.2.1 ht rfl
  have hd := (C.2.2.2.2.2.2.1 i _ ht rfl).1
  rw [pcAt_of ht]
  have k := k H locs ls ha hP hS hl
  rw [hn] at k
  exact lv_aload C.1 C.2.1 hd (bget_at hl hg) k
theorem bv_istore_n (C : bC p s m args meth c D cA z0 SK SV A nL own cc tb) {n : Fin 4} {x : Int32} (ht : tb[i]? = some (pc, .istore_n n)) (hn2 : n.val < nL) (k : bV p l e R s m args below meth c D cA sh A nL tb Q ad N cells slots w (i + 1) (bset L n.val (.int x)) (st)) : bV p l e R s m args below meth c D cA sh A nL tb Q ad N cells slots w i L (.int x :: st) := by
  intro H locs ls ha hP hS hl
  have hn := pcAt_nx C.2.2.2.2.2.2.1 ht rfl
  have hd := (C.2.2.2.2.2.2.1 i _ ht rfl).1
  rw [pcAt_of ht]
  refine lv_istore_n C.1 C.2.1 hd rfl hl hn2 (bset_cv ad L n (.int x)) (fun ls2 hl2 => ?_)
  have k := k H locs ls2 ha hP hS hl2
  rw [hn] at k
  exact k
theorem bv_istore (C : bC p s m args meth c D cA z0 SK SV A nL own cc tb) {n : Nat} {x : Int32} (ht : tb[i]? = some (pc, .istore n)) (hn2 : n < nL) (k : bV p l e R s m args below meth c D cA sh A nL tb Q ad N cells slots w (i + 1) (bset L n (.int x)) (st)) : bV p l e R s m args below meth c D cA sh A nL tb Q ad N cells slots w i L (.int x :: st) := by
  intro H locs ls ha hP hS hl
  have hn := pcAt_nx C.2.2.2.2.2.2.1 ht rfl
  have hd := (C.2.2.2.2.2.2.1 i _ ht rfl).1
  rw [pcAt_of ht]
  refine lv_istore C.1 C.2.1 hd hl hn2 (bset_cv ad L n (.int x)) (fun ls2 hl2 => ?_)
  have k := k H locs ls2 ha hP hS hl2
  rw [hn] at k
  exact k
theorem bv_fstore_n (C : bC p s m args meth c D cA z0 SK SV A nL own cc tb) {n : Fin 4} {x : UInt32} (ht : tb[i]? = some (pc, .fstore_n n)) (hn2 : n.val < nL) (k : bV p l e R s m args below meth c D cA sh A nL tb Q ad N cells slots w (i + 1) (bset L n.val (.float x)) (st)) : bV p l e R s m args below meth c D cA sh A nL tb Q ad N cells slots w i L (.float x :: st) := by
  intro H locs ls ha hP hS hl
  have hn := pcAt_nx C.2.2.2.2.2.2.1 ht rfl
  have hd := (C.2.2.2.2.2.2.1 i _ ht rfl).1
  rw [pcAt_of ht]
  refine lv_fstore_n C.1 C.2.1 hd rfl hl hn2 (bset_cv ad L n (.float x)) (fun ls2 hl2 => ?_)
  have k := k H locs ls2 ha hP hS hl2
  rw [hn] at k
  exact k
theorem bv_fstore (C : bC p s m args meth c D cA z0 SK SV A nL own cc tb) {n : Nat} {x : UInt32} (ht : tb[i]? = some (pc, .fstore n)) (hn2 : n < nL) (k : bV p l e R s m args below meth c D cA sh A nL tb Q ad N cells slots w (i + 1) (bset L n (.float x)) (st)) : bV p l e R s m args below meth c D cA sh A nL tb Q ad N cells slots w i L (.float x :: st) := by
  intro H locs ls ha hP hS hl
  have hn := pcAt_nx C.2.2.2.2.2.2.1 ht rfl
  have hd := (C.2.2.2.2.2.2.1 i _ ht rfl).1
  rw [pcAt_of ht]
  refine lv_fstore C.1 C.2.1 hd hl hn2 (bset_cv ad L n (.float x)) (fun ls2 hl2 => ?_)
  have k := k H locs ls2 ha hP hS hl2
  rw [hn] at k
  exact k
theorem bv_astore_n (C : bC p s m args meth c D cA z0 SK SV A nL own cc tb) {n : Fin 4} {x : Nat} (ht : tb[i]? = some (pc, .astore_n n)) (hn2 : n.val < nL) (k : bV p l e R s m args below meth c D cA sh A nL tb Q ad N cells slots w (i + 1) (bset L n.val (.ref x)) (st)) : bV p l e R s m args below meth c D cA sh A nL tb Q ad N cells slots w i L (.ref x :: st) := by
  intro H locs ls ha hP hS hl
  have hn := pcAt_nx C.2.2.2.2.2.2.1 ht rfl
  have hd := (C.2.2.2.2.2.2.1 i _ ht rfl).1
  rw [pcAt_of ht]
  refine lv_astore_n C.1 C.2.1 hd rfl hl hn2 (bset_cv ad L n (.ref x)) (fun ls2 hl2 => ?_)
  have k := k H locs ls2 ha hP hS hl2
  rw [hn] at k
  exact k
theorem bv_astore (C : bC p s m args meth c D cA z0 SK SV A nL own cc tb) {n : Nat} {x : Nat} (ht : tb[i]? = some (pc, .astore n)) (hn2 : n < nL) (k : bV p l e R s m args below meth c D cA sh A nL tb Q ad N cells slots w (i + 1) (bset L n (.ref x)) (st)) : bV p l e R s m args below meth c D cA sh A nL tb Q ad N cells slots w i L (.ref x :: st) := by
  intro H locs ls ha hP hS hl
  have hn := pcAt_nx C.2.2.2.2.2.2.1 ht rfl
  have hd := (C.2.2.2.2.2.2.1 i _ ht rfl).1
  rw [pcAt_of ht]
  refine lv_astore C.1 C.2.1 hd hl hn2 (bset_cv ad L n (.ref x)) (fun ls2 hl2 => ?_)
  have k := k H locs ls2 ha hP hS hl2
  rw [hn] at k
  exact k
theorem bv_lstore_n (C : bC p s m args meth c D cA z0 SK SV A nL own cc tb) {n : Fin 4} {x : Int64} (ht : tb[i]? = some (pc, .lstore_n n)) (hn2 : n.val + 1 < nL) (k : bV p l e R s m args below meth c D cA sh A nL tb Q ad N cells slots w (i + 1) (bset2 L n.val (.long x)) (st)) : bV p l e R s m args below meth c D cA sh A nL tb Q ad N cells slots w i L (.long x :: st) := by
  intro H locs ls ha hP hS hl
  have hn := pcAt_nx C.2.2.2.2.2.2.1 ht rfl
  have hd := (C.2.2.2.2.2.2.1 i _ ht rfl).1
  rw [pcAt_of ht]
  refine lv_lstore_n C.1 C.2.1 hd rfl hl hn2 (bset2_cv ad L n (.long x)) (fun ls2 hl2 => ?_)
  have k := k H locs ls2 ha hP hS hl2
  rw [hn] at k
  exact k
theorem bv_lstore (C : bC p s m args meth c D cA z0 SK SV A nL own cc tb) {n : Nat} {x : Int64} (ht : tb[i]? = some (pc, .lstore n)) (hn2 : n + 1 < nL) (k : bV p l e R s m args below meth c D cA sh A nL tb Q ad N cells slots w (i + 1) (bset2 L n (.long x)) (st)) : bV p l e R s m args below meth c D cA sh A nL tb Q ad N cells slots w i L (.long x :: st) := by
  intro H locs ls ha hP hS hl
  have hn := pcAt_nx C.2.2.2.2.2.2.1 ht rfl
  have hd := (C.2.2.2.2.2.2.1 i _ ht rfl).1
  rw [pcAt_of ht]
  refine lv_lstore C.1 C.2.1 hd hl hn2 (bset2_cv ad L n (.long x)) (fun ls2 hl2 => ?_)
  have k := k H locs ls2 ha hP hS hl2
  rw [hn] at k
  exact k
theorem bget_ex {L : Lc} {i : Nat} {v : Value} (ad : Nat → Nat) (h : bget L i = some v) : ∃ k : Nat, (lcv ad L)[k]? = some (i, cvv ad v) := by
  obtain ⟨q, h1, rfl⟩ := Option.map_eq_some_iff.mp h
  have h4 : q.1 = i := by simpa using List.find?_some h1
  obtain ⟨k, hk⟩ := List.getElem?_of_mem (List.mem_of_find?_eq_some h1)
  exact ⟨k, by simp [hk, h4]⟩
theorem bv_iinc (C : bC p s m args meth c D cA z0 SK SV A nL own cc tb) {n : Nat} {q : Int} {x : Int32} (ht : tb[i]? = some (pc, .iinc n q)) (hg : bget L n = some (.int x)) (hn2 : n < nL) (k : bV p l e R s m args below meth c D cA sh A nL tb Q ad N cells slots w (i + 1) (bset L n (.int (x + Int32.ofInt q))) (st)) : bV p l e R s m args below meth c D cA sh A nL tb Q ad N cells slots w i L (st) := by
  intro H locs ls ha hP hS hl
  have hn := pcAt_nx C.2.2.2.2.2.2.1 ht rfl
  have hd := (C.2.2.2.2.2.2.1 i _ ht rfl).1
  rw [pcAt_of ht]
  obtain ⟨k0, hk0⟩ := bget_ex ad hg
  refine lv_iinc C.1 C.2.1 hd hl hk0 rfl hn2 (bset_cv ad L n (.int (x + Int32.ofInt q))) (fun ls2 hl2 => ?_)
  have k := k H locs ls2 ha hP hS hl2
  rw [hn] at k
  exact k
theorem bv_iadd (C : bC p s m args meth c D cA z0 SK SV A nL own cc tb) {x y : Int32} (ht : tb[i]? = some (pc, .iadd)) (k : bV p l e R s m args below meth c D cA sh A nL tb Q ad N cells slots w (i + 1) L (.int (x + y) :: r)) : bV p l e R s m args below meth c D cA sh A nL tb Q ad N cells slots w i L (.int y :: .int x :: r) := by
  intro H locs ls ha hP hS hl
  have hn := pcAt_nx C.2.2.2.2.2.2.1 ht rfl
  have hd := (C.2.2.2.2.2.2.1 i _ ht rfl).1
  rw [pcAt_of ht]
  have k := k H locs ls ha hP hS hl
  rw [hn] at k
  exact lv_iadd C.1 C.2.1 hd k
theorem bv_isub (C : bC p s m args meth c D cA z0 SK SV A nL own cc tb) {x y : Int32} (ht : tb[i]? = some (pc, .isub)) (k : bV p l e R s m args below meth c D cA sh A nL tb Q ad N cells slots w (i + 1) L (.int (x - y) :: r)) : bV p l e R s m args below meth c D cA sh A nL tb Q ad N cells slots w i L (.int y :: .int x :: r) := by
  intro H locs ls ha hP hS hl
  have hn := pcAt_nx C.2.2.2.2.2.2.1 ht rfl
  have hd := (C.2.2.2.2.2.2.1 i _ ht rfl).1
  rw [pcAt_of ht]
  have k := k H locs ls ha hP hS hl
  rw [hn] at k
  exact lv_isub C.1 C.2.1 hd k
theorem bv_imul (C : bC p s m args meth c D cA z0 SK SV A nL own cc tb) {x y : Int32} (ht : tb[i]? = some (pc, .imul)) (k : bV p l e R s m args below meth c D cA sh A nL tb Q ad N cells slots w (i + 1) L (.int (x * y) :: r)) : bV p l e R s m args below meth c D cA sh A nL tb Q ad N cells slots w i L (.int y :: .int x :: r) := by
  intro H locs ls ha hP hS hl
  have hn := pcAt_nx C.2.2.2.2.2.2.1 ht rfl
  have hd := (C.2.2.2.2.2.2.1 i _ ht rfl).1
  rw [pcAt_of ht]
  have k := k H locs ls ha hP hS hl
  rw [hn] at k
  exact lv_imul C.1 C.2.1 hd k
theorem bv_iand (C : bC p s m args meth c D cA z0 SK SV A nL own cc tb) {x y : Int32} (ht : tb[i]? = some (pc, .iand)) (k : bV p l e R s m args below meth c D cA sh A nL tb Q ad N cells slots w (i + 1) L (.int (x &&& y) :: r)) : bV p l e R s m args below meth c D cA sh A nL tb Q ad N cells slots w i L (.int y :: .int x :: r) := by
  intro H locs ls ha hP hS hl
  have hn := pcAt_nx C.2.2.2.2.2.2.1 ht rfl
  have hd := (C.2.2.2.2.2.2.1 i _ ht rfl).1
  rw [pcAt_of ht]
  have k := k H locs ls ha hP hS hl
  rw [hn] at k
  exact lv_iand C.1 C.2.1 hd k
theorem bv_ior (C : bC p s m args meth c D cA z0 SK SV A nL own cc tb) {x y : Int32} (ht : tb[i]? = some (pc, .ior)) (k : bV p l e R s m args below meth c D cA sh A nL tb Q ad N cells slots w (i + 1) L (.int (x ||| y) :: r)) : bV p l e R s m args below meth c D cA sh A nL tb Q ad N cells slots w i L (.int y :: .int x :: r) := by
  intro H locs ls ha hP hS hl
  have hn := pcAt_nx C.2.2.2.2.2.2.1 ht rfl
  have hd := (C.2.2.2.2.2.2.1 i _ ht rfl).1
  rw [pcAt_of ht]
  have k := k H locs ls ha hP hS hl
  rw [hn] at k
  exact lv_ior C.1 C.2.1 hd k
theorem bv_ixor (C : bC p s m args meth c D cA z0 SK SV A nL own cc tb) {x y : Int32} (ht : tb[i]? = some (pc, .ixor)) (k : bV p l e R s m args below meth c D cA sh A nL tb Q ad N cells slots w (i + 1) L (.int (x ^^^ y) :: r)) : bV p l e R s m args below meth c D cA sh A nL tb Q ad N cells slots w i L (.int y :: .int x :: r) := by
  intro H locs ls ha hP hS hl
  have hn := pcAt_nx C.2.2.2.2.2.2.1 ht rfl
  have hd := (C.2.2.2.2.2.2.1 i _ ht rfl).1
  rw [pcAt_of ht]
  have k := k H locs ls ha hP hS hl
  rw [hn] at k
  exact lv_ixor C.1 C.2.1 hd k
theorem bv_ishl (C : bC p s m args meth c D cA z0 SK SV A nL own cc tb) {x y : Int32} (ht : tb[i]? = some (pc, .ishl)) (k : bV p l e R s m args below meth c D cA sh A nL tb Q ad N cells slots w (i + 1) L (.int (x <<< (y &&& 31)) :: r)) : bV p l e R s m args below meth c D cA sh A nL tb Q ad N cells slots w i L (.int y :: .int x :: r) := by
  intro H locs ls ha hP hS hl
  have hn := pcAt_nx C.2.2.2.2.2.2.1 ht rfl
  have hd := (C.2.2.2.2.2.2.1 i _ ht rfl).1
  rw [pcAt_of ht]
  have k := k H locs ls ha hP hS hl
  rw [hn] at k
  exact lv_ishl C.1 C.2.1 hd k
theorem bv_ishr (C : bC p s m args meth c D cA z0 SK SV A nL own cc tb) {x y : Int32} (ht : tb[i]? = some (pc, .ishr)) (k : bV p l e R s m args below meth c D cA sh A nL tb Q ad N cells slots w (i + 1) L (.int (x >>> (y &&& 31)) :: r)) : bV p l e R s m args below meth c D cA sh A nL tb Q ad N cells slots w i L (.int y :: .int x :: r) := by
  intro H locs ls ha hP hS hl
  have hn := pcAt_nx C.2.2.2.2.2.2.1 ht rfl
  have hd := (C.2.2.2.2.2.2.1 i _ ht rfl).1
  rw [pcAt_of ht]
  have k := k H locs ls ha hP hS hl
  rw [hn] at k
  exact lv_ishr C.1 C.2.1 hd k
theorem bv_iushr (C : bC p s m args meth c D cA z0 SK SV A nL own cc tb) {x y : Int32} (ht : tb[i]? = some (pc, .iushr)) (k : bV p l e R s m args below meth c D cA sh A nL tb Q ad N cells slots w (i + 1) L (.int (x.toUInt32 >>> (y.toUInt32 &&& Int32.toUInt32 31)).toInt32 :: r)) : bV p l e R s m args below meth c D cA sh A nL tb Q ad N cells slots w i L (.int y :: .int x :: r) := by
  intro H locs ls ha hP hS hl
  have hn := pcAt_nx C.2.2.2.2.2.2.1 ht rfl
  have hd := (C.2.2.2.2.2.2.1 i _ ht rfl).1
  rw [pcAt_of ht]
  have k := k H locs ls ha hP hS hl
  rw [hn] at k
  exact lv_iushr C.1 C.2.1 hd rfl k
theorem bv_idiv (C : bC p s m args meth c D cA z0 SK SV A nL own cc tb) {x y : Int32} (ht : tb[i]? = some (pc, .idiv)) (hne : ¬ y = 0) (k : bV p l e R s m args below meth c D cA sh A nL tb Q ad N cells slots w (i + 1) L (.int (x / y) :: r)) : bV p l e R s m args below meth c D cA sh A nL tb Q ad N cells slots w i L (.int y :: .int x :: r) := by
  intro H locs ls ha hP hS hl
  have hn := pcAt_nx C.2.2.2.2.2.2.1 ht rfl
  have hd := (C.2.2.2.2.2.2.1 i _ ht rfl).1
  rw [pcAt_of ht]
  have k := k H locs ls ha hP hS hl
  rw [hn] at k
  exact lv_idiv C.1 C.2.1 hd hne k
theorem bv_irem (C : bC p s m args meth c D cA z0 SK SV A nL own cc tb) {x y : Int32} (ht : tb[i]? = some (pc, .irem)) (hne : ¬ y = 0) (k : bV p l e R s m args below meth c D cA sh A nL tb Q ad N cells slots w (i + 1) L (.int (x - x / y * y) :: r)) : bV p l e R s m args below meth c D cA sh A nL tb Q ad N cells slots w i L (.int y :: .int x :: r) := by
  intro H locs ls ha hP hS hl
  have hn := pcAt_nx C.2.2.2.2.2.2.1 ht rfl
  have hd := (C.2.2.2.2.2.2.1 i _ ht rfl).1
  rw [pcAt_of ht]
  have k := k H locs ls ha hP hS hl
  rw [hn] at k
  exact lv_irem C.1 C.2.1 hd hne k
theorem bv_ineg (C : bC p s m args meth c D cA z0 SK SV A nL own cc tb) {x : Int32} (ht : tb[i]? = some (pc, .ineg)) (k : bV p l e R s m args below meth c D cA sh A nL tb Q ad N cells slots w (i + 1) L (.int (-x) :: r)) : bV p l e R s m args below meth c D cA sh A nL tb Q ad N cells slots w i L (.int x :: r) := by
  intro H locs ls ha hP hS hl
  have hn := pcAt_nx C.2.2.2.2.2.2.1 ht rfl
  have hd := (C.2.2.2.2.2.2.1 i _ ht rfl).1
  rw [pcAt_of ht]
  have k := k H locs ls ha hP hS hl
  rw [hn] at k
  exact lv_ineg C.1 C.2.1 hd k
theorem bv_ladd (C : bC p s m args meth c D cA z0 SK SV A nL own cc tb) {x y : Int64} (ht : tb[i]? = some (pc, .ladd)) (k : bV p l e R s m args below meth c D cA sh A nL tb Q ad N cells slots w (i + 1) L (.long (x + y) :: r)) : bV p l e R s m args below meth c D cA sh A nL tb Q ad N cells slots w i L (.long y :: .long x :: r) := by
  intro H locs ls ha hP hS hl
  have hn := pcAt_nx C.2.2.2.2.2.2.1 ht rfl
  have hd := (C.2.2.2.2.2.2.1 i _ ht rfl).1
  rw [pcAt_of ht]
  have k := k H locs ls ha hP hS hl
  rw [hn] at k
  exact lv_ladd C.1 C.2.1 hd k
theorem bv_lsub (C : bC p s m args meth c D cA z0 SK SV A nL own cc tb) {x y : Int64} (ht : tb[i]? = some (pc, .lsub)) (k : bV p l e R s m args below meth c D cA sh A nL tb Q ad N cells slots w (i + 1) L (.long (x - y) :: r)) : bV p l e R s m args below meth c D cA sh A nL tb Q ad N cells slots w i L (.long y :: .long x :: r) := by
  intro H locs ls ha hP hS hl
  have hn := pcAt_nx C.2.2.2.2.2.2.1 ht rfl
  have hd := (C.2.2.2.2.2.2.1 i _ ht rfl).1
  rw [pcAt_of ht]
  have k := k H locs ls ha hP hS hl
  rw [hn] at k
  exact lv_lsub C.1 C.2.1 hd k
theorem bv_lmul (C : bC p s m args meth c D cA z0 SK SV A nL own cc tb) {x y : Int64} (ht : tb[i]? = some (pc, .lmul)) (k : bV p l e R s m args below meth c D cA sh A nL tb Q ad N cells slots w (i + 1) L (.long (x * y) :: r)) : bV p l e R s m args below meth c D cA sh A nL tb Q ad N cells slots w i L (.long y :: .long x :: r) := by
  intro H locs ls ha hP hS hl
  have hn := pcAt_nx C.2.2.2.2.2.2.1 ht rfl
  have hd := (C.2.2.2.2.2.2.1 i _ ht rfl).1
  rw [pcAt_of ht]
  have k := k H locs ls ha hP hS hl
  rw [hn] at k
  exact lv_lmul C.1 C.2.1 hd k
theorem bv_lshl (C : bC p s m args meth c D cA z0 SK SV A nL own cc tb) {x : Int64} {y : Int32} (ht : tb[i]? = some (pc, .lshl)) (k : bV p l e R s m args below meth c D cA sh A nL tb Q ad N cells slots w (i + 1) L (.long (x <<< (y.toInt64 &&& 63)) :: r)) : bV p l e R s m args below meth c D cA sh A nL tb Q ad N cells slots w i L (.int y :: .long x :: r) := by
  intro H locs ls ha hP hS hl
  have hn := pcAt_nx C.2.2.2.2.2.2.1 ht rfl
  have hd := (C.2.2.2.2.2.2.1 i _ ht rfl).1
  rw [pcAt_of ht]
  have k := k H locs ls ha hP hS hl
  rw [hn] at k
  exact lv_lshl C.1 C.2.1 hd rfl k
theorem bv_i2l (C : bC p s m args meth c D cA z0 SK SV A nL own cc tb) {x : Int32} (ht : tb[i]? = some (pc, .i2l)) (k : bV p l e R s m args below meth c D cA sh A nL tb Q ad N cells slots w (i + 1) L (.long x.toInt64 :: r)) : bV p l e R s m args below meth c D cA sh A nL tb Q ad N cells slots w i L (.int x :: r) := by
  intro H locs ls ha hP hS hl
  have hn := pcAt_nx C.2.2.2.2.2.2.1 ht rfl
  have hd := (C.2.2.2.2.2.2.1 i _ ht rfl).1
  rw [pcAt_of ht]
  have k := k H locs ls ha hP hS hl
  rw [hn] at k
  exact lv_i2l C.1 C.2.1 hd rfl k
theorem bv_l2i (C : bC p s m args meth c D cA z0 SK SV A nL own cc tb) {x : Int64} (ht : tb[i]? = some (pc, .l2i)) (k : bV p l e R s m args below meth c D cA sh A nL tb Q ad N cells slots w (i + 1) L (.int x.toInt32 :: r)) : bV p l e R s m args below meth c D cA sh A nL tb Q ad N cells slots w i L (.long x :: r) := by
  intro H locs ls ha hP hS hl
  have hn := pcAt_nx C.2.2.2.2.2.2.1 ht rfl
  have hd := (C.2.2.2.2.2.2.1 i _ ht rfl).1
  rw [pcAt_of ht]
  have k := k H locs ls ha hP hS hl
  rw [hn] at k
  exact lv_l2i C.1 C.2.1 hd rfl k
theorem bv_i2c (C : bC p s m args meth c D cA z0 SK SV A nL own cc tb) {x : Int32} (ht : tb[i]? = some (pc, .i2c)) (k : bV p l e R s m args below meth c D cA sh A nL tb Q ad N cells slots w (i + 1) L (.int (x.toUInt32 % 65536).toInt32 :: r)) : bV p l e R s m args below meth c D cA sh A nL tb Q ad N cells slots w i L (.int x :: r) := by
  intro H locs ls ha hP hS hl
  have hn := pcAt_nx C.2.2.2.2.2.2.1 ht rfl
  have hd := (C.2.2.2.2.2.2.1 i _ ht rfl).1
  rw [pcAt_of ht]
  have k := k H locs ls ha hP hS hl
  rw [hn] at k
  exact lv_i2c C.1 C.2.1 hd rfl k
theorem bv_lcmp (C : bC p s m args meth c D cA z0 SK SV A nL own cc tb) {x y : Int64} (ht : tb[i]? = some (pc, .lcmp)) (k : bV p l e R s m args below meth c D cA sh A nL tb Q ad N cells slots w (i + 1) L (.int (lg_cmp x y) :: r)) : bV p l e R s m args below meth c D cA sh A nL tb Q ad N cells slots w i L (.long y :: .long x :: r) := by
  intro H locs ls ha hP hS hl
  have hn := pcAt_nx C.2.2.2.2.2.2.1 ht rfl
  have hd := (C.2.2.2.2.2.2.1 i _ ht rfl).1
  rw [pcAt_of ht]
  have k := k H locs ls ha hP hS hl
  rw [hn] at k
  exact W.lcmp C.1 C.2.1 hd k
theorem bv_fadd (C : bC p s m args meth c D cA z0 SK SV A nL own cc tb) {x y : UInt32} (ht : tb[i]? = some (pc, .fadd)) (hne : vf_n32 (FP.fadd x y)) (k : bV p l e R s m args below meth c D cA sh A nL tb Q ad N cells slots w (i + 1) L (.float (FP.fadd x y) :: r)) : bV p l e R s m args below meth c D cA sh A nL tb Q ad N cells slots w i L (.float y :: .float x :: r) := by
  intro H locs ls ha hP hS hl
  have hn := pcAt_nx C.2.2.2.2.2.2.1 ht rfl
  have hd := (C.2.2.2.2.2.2.1 i _ ht rfl).1
  rw [pcAt_of ht]
  have k := k H locs ls ha hP hS hl
  rw [hn] at k
  exact lv_fadd C.1 C.2.1 hd hne k
theorem bv_fsub (C : bC p s m args meth c D cA z0 SK SV A nL own cc tb) {x y : UInt32} (ht : tb[i]? = some (pc, .fsub)) (hne : vf_n32 (FP.fsub x y)) (k : bV p l e R s m args below meth c D cA sh A nL tb Q ad N cells slots w (i + 1) L (.float (FP.fsub x y) :: r)) : bV p l e R s m args below meth c D cA sh A nL tb Q ad N cells slots w i L (.float y :: .float x :: r) := by
  intro H locs ls ha hP hS hl
  have hn := pcAt_nx C.2.2.2.2.2.2.1 ht rfl
  have hd := (C.2.2.2.2.2.2.1 i _ ht rfl).1
  rw [pcAt_of ht]
  have k := k H locs ls ha hP hS hl
  rw [hn] at k
  exact lv_fsub C.1 C.2.1 hd hne k
theorem bv_fmul (C : bC p s m args meth c D cA z0 SK SV A nL own cc tb) {x y : UInt32} (ht : tb[i]? = some (pc, .fmul)) (hne : vf_n32 (FP.fmul x y)) (k : bV p l e R s m args below meth c D cA sh A nL tb Q ad N cells slots w (i + 1) L (.float (FP.fmul x y) :: r)) : bV p l e R s m args below meth c D cA sh A nL tb Q ad N cells slots w i L (.float y :: .float x :: r) := by
  intro H locs ls ha hP hS hl
  have hn := pcAt_nx C.2.2.2.2.2.2.1 ht rfl
  have hd := (C.2.2.2.2.2.2.1 i _ ht rfl).1
  rw [pcAt_of ht]
  have k := k H locs ls ha hP hS hl
  rw [hn] at k
  exact lv_fmul C.1 C.2.1 hd hne k
theorem bv_fdiv (C : bC p s m args meth c D cA z0 SK SV A nL own cc tb) {x y : UInt32} (ht : tb[i]? = some (pc, .fdiv)) (hne : vf_n32 (FP.fdiv x y)) (k : bV p l e R s m args below meth c D cA sh A nL tb Q ad N cells slots w (i + 1) L (.float (FP.fdiv x y) :: r)) : bV p l e R s m args below meth c D cA sh A nL tb Q ad N cells slots w i L (.float y :: .float x :: r) := by
  intro H locs ls ha hP hS hl
  have hn := pcAt_nx C.2.2.2.2.2.2.1 ht rfl
  have hd := (C.2.2.2.2.2.2.1 i _ ht rfl).1
  rw [pcAt_of ht]
  have k := k H locs ls ha hP hS hl
  rw [hn] at k
  exact lv_fdiv C.1 C.2.1 hd hne k
theorem bv_fcmp (C : bC p s m args meth c D cA z0 SK SV A nL own cc tb) {x y : UInt32} {op : CmpOp} (ht : tb[i]? = some (pc, .fcmp op)) (k : bV p l e R s m args below meth c D cA sh A nL tb Q ad N cells slots w (i + 1) L (.int (Op.cmpValue (FP.fcmp x y) op) :: r)) : bV p l e R s m args below meth c D cA sh A nL tb Q ad N cells slots w i L (.float y :: .float x :: r) := by
  intro H locs ls ha hP hS hl
  have hn := pcAt_nx C.2.2.2.2.2.2.1 ht rfl
  have hd := (C.2.2.2.2.2.2.1 i _ ht rfl).1
  rw [pcAt_of ht]
  have k := k H locs ls ha hP hS hl
  rw [hn] at k
  exact lv_fcmp C.1 C.2.1 hd k
theorem bv_l2f (C : bC p s m args meth c D cA z0 SK SV A nL own cc tb) {x : Int64} (ht : tb[i]? = some (pc, .l2f)) (k : bV p l e R s m args below meth c D cA sh A nL tb Q ad N cells slots w (i + 1) L (.float (FP.l2f x) :: r)) : bV p l e R s m args below meth c D cA sh A nL tb Q ad N cells slots w i L (.long x :: r) := by
  intro H locs ls ha hP hS hl
  have hn := pcAt_nx C.2.2.2.2.2.2.1 ht rfl
  have hd := (C.2.2.2.2.2.2.1 i _ ht rfl).1
  rw [pcAt_of ht]
  have k := k H locs ls ha hP hS hl
  rw [hn] at k
  exact lv_l2f C.1 C.2.1 hd k
theorem bv_i2f (C : bC p s m args meth c D cA z0 SK SV A nL own cc tb) {x : Int32} (ht : tb[i]? = some (pc, .i2f)) (k : bV p l e R s m args below meth c D cA sh A nL tb Q ad N cells slots w (i + 1) L (.float (FP.i2f x) :: r)) : bV p l e R s m args below meth c D cA sh A nL tb Q ad N cells slots w i L (.int x :: r) := by
  intro H locs ls ha hP hS hl
  have hn := pcAt_nx C.2.2.2.2.2.2.1 ht rfl
  have hd := (C.2.2.2.2.2.2.1 i _ ht rfl).1
  rw [pcAt_of ht]
  have k := k H locs ls ha hP hS hl
  rw [hn] at k
  exact lv_i2f C.1 C.2.1 hd k
theorem bv_f2i (C : bC p s m args meth c D cA z0 SK SV A nL own cc tb) {x : UInt32} (ht : tb[i]? = some (pc, .f2i)) (k : bV p l e R s m args below meth c D cA sh A nL tb Q ad N cells slots w (i + 1) L (.int (FP.f2i x) :: r)) : bV p l e R s m args below meth c D cA sh A nL tb Q ad N cells slots w i L (.float x :: r) := by
  intro H locs ls ha hP hS hl
  have hn := pcAt_nx C.2.2.2.2.2.2.1 ht rfl
  have hd := (C.2.2.2.2.2.2.1 i _ ht rfl).1
  rw [pcAt_of ht]
  have k := k H locs ls ha hP hS hl
  rw [hn] at k
  exact lv_f2i C.1 C.2.1 hd k
theorem bv_dup (C : bC p s m args meth c D cA z0 SK SV A nL own cc tb) {v : Value} (ht : tb[i]? = some (pc, .dup)) (hv : v.category = 1) (k : bV p l e R s m args below meth c D cA sh A nL tb Q ad N cells slots w (i + 1) L (v :: v :: r)) : bV p l e R s m args below meth c D cA sh A nL tb Q ad N cells slots w i L (v :: r) := by
  intro H locs ls ha hP hS hl
  have hn := pcAt_nx C.2.2.2.2.2.2.1 ht rfl
  have hd := (C.2.2.2.2.2.2.1 i _ ht rfl).1
  rw [pcAt_of ht]
  have k := k H locs ls ha hP hS hl
  rw [hn] at k
  exact lv_dup C.1 C.2.1 hd ((cvv_cat ad v).trans hv) k
theorem bv_pop (C : bC p s m args meth c D cA z0 SK SV A nL own cc tb) {v : Value} (ht : tb[i]? = some (pc, .pop)) (hv : v.category = 1) (k : bV p l e R s m args below meth c D cA sh A nL tb Q ad N cells slots w (i + 1) L (r)) : bV p l e R s m args below meth c D cA sh A nL tb Q ad N cells slots w i L (v :: r) := by
  intro H locs ls ha hP hS hl
  have hn := pcAt_nx C.2.2.2.2.2.2.1 ht rfl
  have hd := (C.2.2.2.2.2.2.1 i _ ht rfl).1
  rw [pcAt_of ht]
  have k := k H locs ls ha hP hS hl
  rw [hn] at k
  exact lv_pop C.1 C.2.1 hd ((cvv_cat ad v).trans hv) k
theorem bv_dup2 (C : bC p s m args meth c D cA z0 SK SV A nL own cc tb) {v u : Value} (ht : tb[i]? = some (pc, .dup2)) (hv : v.category = 1) (hu : u.category = 1) (k : bV p l e R s m args below meth c D cA sh A nL tb Q ad N cells slots w (i + 1) L (v :: u :: v :: u :: r)) : bV p l e R s m args below meth c D cA sh A nL tb Q ad N cells slots w i L (v :: u :: r) := by
  intro H locs ls ha hP hS hl
  have hn := pcAt_nx C.2.2.2.2.2.2.1 ht rfl
  have hd := (C.2.2.2.2.2.2.1 i _ ht rfl).1
  rw [pcAt_of ht]
  have k := k H locs ls ha hP hS hl
  rw [hn] at k
  exact lv_dup2_11 C.1 C.2.1 hd ((cvv_cat ad v).trans hv) ((cvv_cat ad u).trans hu) k
-- lv_if_eq: x = 0 / ¬ x = 0
theorem bv_if_eq (C : bC p s m args meth c D cA z0 SK SV A nL own cc tb) {x : Int32} {off : Int} (ht : tb[i]? = some (pc, .ifCond .eq off)) (hj : (pc : Int) + off = (pcAt tb j : Int)) (kt : x = 0 → bV p l e R s m args below meth c D cA sh A nL tb Q ad N cells slots w j L st) (kf : ¬ x = 0 → bV p l e R s m args below meth c D cA sh A nL tb Q ad N cells slots w (i + 1) L st) : bV p l e R s m args below meth c D cA sh A nL tb Q ad N cells slots w i L (.int x :: st) := by
  intro H locs ls ha hP hS hl
  have hn := pcAt_nx C.2.2.2.2.2.2.1 ht rfl
  have hd := (C.2.2.2.2.2.2.1 i _ ht rfl).1
  rw [pcAt_of ht]
  exact lv_if_eq C.1 C.2.1 hd hj (fun z => kt (z) H locs ls ha hP hS hl) (fun z => by have k := kf (z) H locs ls ha hP hS hl; rw [hn] at k; exact k)
-- lv_icmp_eq: x = y / ¬ x = y
theorem bv_icmp_eq (C : bC p s m args meth c D cA z0 SK SV A nL own cc tb) {x y : Int32} {off : Int} (ht : tb[i]? = some (pc, .if_icmp .eq off)) (hj : (pc : Int) + off = (pcAt tb j : Int)) (kt : x = y → bV p l e R s m args below meth c D cA sh A nL tb Q ad N cells slots w j L st) (kf : ¬ x = y → bV p l e R s m args below meth c D cA sh A nL tb Q ad N cells slots w (i + 1) L st) : bV p l e R s m args below meth c D cA sh A nL tb Q ad N cells slots w i L (.int y :: .int x :: st) := by
  intro H locs ls ha hP hS hl
  have hn := pcAt_nx C.2.2.2.2.2.2.1 ht rfl
  have hd := (C.2.2.2.2.2.2.1 i _ ht rfl).1
  rw [pcAt_of ht]
  exact lv_icmp_eq C.1 C.2.1 hd hj (fun z => kt (z) H locs ls ha hP hS hl) (fun z => by have k := kf (z) H locs ls ha hP hS hl; rw [hn] at k; exact k)
-- lv_if_ne: ¬ x = 0 / x = 0
theorem bv_if_ne (C : bC p s m args meth c D cA z0 SK SV A nL own cc tb) {x : Int32} {off : Int} (ht : tb[i]? = some (pc, .ifCond .ne off)) (hj : (pc : Int) + off = (pcAt tb j : Int)) (kt : ¬ x = 0 → bV p l e R s m args below meth c D cA sh A nL tb Q ad N cells slots w j L st) (kf : x = 0 → bV p l e R s m args below meth c D cA sh A nL tb Q ad N cells slots w (i + 1) L st) : bV p l e R s m args below meth c D cA sh A nL tb Q ad N cells slots w i L (.int x :: st) := by
  intro H locs ls ha hP hS hl
  have hn := pcAt_nx C.2.2.2.2.2.2.1 ht rfl
  have hd := (C.2.2.2.2.2.2.1 i _ ht rfl).1
  rw [pcAt_of ht]
  exact lv_if_ne C.1 C.2.1 hd hj (fun z => kt (z) H locs ls ha hP hS hl) (fun z => by have k := kf (z) H locs ls ha hP hS hl; rw [hn] at k; exact k)
-- lv_icmp_ne: ¬ x = y / x = y
theorem bv_icmp_ne (C : bC p s m args meth c D cA z0 SK SV A nL own cc tb) {x y : Int32} {off : Int} (ht : tb[i]? = some (pc, .if_icmp .ne off)) (hj : (pc : Int) + off = (pcAt tb j : Int)) (kt : ¬ x = y → bV p l e R s m args below meth c D cA sh A nL tb Q ad N cells slots w j L st) (kf : x = y → bV p l e R s m args below meth c D cA sh A nL tb Q ad N cells slots w (i + 1) L st) : bV p l e R s m args below meth c D cA sh A nL tb Q ad N cells slots w i L (.int y :: .int x :: st) := by
  intro H locs ls ha hP hS hl
  have hn := pcAt_nx C.2.2.2.2.2.2.1 ht rfl
  have hd := (C.2.2.2.2.2.2.1 i _ ht rfl).1
  rw [pcAt_of ht]
  exact lv_icmp_ne C.1 C.2.1 hd hj (fun z => kt (z) H locs ls ha hP hS hl) (fun z => by have k := kf (z) H locs ls ha hP hS hl; rw [hn] at k; exact k)
-- lv_if_lt: x < 0 / ¬ x < 0
theorem bv_if_lt (C : bC p s m args meth c D cA z0 SK SV A nL own cc tb) {x : Int32} {off : Int} (ht : tb[i]? = some (pc, .ifCond .lt off)) (hj : (pc : Int) + off = (pcAt tb j : Int)) (kt : x < 0 → bV p l e R s m args below meth c D cA sh A nL tb Q ad N cells slots w j L st) (kf : ¬ x < 0 → bV p l e R s m args below meth c D cA sh A nL tb Q ad N cells slots w (i + 1) L st) : bV p l e R s m args below meth c D cA sh A nL tb Q ad N cells slots w i L (.int x :: st) := by
  intro H locs ls ha hP hS hl
  have hn := pcAt_nx C.2.2.2.2.2.2.1 ht rfl
  have hd := (C.2.2.2.2.2.2.1 i _ ht rfl).1
  rw [pcAt_of ht]
  exact lv_if_lt C.1 C.2.1 hd hj (fun z => kt (z) H locs ls ha hP hS hl) (fun z => by have k := kf (z) H locs ls ha hP hS hl; rw [hn] at k; exact k)
-- lv_icmp_lt: x < y / ¬ x < y
theorem bv_icmp_lt (C : bC p s m args meth c D cA z0 SK SV A nL own cc tb) {x y : Int32} {off : Int} (ht : tb[i]? = some (pc, .if_icmp .lt off)) (hj : (pc : Int) + off = (pcAt tb j : Int)) (kt : x < y → bV p l e R s m args below meth c D cA sh A nL tb Q ad N cells slots w j L st) (kf : ¬ x < y → bV p l e R s m args below meth c D cA sh A nL tb Q ad N cells slots w (i + 1) L st) : bV p l e R s m args below meth c D cA sh A nL tb Q ad N cells slots w i L (.int y :: .int x :: st) := by
  intro H locs ls ha hP hS hl
  have hn := pcAt_nx C.2.2.2.2.2.2.1 ht rfl
  have hd := (C.2.2.2.2.2.2.1 i _ ht rfl).1
  rw [pcAt_of ht]
  exact lv_icmp_lt C.1 C.2.1 hd hj (fun z => kt (z) H locs ls ha hP hS hl) (fun z => by have k := kf (z) H locs ls ha hP hS hl; rw [hn] at k; exact k)
-- lv_if_ge: 0 ≤ x / ¬ 0 ≤ x
theorem bv_if_ge (C : bC p s m args meth c D cA z0 SK SV A nL own cc tb) {x : Int32} {off : Int} (ht : tb[i]? = some (pc, .ifCond .ge off)) (hj : (pc : Int) + off = (pcAt tb j : Int)) (kt : 0 ≤ x → bV p l e R s m args below meth c D cA sh A nL tb Q ad N cells slots w j L st) (kf : ¬ 0 ≤ x → bV p l e R s m args below meth c D cA sh A nL tb Q ad N cells slots w (i + 1) L st) : bV p l e R s m args below meth c D cA sh A nL tb Q ad N cells slots w i L (.int x :: st) := by
  intro H locs ls ha hP hS hl
  have hn := pcAt_nx C.2.2.2.2.2.2.1 ht rfl
  have hd := (C.2.2.2.2.2.2.1 i _ ht rfl).1
  rw [pcAt_of ht]
  exact lv_if_ge C.1 C.2.1 hd hj (fun z => kt (z) H locs ls ha hP hS hl) (fun z => by have k := kf (z) H locs ls ha hP hS hl; rw [hn] at k; exact k)
-- lv_icmp_ge: y ≤ x / ¬ y ≤ x
theorem bv_icmp_ge (C : bC p s m args meth c D cA z0 SK SV A nL own cc tb) {x y : Int32} {off : Int} (ht : tb[i]? = some (pc, .if_icmp .ge off)) (hj : (pc : Int) + off = (pcAt tb j : Int)) (kt : y ≤ x → bV p l e R s m args below meth c D cA sh A nL tb Q ad N cells slots w j L st) (kf : ¬ y ≤ x → bV p l e R s m args below meth c D cA sh A nL tb Q ad N cells slots w (i + 1) L st) : bV p l e R s m args below meth c D cA sh A nL tb Q ad N cells slots w i L (.int y :: .int x :: st) := by
  intro H locs ls ha hP hS hl
  have hn := pcAt_nx C.2.2.2.2.2.2.1 ht rfl
  have hd := (C.2.2.2.2.2.2.1 i _ ht rfl).1
  rw [pcAt_of ht]
  exact lv_icmp_ge C.1 C.2.1 hd hj (fun z => kt (z) H locs ls ha hP hS hl) (fun z => by have k := kf (z) H locs ls ha hP hS hl; rw [hn] at k; exact k)
-- lv_if_gt: 0 < x / ¬ 0 < x
theorem bv_if_gt (C : bC p s m args meth c D cA z0 SK SV A nL own cc tb) {x : Int32} {off : Int} (ht : tb[i]? = some (pc, .ifCond .gt off)) (hj : (pc : Int) + off = (pcAt tb j : Int)) (kt : 0 < x → bV p l e R s m args below meth c D cA sh A nL tb Q ad N cells slots w j L st) (kf : ¬ 0 < x → bV p l e R s m args below meth c D cA sh A nL tb Q ad N cells slots w (i + 1) L st) : bV p l e R s m args below meth c D cA sh A nL tb Q ad N cells slots w i L (.int x :: st) := by
  intro H locs ls ha hP hS hl
  have hn := pcAt_nx C.2.2.2.2.2.2.1 ht rfl
  have hd := (C.2.2.2.2.2.2.1 i _ ht rfl).1
  rw [pcAt_of ht]
  exact lv_if_gt C.1 C.2.1 hd hj (fun z => kt (z) H locs ls ha hP hS hl) (fun z => by have k := kf (z) H locs ls ha hP hS hl; rw [hn] at k; exact k)
-- lv_icmp_gt: y < x / ¬ y < x
theorem bv_icmp_gt (C : bC p s m args meth c D cA z0 SK SV A nL own cc tb) {x y : Int32} {off : Int} (ht : tb[i]? = some (pc, .if_icmp .gt off)) (hj : (pc : Int) + off = (pcAt tb j : Int)) (kt : y < x → bV p l e R s m args below meth c D cA sh A nL tb Q ad N cells slots w j L st) (kf : ¬ y < x → bV p l e R s m args below meth c D cA sh A nL tb Q ad N cells slots w (i + 1) L st) : bV p l e R s m args below meth c D cA sh A nL tb Q ad N cells slots w i L (.int y :: .int x :: st) := by
  intro H locs ls ha hP hS hl
  have hn := pcAt_nx C.2.2.2.2.2.2.1 ht rfl
  have hd := (C.2.2.2.2.2.2.1 i _ ht rfl).1
  rw [pcAt_of ht]
  exact lv_icmp_gt C.1 C.2.1 hd hj (fun z => kt (z) H locs ls ha hP hS hl) (fun z => by have k := kf (z) H locs ls ha hP hS hl; rw [hn] at k; exact k)
-- lv_if_le: x ≤ 0 / ¬ x ≤ 0
theorem bv_if_le (C : bC p s m args meth c D cA z0 SK SV A nL own cc tb) {x : Int32} {off : Int} (ht : tb[i]? = some (pc, .ifCond .le off)) (hj : (pc : Int) + off = (pcAt tb j : Int)) (kt : x ≤ 0 → bV p l e R s m args below meth c D cA sh A nL tb Q ad N cells slots w j L st) (kf : ¬ x ≤ 0 → bV p l e R s m args below meth c D cA sh A nL tb Q ad N cells slots w (i + 1) L st) : bV p l e R s m args below meth c D cA sh A nL tb Q ad N cells slots w i L (.int x :: st) := by
  intro H locs ls ha hP hS hl
  have hn := pcAt_nx C.2.2.2.2.2.2.1 ht rfl
  have hd := (C.2.2.2.2.2.2.1 i _ ht rfl).1
  rw [pcAt_of ht]
  exact lv_if_le C.1 C.2.1 hd hj (fun z => kt (z) H locs ls ha hP hS hl) (fun z => by have k := kf (z) H locs ls ha hP hS hl; rw [hn] at k; exact k)
-- lv_icmp_le: x ≤ y / ¬ x ≤ y
theorem bv_icmp_le (C : bC p s m args meth c D cA z0 SK SV A nL own cc tb) {x y : Int32} {off : Int} (ht : tb[i]? = some (pc, .if_icmp .le off)) (hj : (pc : Int) + off = (pcAt tb j : Int)) (kt : x ≤ y → bV p l e R s m args below meth c D cA sh A nL tb Q ad N cells slots w j L st) (kf : ¬ x ≤ y → bV p l e R s m args below meth c D cA sh A nL tb Q ad N cells slots w (i + 1) L st) : bV p l e R s m args below meth c D cA sh A nL tb Q ad N cells slots w i L (.int y :: .int x :: st) := by
  intro H locs ls ha hP hS hl
  have hn := pcAt_nx C.2.2.2.2.2.2.1 ht rfl
  have hd := (C.2.2.2.2.2.2.1 i _ ht rfl).1
  rw [pcAt_of ht]
  exact lv_icmp_le C.1 C.2.1 hd hj (fun z => kt (z) H locs ls ha hP hS hl) (fun z => by have k := kf (z) H locs ls ha hP hS hl; rw [hn] at k; exact k)
theorem bv_goto (C : bC p s m args meth c D cA z0 SK SV A nL own cc tb) {off : Int} (ht : tb[i]? = some (pc, .goto off)) (hj : (pc : Int) + off = (pcAt tb j : Int)) (k : bV p l e R s m args below meth c D cA sh A nL tb Q ad N cells slots w j L st) : bV p l e R s m args below meth c D cA sh A nL tb Q ad N cells slots w i L st := by
  intro H locs ls ha hP hS hl
  have hn := pcAt_nx C.2.2.2.2.2.2.1 ht rfl
  have hd := (C.2.2.2.2.2.2.1 i _ ht rfl).1
  rw [pcAt_of ht]
  exact lv_goto C.1 C.2.1 hd hj (k H locs ls ha hP hS hl)
end BV
