section CI
variable {p : Program} {l : Launch} {e : Env} {R : Room} {s : State} {m : MethodId} {args : Array Value} {below : List Frame} {meth : Method} {c : Code} {D : va_G} {cA : FieldType → ClassId} {z0 : Nat} {SK : Nat → Nat} {SV : Nat → Int32} {sh : Sh} {A : Nat → Prop} {nL : Nat} {own : String} {cc : ByteArray} {tb : Tb} {Q : State → Prop} {ad : Nat → Nat} {N cells slots : Nat} {w w1 : Wd} {i j pc : Nat} {L L1 : Lc} {st st1 r : List Value}
theorem cvv_id (v : Value) : cvv (fun o => o) v = v := by cases v <;> rfl
theorem bEmb_id : bEmb (fun o => o) N sh w N sh w := ⟨fun o ho => ⟨ho, rfl⟩, fun _ _ _ _ h => h, fun o _ k _ => (cvv_id _).symm⟩
theorem bAft_id : bAft (fun o => o) N sh w1 N sh w w1 := ⟨fun o _ k _ => (cvv_id _).symm, fun a ha h => absurd rfl (h a ha)⟩
theorem map_id_cv (l : List Value) : l.map (cvv fun o => o) = l := by
  rw [List.map_congr_left (g := id) (fun v _ => cvv_id v), List.map_id]
theorem opt_id_cv (r : Option Value) : r.map (cvv fun o => o) = r := by cases r <;> simp [cvv_id]
theorem bv_callVi (C : bC p s m args meth c D cA z0 SK SV A nL own cc tb) {P : Option Value → Wd → Prop} {stk rest As : List Value} {y : MethodName} {bytes : ByteArray} {maxL d idx n : Nat} {o0 ci nn : Nat} {q : vw_C} {ret : Option FieldType} (ht : tb[i]? = some (pc, .invokevirtual idx)) (hM : bCT l D cA z0 SK SV ad sh N y bytes maxL ret d (.ref o0 :: As) w P)
    (hlk : Cond.methodLink own idx y ∈ ALLW) (him : Cond.instanceMethod y ∈ ALLW) (hsel : Cond.selects y.cls y y ∈ ALLW) (hini : Cond.initialized y.cls ∈ ALLW) (hcd : Cond.code y bytes maxL ret ∈ ALLW) (hok : callOK y n) (hn : As.length = n)
    (hR : d + 1 ≤ R.frames ∧ 8 + (maxL + 11) + 41 * d ≤ R.locals) (hR2 : cells ≤ R.cells ∧ slots ≤ R.slots) (ho : o0 < N) (hs0 : sh o0 = .inr (ci, nn)) (hcq : vwCl[ci]? = some q) (hq : q.1 = y.cls) (hst : stk = As.reverse ++ .ref o0 :: rest) (hcat : (rest.map fun v => v.category).sum ≤ 8)
    (kk : ∀ (r : Option Value) (w1 : Wd), P r w1 → bV p l e R s m args below meth c D cA sh A nL tb Q ad N cells slots w1 (i + 1) L (r.toList ++ rest)) : bV p l e R s m args below meth c D cA sh A nL tb Q ad N cells slots w i L stk :=
  bv_callV (io := fun o => o) (N' := N) (sh' := sh) (w0 := w) C ht hM hlk him hsel hini hcd hok hn hR hR2 ho hs0 hcq hq (by rw [map_id_cv]; exact hst) hcat bEmb_id (fun r w1 h => ⟨w1, bAft_id, by rw [opt_id_cv]; exact kk r w1 h⟩)
theorem bv_callSi (C : bC p s m args meth c D cA z0 SK SV A nL own cc tb) {P : Option Value → Wd → Prop} {stk rest As : List Value} {y : MethodName} {bytes : ByteArray} {maxL d idx n : Nat} {ret : Option FieldType} (ht : tb[i]? = some (pc, .invokestatic idx)) (hM : bCT l D cA z0 SK SV ad sh N y bytes maxL ret d (As) w P)
    (hlk : Cond.methodLink own idx y ∈ ALLW) (hstat : Cond.static y ∈ ALLW) (hini : Cond.initialized y.cls ∈ ALLW) (hcd : Cond.code y bytes maxL ret ∈ ALLW) (hok : callOK y n) (hn : As.length = n)
    (hR : d + 1 ≤ R.frames ∧ 8 + (maxL + 11) + 41 * d ≤ R.locals) (hR2 : cells ≤ R.cells ∧ slots ≤ R.slots) (hst : stk = As.reverse ++ rest) (hcat : (rest.map fun v => v.category).sum ≤ 8)
    (kk : ∀ (r : Option Value) (w1 : Wd), P r w1 → bV p l e R s m args below meth c D cA sh A nL tb Q ad N cells slots w1 (i + 1) L (r.toList ++ rest)) : bV p l e R s m args below meth c D cA sh A nL tb Q ad N cells slots w i L stk :=
  bv_callS (io := fun o => o) (N' := N) (sh' := sh) (w0 := w) C ht hM hlk hstat hini hcd hok hn hR hR2 (by rw [map_id_cv]; exact hst) hcat bEmb_id (fun r w1 h => ⟨w1, bAft_id, by rw [opt_id_cv]; exact kk r w1 h⟩)
/-- a contract that tells answer and world -/
def bF (l : Launch) (D : va_G) (cA : FieldType → ClassId) (z0 : Nat) (SK : Nat → Nat) (SV : Nat → Int32) (ad : Nat → Nat) (sh : Sh) (N : Nat) (y : MethodName) (bytes : ByteArray) (maxL : Nat) (ret : Option FieldType) (d : Nat) (As : List Value) (w : Wd) (v : Option Value) (w' : Wd) : Prop :=
  bCT l D cA z0 SK SV ad sh N y bytes maxL ret d As w (fun r w1 => r = v ∧ w1 = w')
theorem bv_fV0 (C : bC p s m args meth c D cA z0 SK SV A nL own cc tb) {stk rest As : List Value} {y : MethodName} {bytes : ByteArray} {maxL d idx n : Nat} {o0 ci nn : Nat} {q : vw_C} {ret : Option FieldType} (ht : tb[i]? = some (pc, .invokevirtual idx)) (hM : bF l D cA z0 SK SV ad sh N y bytes maxL ret d (.ref o0 :: As) w none w1)
    (hlk : Cond.methodLink own idx y ∈ ALLW) (him : Cond.instanceMethod y ∈ ALLW) (hsel : Cond.selects y.cls y y ∈ ALLW) (hini : Cond.initialized y.cls ∈ ALLW) (hcd : Cond.code y bytes maxL ret ∈ ALLW) (hok : callOK y n) (hn : As.length = n)
    (hR : d + 1 ≤ R.frames ∧ 8 + (maxL + 11) + 41 * d ≤ R.locals) (hR2 : cells ≤ R.cells ∧ slots ≤ R.slots) (ho : o0 < N) (hs0 : sh o0 = .inr (ci, nn)) (hcq : vwCl[ci]? = some q) (hq : q.1 = y.cls) (hst : stk = As.reverse ++ .ref o0 :: rest) (hcat : (rest.map fun v => v.category).sum ≤ 8)
    (kk : bV p l e R s m args below meth c D cA sh A nL tb Q ad N cells slots w1 (i + 1) L (rest)) : bV p l e R s m args below meth c D cA sh A nL tb Q ad N cells slots w i L stk :=
  bv_callVi C ht hM hlk him hsel hini hcd hok hn hR hR2 ho hs0 hcq hq hst hcat (fun r w2 h => by obtain ⟨rfl, rfl⟩ := h; exact kk)
theorem bv_fV1 (C : bC p s m args meth c D cA z0 SK SV A nL own cc tb) {stk rest As : List Value} {y : MethodName} {bytes : ByteArray} {maxL d idx n : Nat} {o0 ci nn : Nat} {q : vw_C} {v : Value} {ret : Option FieldType} (ht : tb[i]? = some (pc, .invokevirtual idx)) (hM : bF l D cA z0 SK SV ad sh N y bytes maxL ret d (.ref o0 :: As) w (some v) w1)
    (hlk : Cond.methodLink own idx y ∈ ALLW) (him : Cond.instanceMethod y ∈ ALLW) (hsel : Cond.selects y.cls y y ∈ ALLW) (hini : Cond.initialized y.cls ∈ ALLW) (hcd : Cond.code y bytes maxL ret ∈ ALLW) (hok : callOK y n) (hn : As.length = n)
    (hR : d + 1 ≤ R.frames ∧ 8 + (maxL + 11) + 41 * d ≤ R.locals) (hR2 : cells ≤ R.cells ∧ slots ≤ R.slots) (ho : o0 < N) (hs0 : sh o0 = .inr (ci, nn)) (hcq : vwCl[ci]? = some q) (hq : q.1 = y.cls) (hst : stk = As.reverse ++ .ref o0 :: rest) (hcat : (rest.map fun v => v.category).sum ≤ 8)
    (kk : bV p l e R s m args below meth c D cA sh A nL tb Q ad N cells slots w1 (i + 1) L (v :: rest)) : bV p l e R s m args below meth c D cA sh A nL tb Q ad N cells slots w i L stk :=
  bv_callVi C ht hM hlk him hsel hini hcd hok hn hR hR2 ho hs0 hcq hq hst hcat (fun r w2 h => by obtain ⟨rfl, rfl⟩ := h; exact kk)
theorem bv_fS1 (C : bC p s m args meth c D cA z0 SK SV A nL own cc tb) {stk rest As : List Value} {y : MethodName} {bytes : ByteArray} {maxL d idx n : Nat} {v : Value} {ret : Option FieldType} (ht : tb[i]? = some (pc, .invokestatic idx)) (hM : bF l D cA z0 SK SV ad sh N y bytes maxL ret d (As) w (some v) w1)
    (hlk : Cond.methodLink own idx y ∈ ALLW) (hstat : Cond.static y ∈ ALLW) (hini : Cond.initialized y.cls ∈ ALLW) (hcd : Cond.code y bytes maxL ret ∈ ALLW) (hok : callOK y n) (hn : As.length = n)
    (hR : d + 1 ≤ R.frames ∧ 8 + (maxL + 11) + 41 * d ≤ R.locals) (hR2 : cells ≤ R.cells ∧ slots ≤ R.slots) (hst : stk = As.reverse ++ rest) (hcat : (rest.map fun v => v.category).sum ≤ 8)
    (kk : bV p l e R s m args below meth c D cA sh A nL tb Q ad N cells slots w1 (i + 1) L (v :: rest)) : bV p l e R s m args below meth c D cA sh A nL tb Q ad N cells slots w i L stk :=
  bv_callSi C ht hM hlk hstat hini hcd hok hn hR hR2 hst hcat (fun r w2 h => by obtain ⟨rfl, rfl⟩ := h; exact kk)
theorem bv_sub {L' : Lc} (ks : List Nat) (h : ks.filterMap (fun k => L[k]?) = L') (k : bV p l e R s m args below meth c D cA sh A nL tb Q ad N cells slots w i L' st) : bV p l e R s m args below meth c D cA sh A nL tb Q ad N cells slots w i L st := by
  intro H locs ls ha hP hS hl
  refine k H locs ls ha hP hS ⟨hl.1, hl.2.1, fun q hq => hl.2.2 q ?_⟩
  obtain ⟨q0, h1, rfl⟩ := List.mem_map.mp hq
  subst h
  obtain ⟨a, -, h2⟩ := List.mem_filterMap.mp h1
  exact List.mem_map.mpr ⟨q0, List.mem_of_getElem? h2, rfl⟩
theorem bv_weq {w2 : Wd} (h : w = w2) (k : bV p l e R s m args below meth c D cA sh A nL tb Q ad N cells slots w2 i L st) : bV p l e R s m args below meth c D cA sh A nL tb Q ad N cells slots w i L st := by rw [h]; exact k
end CI
/-! numbers -/
theorem nIa {x y : Int32} {a b : Nat} (h1 : x = nI a) (h2 : y = nI b) : x + y = nI (a + b) := by rw [h1, h2, nI_add]
theorem nIm {x y : Int32} {a b : Nat} (h1 : x = nI a) (h2 : y = nI b) : x * y = nI (a * b) := by rw [h1, h2, pk_mul]
theorem nIs {x y : Int32} {a b : Nat} (h1 : x = nI a) (h2 : y = nI b) (h : b ≤ a) : x - y = nI (a - b) := by rw [h1, h2, pk_sub h]
theorem nIi {x : Int32} {a : Nat} (h1 : x = nI a) : x + Int32.ofInt 1 = nI (a + 1) := by rw [h1]; exact nI_1 a
def b2i (b : Bool) : Int32 := if b then 1 else 0
def ug (g : Nat → Nat → Int32) (i k : Nat) (x : Int32) : Nat → Nat → Int32 := fun a b => if a = i then (if b = k then x else g a b) else g a b
theorem ug_same {g : Nat → Nat → Int32} {i k : Nat} {x : Int32} : ug g i k x i k = x := by simp [ug]
theorem ug_ne {g : Nat → Nat → Int32} {i k a b : Nat} {x : Int32} (h : ¬ (a = i ∧ b = k)) : ug g i k x a b = g a b := by
  unfold ug
  split
  · next h1 =>
    split
    · next h2 => exact absurd ⟨h1, h2⟩ h
    · rfl
  · rfl
def partT (k : Nat) : UInt32 := [1065353216, 1065852029, 1066380502, 1066940400, 1067533592, 1068162056, 1068827891, 1069533319, 1070280693, 1071072509, 1071911408, 1072800191].getD k 0
def lettT (k : Nat) : Int32 := [115, 116, 97, 116, 105, 111, 110, 112, 97, 116, 104, 100, 114, 105, 102, 116, 116, 104, 114, 101, 115, 104, 111, 108, 100, 102, 97, 100, 101, 112, 97, 116].getD k 0
def restT (k : Nat) : Int32 := [105, 101, 110, 99, 101].getD k 0
