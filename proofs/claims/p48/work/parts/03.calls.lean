theorem vRf_cv (ad : Nat → Nat) (v : Value) : vRfn ad v = vRfn (fun a => a) (cvv ad v) := by cases v <;> rfl
theorem vInt_cv (ad : Nat → Nat) (v : Value) : vInt v = vInt (cvv ad v) := by cases v <;> rfl
theorem vFlt_cv (ad : Nat → Nat) (v : Value) : vFlt v = vFlt (cvv ad v) := by cases v <;> rfl
theorem cvv_cvv (ad io : Nat → Nat) (v : Value) : cvv ad (cvv io v) = cvv (fun o => ad (io o)) v := by cases v <;> rfl
theorem arrV_congr {cI : ClassId} {n : Nat} {f g : Nat → Value} (h : ∀ k, k < n → f k = g k) : arrV cI n f = arrV cI n g := by
  have e : (fun j : Fin n => f j.val) = fun j : Fin n => g j.val := funext fun j => h j.val j.isLt
  simp only [arrV, e]
theorem cell_congr {cI : ClassId} {n : Nat} {ty : FieldType} {ad ad' : Nat → Nat} {f g : Nat → Value} (h : ∀ k, k < n → cvv ad (f k) = cvv ad' (g k)) : vp_cell cI (n, arE ad ty f) = vp_cell cI (n, arE ad' ty g) := by
  have hi : ∀ k, k < n → Value.int (vInt (f k)) = Value.int (vInt (g k)) := fun k hk => by rw [vInt_cv ad, vInt_cv ad' (g k), h k hk]
  have hf : ∀ k, k < n → Value.float (vFlt (f k)) = Value.float (vFlt (g k)) := fun k hk => by rw [vFlt_cv ad, vFlt_cv ad' (g k), h k hk]
  have hr : ∀ k, k < n → va_rf (vRfn ad (f k)) = va_rf (vRfn ad' (g k)) := fun k hk => by rw [vRf_cv ad, vRf_cv ad' (g k), h k hk]
  cases ty <;> simp only [arE, vp_cell] <;> first | exact arrV_congr hi | exact arrV_congr hf | exact arrV_congr hr
theorem at_congr {D : va_G} {cA : FieldType → ClassId} {ad ad' : Nat → Nat} {sh sh' : Sh} {w w' : Wd} {i j x : Nat} {H : Heap} (hs : sh i = sh' j) (h : ∀ k, k < szE (sh i) → cvv ad (w i k) = cvv ad' (w' j k)) (ha : va_at D vwCl (x, cel cA ad sh w i) H) : va_at D vwCl (x, cel cA ad' sh' w' j) H := by
  cases hq : sh i with
  | inl a =>
    obtain ⟨ty, n⟩ := a
    rw [cel_inl hq] at ha
    rw [cel_inl (hs.symm.trans hq)]
    rw [hq] at h
    have ha : H[x]? = some (vp_cell (cA ty) (n, arE ad ty (w i))) := ha
    show H[x]? = some (vp_cell (cA ty) (n, arE ad' ty (w' j)))
    have h : ∀ k, k < n → cvv ad (w i k) = cvv ad' (w' j k) := h
    rw [ha, cell_congr h]
  | inr b =>
    obtain ⟨ci, n⟩ := b
    rw [cel_inr hq] at ha
    rw [cel_inr (hs.symm.trans hq)]
    rw [hq] at h
    have e : ((List.range n).map fun k => cvv ad (w i k)) = (List.range n).map fun k => cvv ad' (w' j k) := by
      apply List.map_congr_left
      intro k hk
      exact h k (List.mem_range.mp hk)
    rw [← e]
    exact ha
theorem wls_congr {D : va_G} {cA : FieldType → ClassId} {ad : Nat → Nat} {sh : Sh} {w w' : Wd} {N : Nat} {H : Heap} (h : wEq sh N w w') (hP : va_P D vwCl (wls cA ad sh w N) H) : va_P D vwCl (wls cA ad sh w' N) H := by
  intro k q hq
  obtain ⟨hk, rfl⟩ := wls_inv hq
  exact at_congr rfl (fun b hb => by rw [h k hk b hb]) (hP k _ (wls_get hk))
section BW
variable {p : Program} {l : Launch} {e : Env} {R : Room} {s : State} {m : MethodId} {args : Array Value} {below : List Frame} {meth : Method} {c : Code} {D : va_G} {cA : FieldType → ClassId} {z0 : Nat} {SK : Nat → Nat} {SV : Nat → Int32} {sh : Sh} {A : Nat → Prop} {nL : Nat} {own : String} {cc : ByteArray} {tb : Tb} {Q : State → Prop} {ad : Nat → Nat} {N cells slots : Nat} {w w' : Wd} {i j pc : Nat} {L : Lc} {st r : List Value}
theorem bv_w (h : wEq sh N w w') (k : bV p l e R s m args below meth c D cA sh A nL tb Q ad N cells slots w' i L st) : bV p l e R s m args below meth c D cA sh A nL tb Q ad N cells slots w i L st :=
  fun H locs ls ha hP hS hl => k H locs ls ha (wls_congr h hP) hS hl
/-- what the tables say of a class -/
def clOK (ci : Nat) (Cn : String) (T : u_T) (n : Nat) : Prop := vwCl[ci]? = some (Cn, T, n) ∧ (∀ w ∈ u_ws Cn T n, w ∈ ALLW) ∧ (∃ ty0 : Nat → FieldType, ∀ k, k < n → parseFieldDescriptor (T k).2.2.1 = some (ty0 k)) ∧ ∀ a, a < n → ∀ b, b < n → a ≠ b → (T a).2.1 ≠ (T b).2.1
theorem bv_get (C : bC p s m args meth c D cA z0 SK SV A nL own cc tb) {Cn : String} {T : u_T} {n n2 ci a k idx : Nat} (ht : tb[i]? = some (pc, .getfield idx)) (hc : clOK ci Cn T n) (hlk : Cond.fieldLink own idx (T k).1 (T k).2.1 (T k).2.2.1 ∈ ALLW) (hk : k < n) (hsh : sh a = .inr (ci, n2)) (hk2 : k < n2) (haN : a < N) (kk : bV p l e R s m args below meth c D cA sh A nL tb Q ad N cells slots w (i + 1) L (w a k :: r)) : bV p l e R s m args below meth c D cA sh A nL tb Q ad N cells slots w i L (.ref a :: r) := by
  intro H locs ls ha hP hS hl
  have hn := pcAt_nx C.2.2.2.2.2.2.1 ht rfl
  have hd := (C.2.2.2.2.2.2.1 i _ ht rfl).1
  rw [pcAt_of ht]
  have hK := C.2.2.2.2.2.1.1
  have kk := kk H locs ls ha hP hS hl
  rw [hn] at kk
  have he := wls_get (cA := cA) (ad := ad) (sh := sh) (w := w) haN
  rw [cel_inr hsh] at he
  exact va_get C.1 C.2.1 (C.2.2.2.2.1) hc.2.1 C.2.2.2.1 hK hP a he hc.1 k hk (C.2.2.2.2.1 _ hlk) (fun _ h9 => h9) (fs_get hk2) hd kk
theorem bv_put (C : bC p s m args meth c D cA z0 SK SV A nL own cc tb) {Cn : String} {T : u_T} {n n2 ci a k idx : Nat} {ty : FieldType} {v : Value} (ht : tb[i]? = some (pc, .putfield idx)) (hc : clOK ci Cn T n) (hlk : Cond.fieldLink own idx (T k).1 (T k).2.1 (T k).2.2.1 ∈ ALLW) (hk : k < n) (hfin : (T k).2.2.2 = false) (hty : parseFieldDescriptor (T k).2.2.1 = some ty) (hnr : narrow ty (cvv ad v) = cvv ad v) (hft : fits ty (cvv ad v) = true) (hsh : sh a = .inr (ci, n2)) (hk2 : k < n2) (haN : a < N) (kk : bV p l e R s m args below meth c D cA sh A nL tb Q ad N cells slots (up2 w a k v) (i + 1) L r) : bV p l e R s m args below meth c D cA sh A nL tb Q ad N cells slots w i L (v :: .ref a :: r) := by
  intro H locs ls ha hP hS hl
  have hn := pcAt_nx C.2.2.2.2.2.2.1 ht rfl
  have hd := (C.2.2.2.2.2.2.1 i _ ht rfl).1
  rw [pcAt_of ht]
  have hK := C.2.2.2.2.2.1.1
  have he := wls_get (cA := cA) (ad := ad) (sh := sh) (w := w) haN
  rw [cel_inr hsh] at he
  obtain ⟨ty0, hty0⟩ := hc.2.2.1
  refine va_put C.1 C.2.1 (C.2.2.2.2.1) hc.2.1 ty0 hty0 hc.2.2.2 C.2.2.2.1 hK hP ha.vaD hS a he hc.1 k hk (C.2.2.2.2.1 _ hlk) (fun _ h9 => h9) hfin hty hnr hft (by simp; exact hk2) hd (fun H1 locs1 hP1 hD1 hS1 => ?_)
  rw [wls_set haN (cel_put hsh)] at hP1
  have kk := kk H1 locs1 ls ha hP1 hS1 hl
  rw [hn] at kk
  exact kk
theorem bv_putF (C : bC p s m args meth c D cA z0 SK SV A nL own cc tb) {Cn : String} {T : u_T} {n n2 ci a k idx : Nat} {ty : FieldType} {v : Value} (ht : tb[i]? = some (pc, .putfield idx)) (hc : clOK ci Cn T n) (hlk : Cond.fieldLink own idx (T k).1 (T k).2.1 (T k).2.2.1 ∈ ALLW) (hk : k < n) (hfin : (T k).2.2.2 = true) (hin2 : meth.name = "<init>") (hdecl : (T k).1 = own) (hty : parseFieldDescriptor (T k).2.2.1 = some ty) (hnr : narrow ty (cvv ad v) = cvv ad v) (hft : fits ty (cvv ad v) = true) (hsh : sh a = .inr (ci, n2)) (hk2 : k < n2) (haN : a < N) (kk : bV p l e R s m args below meth c D cA sh A nL tb Q ad N cells slots (up2 w a k v) (i + 1) L r) : bV p l e R s m args below meth c D cA sh A nL tb Q ad N cells slots w i L (v :: .ref a :: r) := by
  intro H locs ls ha hP hS hl
  have hn := pcAt_nx C.2.2.2.2.2.2.1 ht rfl
  have hd := (C.2.2.2.2.2.2.1 i _ ht rfl).1
  rw [pcAt_of ht]
  have hK := C.2.2.2.2.2.1.1
  have he := wls_get (cA := cA) (ad := ad) (sh := sh) (w := w) haN
  rw [cel_inr hsh] at he
  obtain ⟨ty0, hty0⟩ := hc.2.2.1
  refine va_putF C.1 C.2.1 (C.2.2.2.2.1) hc.2.1 ty0 hty0 hc.2.2.2 C.2.2.2.1 hK hP ha.vaD hS a he hc.1 k hk (C.2.2.2.2.1 _ hlk) (fun _ h9 => h9) hfin hin2 hdecl hty hnr hft (by simp; exact hk2) hd (fun H1 locs1 hP1 hD1 hS1 => ?_)
  rw [wls_set haN (cel_put hsh)] at hP1
  have kk := kk H1 locs1 ls ha hP1 hS1 hl
  rw [hn] at kk
  exact kk
theorem bv_iald (C : bC p s m args meth c D cA z0 SK SV A nL own cc tb) {a n j : Nat} {x : Int32} {y : Int32} (ht : tb[i]? = some (pc, .iaload)) (hsh : sh a = .inl (.int, n)) (haN : a < N) (hx : x = nI j) (hj : j < n) (hn2 : n < 2 ^ 31) (hv : w a j = .int y) (kk : bV p l e R s m args below meth c D cA sh A nL tb Q ad N cells slots w (i + 1) L (.int y :: r)) : bV p l e R s m args below meth c D cA sh A nL tb Q ad N cells slots w i L (.int x :: .ref a :: r) := by
  intro H locs ls ha hP hS hl
  have hn := pcAt_nx C.2.2.2.2.2.2.1 ht rfl
  have hd := (C.2.2.2.2.2.2.1 i _ ht rfl).1
  rw [pcAt_of ht]
  have hK := C.2.2.2.2.2.1.1
  subst hx
  have kk := kk H locs ls ha hP hS hl
  rw [hn] at kk
  have he := wls_get (cA := cA) (ad := ad) (sh := sh) (w := w) haN
  rw [cel_inl hsh] at he
  refine va_iald C.1 C.2.1 hK hP a 0 he rfl (vp_in_nI hj hn2) hd ?_
  rw [nI_clamp (by omega : j < 2 ^ 31), show vInt (w a j) = y by rw [hv]; rfl]
  exact kk
theorem bv_cald (C : bC p s m args meth c D cA z0 SK SV A nL own cc tb) {a n j : Nat} {x : Int32} {y : Int32} (ht : tb[i]? = some (pc, .caload)) (hsh : sh a = .inl (.char, n)) (haN : a < N) (hx : x = nI j) (hj : j < n) (hn2 : n < 2 ^ 31) (hv : w a j = .int y) (kk : bV p l e R s m args below meth c D cA sh A nL tb Q ad N cells slots w (i + 1) L (.int y :: r)) : bV p l e R s m args below meth c D cA sh A nL tb Q ad N cells slots w i L (.int x :: .ref a :: r) := by
  intro H locs ls ha hP hS hl
  have hn := pcAt_nx C.2.2.2.2.2.2.1 ht rfl
  have hd := (C.2.2.2.2.2.2.1 i _ ht rfl).1
  rw [pcAt_of ht]
  have hK := C.2.2.2.2.2.1.1
  subst hx
  have kk := kk H locs ls ha hP hS hl
  rw [hn] at kk
  have he := wls_get (cA := cA) (ad := ad) (sh := sh) (w := w) haN
  rw [cel_inl hsh] at he
  refine va_cald C.1 C.2.1 hK hP a 1 he rfl (vp_in_nI hj hn2) hd ?_
  rw [nI_clamp (by omega : j < 2 ^ 31), show vInt (w a j) = y by rw [hv]; rfl]
  exact kk
theorem bv_aaldState (C : bC p s m args meth c D cA z0 SK SV A nL own cc tb) {a n j : Nat} {x : Int32} {y : Nat} (ht : tb[i]? = some (pc, .aaload)) (hsh : sh a = .inl (.object "BeamTraining$State", n)) (haN : a < N) (hx : x = nI j) (hj : j < n) (hn2 : n < 2 ^ 31) (hv : w a j = .ref y) (kk : bV p l e R s m args below meth c D cA sh A nL tb Q ad N cells slots w (i + 1) L (.ref y :: r)) : bV p l e R s m args below meth c D cA sh A nL tb Q ad N cells slots w i L (.int x :: .ref a :: r) := by
  intro H locs ls ha hP hS hl
  have hn := pcAt_nx C.2.2.2.2.2.2.1 ht rfl
  have hd := (C.2.2.2.2.2.2.1 i _ ht rfl).1
  rw [pcAt_of ht]
  have hK := C.2.2.2.2.2.1.1
  subst hx
  have kk := kk H locs ls ha hP hS hl
  rw [hn] at kk
  have he := wls_get (cA := cA) (ad := ad) (sh := sh) (w := w) haN
  rw [cel_inl hsh] at he
  refine va_aldq C.1 C.2.1 hK hP a 3 he rfl (vp_in_nI hj hn2) hd ?_
  rw [nI_clamp (by omega : j < 2 ^ 31), show vRfn ad (w a j) = some (ad y) by rw [hv]; rfl]
  exact kk
theorem bv_aastState (C : bC p s m args meth c D cA z0 SK SV A nL own cc tb) {a n j y n2 : Nat} {x : Int32} (ht : tb[i]? = some (pc, .aastore)) (hsh : sh a = .inl (.object "BeamTraining$State", n)) (haN : a < N) (hx : x = nI j) (hj : j < n) (hn2 : n < 2 ^ 31) (hy : sh y = .inr (5, n2)) (hyN : y < N) (kk : bV p l e R s m args below meth c D cA sh A nL tb Q ad N cells slots (up2 w a j (.ref y)) (i + 1) L r) : bV p l e R s m args below meth c D cA sh A nL tb Q ad N cells slots w i L (.ref y :: .int x :: .ref a :: r) := by
  intro H locs ls ha hP hS hl
  have hn := pcAt_nx C.2.2.2.2.2.2.1 ht rfl
  have hd := (C.2.2.2.2.2.2.1 i _ ht rfl).1
  rw [pcAt_of ht]
  have hK := C.2.2.2.2.2.1.1
  subst hx
  have he := wls_get (cA := cA) (ad := ad) (sh := sh) (w := w) haN
  rw [cel_inl hsh] at he
  have hy2 := wls_get (cA := cA) (ad := ad) (sh := sh) (w := w) hyN
  rw [cel_inr hy] at hy2
  refine va_astq C.1 C.2.1 hK hP ha.vaD hS a 3 y 5 (r := (RX6, TX6, 18)) he rfl hy2 rfl (vp_in_nI hj hn2) hd (fun H1 locs1 hP1 hD1 hS1 => ?_)
  rw [nI_clamp (by omega : j < 2 ^ 31), wls_set haN (cel_astR hsh)] at hP1
  have kk := kk H1 locs1 ls ha hP1 hS1 hl
  rw [hn] at kk
  exact kk
theorem bv_aaldPath (C : bC p s m args meth c D cA z0 SK SV A nL own cc tb) {a n j : Nat} {x : Int32} {y : Nat} (ht : tb[i]? = some (pc, .aaload)) (hsh : sh a = .inl (.object "BeamTraining$Path", n)) (haN : a < N) (hx : x = nI j) (hj : j < n) (hn2 : n < 2 ^ 31) (hv : w a j = .ref y) (kk : bV p l e R s m args below meth c D cA sh A nL tb Q ad N cells slots w (i + 1) L (.ref y :: r)) : bV p l e R s m args below meth c D cA sh A nL tb Q ad N cells slots w i L (.int x :: .ref a :: r) := by
  intro H locs ls ha hP hS hl
  have hn := pcAt_nx C.2.2.2.2.2.2.1 ht rfl
  have hd := (C.2.2.2.2.2.2.1 i _ ht rfl).1
  rw [pcAt_of ht]
  have hK := C.2.2.2.2.2.1.1
  subst hx
  have kk := kk H locs ls ha hP hS hl
  rw [hn] at kk
  have he := wls_get (cA := cA) (ad := ad) (sh := sh) (w := w) haN
  rw [cel_inl hsh] at he
  refine va_aldq C.1 C.2.1 hK hP a 4 he rfl (vp_in_nI hj hn2) hd ?_
  rw [nI_clamp (by omega : j < 2 ^ 31), show vRfn ad (w a j) = some (ad y) by rw [hv]; rfl]
  exact kk
theorem bv_aastPath (C : bC p s m args meth c D cA z0 SK SV A nL own cc tb) {a n j y n2 : Nat} {x : Int32} (ht : tb[i]? = some (pc, .aastore)) (hsh : sh a = .inl (.object "BeamTraining$Path", n)) (haN : a < N) (hx : x = nI j) (hj : j < n) (hn2 : n < 2 ^ 31) (hy : sh y = .inr (3, n2)) (hyN : y < N) (kk : bV p l e R s m args below meth c D cA sh A nL tb Q ad N cells slots (up2 w a j (.ref y)) (i + 1) L r) : bV p l e R s m args below meth c D cA sh A nL tb Q ad N cells slots w i L (.ref y :: .int x :: .ref a :: r) := by
  intro H locs ls ha hP hS hl
  have hn := pcAt_nx C.2.2.2.2.2.2.1 ht rfl
  have hd := (C.2.2.2.2.2.2.1 i _ ht rfl).1
  rw [pcAt_of ht]
  have hK := C.2.2.2.2.2.1.1
  subst hx
  have he := wls_get (cA := cA) (ad := ad) (sh := sh) (w := w) haN
  rw [cel_inl hsh] at he
  have hy2 := wls_get (cA := cA) (ad := ad) (sh := sh) (w := w) hyN
  rw [cel_inr hy] at hy2
  refine va_astq C.1 C.2.1 hK hP ha.vaD hS a 4 y 3 (r := (RX3, TX3, 6)) he rfl hy2 rfl (vp_in_nI hj hn2) hd (fun H1 locs1 hP1 hD1 hS1 => ?_)
  rw [nI_clamp (by omega : j < 2 ^ 31), wls_set haN (cel_astR hsh)] at hP1
  have kk := kk H1 locs1 ls ha hP1 hS1 hl
  rw [hn] at kk
  exact kk
theorem bv_iast (C : bC p s m args meth c D cA z0 SK SV A nL own cc tb) {a n j : Nat} {x x0 : Int32} (ht : tb[i]? = some (pc, .iastore)) (hsh : sh a = .inl (.int, n)) (haN : a < N) (hx : x = nI j) (hj : j < n) (hn2 : n < 2 ^ 31) (kk : bV p l e R s m args below meth c D cA sh A nL tb Q ad N cells slots (up2 w a j (.int x0)) (i + 1) L r) : bV p l e R s m args below meth c D cA sh A nL tb Q ad N cells slots w i L (.int x0 :: .int x :: .ref a :: r) := by
  intro H locs ls ha hP hS hl
  have hn := pcAt_nx C.2.2.2.2.2.2.1 ht rfl
  have hd := (C.2.2.2.2.2.2.1 i _ ht rfl).1
  rw [pcAt_of ht]
  have hK := C.2.2.2.2.2.1.1
  subst hx
  have he := wls_get (cA := cA) (ad := ad) (sh := sh) (w := w) haN
  rw [cel_inl hsh] at he
  refine va_iast C.1 C.2.1 hK hP ha.vaD hS a 0 he rfl (vp_in_nI hj hn2) hd (fun H1 locs1 hP1 hD1 hS1 => ?_)
  rw [nI_clamp (by omega : j < 2 ^ 31), wls_set haN (cel_ast hsh (by simp))] at hP1
  have kk := kk H1 locs1 ls ha hP1 hS1 hl
  rw [hn] at kk
  exact kk
theorem bv_cast (C : bC p s m args meth c D cA z0 SK SV A nL own cc tb) {a n j : Nat} {x x0 : Int32} (ht : tb[i]? = some (pc, .castore)) (hsh : sh a = .inl (.char, n)) (haN : a < N) (hx : x = nI j) (hj : j < n) (hn2 : n < 2 ^ 31) (hnr : vp_nar .char x0 = x0) (kk : bV p l e R s m args below meth c D cA sh A nL tb Q ad N cells slots (up2 w a j (.int x0)) (i + 1) L r) : bV p l e R s m args below meth c D cA sh A nL tb Q ad N cells slots w i L (.int x0 :: .int x :: .ref a :: r) := by
  intro H locs ls ha hP hS hl
  have hn := pcAt_nx C.2.2.2.2.2.2.1 ht rfl
  have hd := (C.2.2.2.2.2.2.1 i _ ht rfl).1
  rw [pcAt_of ht]
  have hK := C.2.2.2.2.2.1.1
  subst hx
  have he := wls_get (cA := cA) (ad := ad) (sh := sh) (w := w) haN
  rw [cel_inl hsh] at he
  refine va_cast C.1 C.2.1 hK hP ha.vaD hS a 1 he rfl (vp_in_nI hj hn2) hd (fun H1 locs1 hP1 hD1 hS1 => ?_)
  rw [nI_clamp (by omega : j < 2 ^ 31), hnr, wls_set haN (cel_ast hsh (by simp))] at hP1
  have kk := kk H1 locs1 ls ha hP1 hS1 hl
  rw [hn] at kk
  exact kk
theorem bv_alen (C : bC p s m args meth c D cA z0 SK SV A nL own cc tb) {a n : Nat} {ty : FieldType} (t0 : Nat) (ht : tb[i]? = some (pc, .arraylength)) (hsh : sh a = .inl (ty, n)) (hty : (tysOf cA)[t0]? = some (cA ty, ty)) (haN : a < N) (kk : bV p l e R s m args below meth c D cA sh A nL tb Q ad N cells slots w (i + 1) L (.int (nI n) :: r)) : bV p l e R s m args below meth c D cA sh A nL tb Q ad N cells slots w i L (.ref a :: r) := by
  intro H locs ls ha hP hS hl
  have hn := pcAt_nx C.2.2.2.2.2.2.1 ht rfl
  have hd := (C.2.2.2.2.2.2.1 i _ ht rfl).1
  rw [pcAt_of ht]
  have hK := C.2.2.2.2.2.1.1
  have kk := kk H locs ls ha hP hS hl
  rw [hn] at kk
  have he := wls_get (cA := cA) (ad := ad) (sh := sh) (w := w) haN
  rw [cel_inl hsh] at he
  exact va_alen C.1 C.2.1 hK hP a t0 he hty rfl hd kk
/-! CONTRACTS -/
def bR (d : Nat) : Room := { frames := d, cells := 0, slots := 0, locals := 41 * d }
def adA (ad : Nat → Nat) (N : Nat) : Nat → Prop := fun q => ∃ i, i < N ∧ q = ad i
def bQ (D : va_G) (cA : FieldType → ClassId) (ad : Nat → Nat) (sh : Sh) (N : Nat) (P : Option Value → Wd → Prop) : Array Value → State → Outcome → State → Prop := fun _ st oc t =>
  (∃ (r : Option Value) (w' : Wd), P r w' ∧ oc = .returned (r.map (cvv ad)) ∧ va_P D vwCl (wls cA ad sh w' N) t.heap) ∧ va_F (adA ad N) st t
def bPc (D : va_G) (cA : FieldType → ClassId) (z0 : Nat) (SK : Nat → Nat) (SV : Nat → Int32) (ad : Nat → Nat) (sh : Sh) (N : Nat) (As : List Value) (w : Wd) : Array Value → State → Prop := va_Pc (As.map (cvv ad)) (fun U => va_P D vwCl (wls cA ad sh w N) U.heap ∧ bK D cA z0 SK SV U U.heap)
def bCT (l : Launch) (D : va_G) (cA : FieldType → ClassId) (z0 : Nat) (SK : Nat → Nat) (SV : Nat → Int32) (ad : Nat → Nat) (sh : Sh) (N : Nat) (y : MethodName) (bytes : ByteArray) (maxL : Nat) (ret : Option FieldType) (d : Nat) (As : List Value) (w : Wd) (P : Option Value → Wd → Prop) : Prop :=
  Met l y (Cond.code y bytes maxL ret :: ALLW) (bR d) (bPc D cA z0 SK SV ad sh N As w) (bQ D cA ad sh N P) 0 0 (adA ad N)
theorem bPc_blind {D : va_G} {cA : FieldType → ClassId} {z0 : Nat} {SK : Nat → Nat} {SV : Nat → Int32} {ad : Nat → Nat} {sh : Sh} {N : Nat} {As : List Value} {w : Wd} : FrameBlind (bPc D cA z0 SK SV ad sh N As w) :=
  fun a U g mk q => ⟨q.1, q.2.1, bK.same (s := U) (U := U.calling g mk a) rfl q.2.2⟩
theorem lg_sl_len (ad : Nat → Nat) : ∀ As : List Value, (lg_sl (As.map (cvv ad))).length = (lg_sl As).length
  | [] => rfl
  | v :: t => by
    have h := lg_sl_len ad t
    simp only [lg_sl, List.map_cons, List.flatMap_cons, List.length_append, cvv_cat] at h ⊢
    rw [h]
    by_cases hc : v.category = 2 <;> simp [hc]
theorem lv_args_cv (ad : Nat → Nat) : ∀ (As : List Value) (i : Nat), lv_args i (As.map (cvv ad)) = lcv ad (lv_args i As)
  | [], _ => rfl
  | v :: t, i => by
    simp only [List.map_cons, lv_args, cvv_cat, lcv]
    rw [lv_args_cv ad t]
theorem bCT_intro {As : List Value} {P : Option Value → Wd → Prop} {y : MethodName} {bytes : ByteArray} {maxL d : Nat} {ret : Option FieldType} (hE : aD (fun q => z0 ≤ q) ad N) (hy : plainName y.cls = true) (hown : y.cls = own) (htb : tbOK bytes tb) (h0 : pcAt tb 0 = 0) (hlen : (lg_sl As).length ≤ maxL)
    (body : ∀ (p : Program) (e : Env) (s : State) (m : MethodId) (args : Array Value) (below : List Frame) (meth : Method) (c : Code), bC p s m args meth c D cA z0 SK SV (adA ad N) maxL own bytes tb → meth.sig.returnType = ret →
      bV p l e (bR d) s m args below meth c D cA sh (adA ad N) maxL tb (MQ below (bQ D cA ad sh N P) args s 0 0 (adA ad N)) ad N 0 0 w 0 (lv_args 0 As) []) : bCT l D cA z0 SK SV ad sh N y bytes maxL ret d As w P := by
  refine Met.ofW (cc := bytes) (maxL := maxL) (ret := ret) hy rfl ?_
  intro p e s m args below meth c s₁ B hml hv
  obtain ⟨rfl, hP, hK⟩ := hv
  have hts := atoms_spec (ws := Cond.code y bytes maxL ret :: ALLW) B.pre
  have hC : bC p s m (As.map (cvv ad)).toArray meth c D cA z0 SK SV (adA ad N) maxL own bytes tb := ⟨B.exec, B.bytes, hml, by rw [← hown]; exact findClass_of_methodNamed B.named, fun w hw => hts w (List.mem_cons_of_mem _ hw), hK, htb, fun q ⟨i, hi, hq⟩ => by rw [hq]; exact hE.2 i hi, B.notSynchronized⟩
  have hl := lv_entry (As.map (cvv ad)) (n := maxL) (by rw [lg_sl_len]; exact hlen)
  rw [lv_args_cv] at hl
  rw [lg_entry_eq]
  have k := body p e s m _ below meth c hC B.returns s.heap [] _ ⟨hE.1, fun i hi => ⟨i, hi, rfl⟩⟩ hP va_S.rf hl
  rw [h0] at k
  exact k
theorem bv_iret {P : Option Value → Wd → Prop} (C : bC p s m args meth c D cA z0 SK SV (adA ad N) nL own cc tb) {x : Int32} (ht : tb[i]? = some (pc, .ireturn)) {ty : FieldType} (hr : meth.sig.returnType = some ty) (hnr : narrow ty (.int x) = .int x) (hp : P (some (.int x)) w) : bV p l e R s m args below meth c D cA sh (adA ad N) nL tb (MQ below (bQ D cA ad sh N P) args s cells slots (adA ad N)) ad N cells slots w i L [.int x] := by
  intro H locs ls ha hP hS hl
  have hd := (C.2.2.2.2.2.2.1 i _ ht rfl).1
  rw [pcAt_of ht]
  exact W.zret C.1 C.2.1 hr hnr (fun t ht hW => ⟨⟨some (.int x), w, hp, rfl, by rw [ht]; exact hP⟩, hS.F ht⟩) hS.2.2 hd C.2.2.2.2.2.2.2.2
theorem bv_lret {P : Option Value → Wd → Prop} (C : bC p s m args meth c D cA z0 SK SV (adA ad N) nL own cc tb) {x : Int64} (ht : tb[i]? = some (pc, .lreturn)) (hr : meth.sig.returnType = some .long) (hp : P (some (.long x)) w) : bV p l e R s m args below meth c D cA sh (adA ad N) nL tb (MQ below (bQ D cA ad sh N P) args s cells slots (adA ad N)) ad N cells slots w i L [.long x] := by
  intro H locs ls ha hP hS hl
  have hd := (C.2.2.2.2.2.2.1 i _ ht rfl).1
  rw [pcAt_of ht]
  exact W.lret C.1 C.2.1 hr (fun t ht hW => ⟨⟨some (.long x), w, hp, rfl, by rw [ht]; exact hP⟩, hS.F ht⟩) hS.2.2 hd C.2.2.2.2.2.2.2.2
theorem bv_fret {P : Option Value → Wd → Prop} (C : bC p s m args meth c D cA z0 SK SV (adA ad N) nL own cc tb) {x : UInt32} (ht : tb[i]? = some (pc, .freturn)) (hr : meth.sig.returnType = some .float) (hp : P (some (.float x)) w) : bV p l e R s m args below meth c D cA sh (adA ad N) nL tb (MQ below (bQ D cA ad sh N P) args s cells slots (adA ad N)) ad N cells slots w i L [.float x] := by
  intro H locs ls ha hP hS hl
  have hd := (C.2.2.2.2.2.2.1 i _ ht rfl).1
  rw [pcAt_of ht]
  exact W.fret C.1 C.2.1 hr (fun t ht hW => ⟨⟨some (.float x), w, hp, rfl, by rw [ht]; exact hP⟩, hS.F ht⟩) hS.2.2 hd C.2.2.2.2.2.2.2.2
theorem bv_aret {P : Option Value → Wd → Prop} (C : bC p s m args meth c D cA z0 SK SV (adA ad N) nL own cc tb) {x : Nat} (ht : tb[i]? = some (pc, .areturn)) {ty : FieldType} (hr : meth.sig.returnType = some ty) (hrt : (∃ n, ty = .object n) ∨ ∃ t, ty = .array t) (hp : P (some (.ref x)) w) : bV p l e R s m args below meth c D cA sh (adA ad N) nL tb (MQ below (bQ D cA ad sh N P) args s cells slots (adA ad N)) ad N cells slots w i L [.ref x] := by
  intro H locs ls ha hP hS hl
  have hd := (C.2.2.2.2.2.2.1 i _ ht rfl).1
  rw [pcAt_of ht]
  exact W.aret C.1 C.2.1 hr hrt (Or.inr ⟨_, rfl⟩) (fun t ht hW => ⟨⟨some (.ref x), w, hp, rfl, by rw [ht]; exact hP⟩, hS.F ht⟩) hS.2.2 hd C.2.2.2.2.2.2.2.2
theorem bv_vret {P : Option Value → Wd → Prop} (C : bC p s m args meth c D cA z0 SK SV (adA ad N) nL own cc tb) (ht : tb[i]? = some (pc, .return_)) (hr : meth.sig.returnType = none) (hp : P none w) : bV p l e R s m args below meth c D cA sh (adA ad N) nL tb (MQ below (bQ D cA ad sh N P) args s cells slots (adA ad N)) ad N cells slots w i L [] := by
  intro H locs ls ha hP hS hl
  have hd := (C.2.2.2.2.2.2.1 i _ ht rfl).1
  rw [pcAt_of ht]
  exact W.vret C.1 C.2.1 hr (fun t ht hW => ⟨⟨none, w, hp, rfl, by rw [ht]; exact hP⟩, hS.F ht⟩) hS.2.2 hd C.2.2.2.2.2.2.2.2
/-! CALLS: the callee's world is a part of the caller's, by numbers -/
def bEmb (io : Nat → Nat) (N' : Nat) (sh' : Sh) (w0 : Wd) (N : Nat) (sh : Sh) (w : Wd) : Prop := (∀ o, o < N' → io o < N ∧ sh (io o) = sh' o) ∧ (∀ o o', o < N' → o' < N' → io o = io o' → o = o') ∧ ∀ o, o < N' → ∀ k, k < szE (sh' o) → w (io o) k = cvv io (w0 o k)
/-- what the caller's world is behind the call -/
def bAft (io : Nat → Nat) (N' : Nat) (sh' : Sh) (w1 : Wd) (N : Nat) (sh : Sh) (w w2 : Wd) : Prop := (∀ o, o < N' → ∀ k, k < szE (sh' o) → w2 (io o) k = cvv io (w1 o k)) ∧ ∀ a, a < N → (∀ o, o < N' → io o ≠ a) → ∀ k, k < szE (sh a) → w2 a k = w a k
theorem emb_P {D : va_G} {io : Nat → Nat} {N' : Nat} {sh' : Sh} {w0 : Wd} {H : Heap} (he : bEmb io N' sh' w0 N sh w) (hP : va_P D vwCl (wls cA ad sh w N) H) : va_P D vwCl (wls cA (fun o => ad (io o)) sh' w0 N') H := by
  intro k q hq
  obtain ⟨hk, rfl⟩ := wls_inv hq
  obtain ⟨h1, h2⟩ := he.1 k hk
  exact at_congr h2 (fun b hb => by rw [h2] at hb; rw [he.2.2 k hk b hb, cvv_cvv]) (hP (io k) _ (wls_get h1))
theorem emb_back {D : va_G} {io : Nat → Nat} {N' : Nat} {sh' : Sh} {w0 w1 w2 : Wd} {H H1 : Heap} (ha : aD A ad N) (he : bEmb io N' sh' w0 N sh w) (hA : bAft io N' sh' w1 N sh w w2) (hP : va_P D vwCl (wls cA ad sh w N) H) (hk : ∀ q, q < H.size → ¬ adA (fun o => ad (io o)) N' q → H1[q]? = H[q]?) (hP1 : va_P D vwCl (wls cA (fun o => ad (io o)) sh' w1 N') H1) : va_P D vwCl (wls cA ad sh w2 N) H1 := by
  intro a q hq
  obtain ⟨haN, rfl⟩ := wls_inv hq
  by_cases h : ∃ o, o < N' ∧ io o = a
  · obtain ⟨o, ho, rfl⟩ := h
    obtain ⟨h1, h2⟩ := he.1 o ho
    exact at_congr h2.symm (fun b hb => by rw [hA.1 o ho b hb, cvv_cvv]) (hP1 o _ (wls_get ho))
  · have h0 := hP a _ (wls_get haN)
    have h3 : ∀ o, o < N' → io o ≠ a := fun o ho z => h ⟨o, ho, z⟩
    refine at_congr rfl (fun b hb => by rw [hA.2 a haN h3 b hb]) (h0.kept (hk _ h0.lt ?_))
    rintro ⟨o, ho, hq⟩
    exact h ⟨o, ho, (ha.1 a (io o) haN (he.1 o ho).1 hq).symm⟩
theorem bv_callG (C : bC p s m args meth c D cA z0 SK SV A nL own cc tb) {io : Nat → Nat} {N' : Nat} {sh' : Sh} {w0 : Wd} {P : Option Value → Wd → Prop} {stk rest : List Value} {a : Array Value} (he : bEmb io N' sh' w0 N sh w) (hpc : pcAt tb (i + 1) = pcAt tb i + 3)
    (hrun : ∀ (H : Heap) (locs : List Loc) (ls : Array Slot), va_P D vwCl (wls cA ad sh w N) H → va_S A s.heap H locs → lv_has ls nL (lcv ad L) → va_Run p l e R s m args below meth c H locs cells slots 0 0 (F0 m (pcAt tb i) ls (stk.map (cvv ad))) (rest.map (cvv ad)) (bQ D cA (fun o => ad (io o)) sh' N' P a) (adA (fun o => ad (io o)) N'))
    (kk : ∀ (r : Option Value) (w1 : Wd), P r w1 → ∃ w2, bAft io N' sh' w1 N sh w w2 ∧ bV p l e R s m args below meth c D cA sh A nL tb Q ad N cells slots w2 (i + 1) L ((r.map (cvv io)).toList ++ rest)) : bV p l e R s m args below meth c D cA sh A nL tb Q ad N cells slots w i L stk := by
  intro H locs ls ha hP hS hl
  intro T hT X
  obtain ⟨v, st₀, t, T', L2, h0, X', hL, e1, e2, ⟨⟨r, w1, hp, hv, hP1⟩, hz, hk⟩, st⟩ := hrun H locs ls hP hS hl T hT X
  cases hv
  rw [h0] at hz hk
  obtain ⟨w2, hA, kk⟩ := kk r w1 hp
  have hA1 : ∀ q, adA (fun o => ad (io o)) N' q → A q := fun q ⟨o, ho, hq⟩ => by rw [hq]; exact ha.2 _ (he.1 o ho).1
  have hP2 := emb_back (H1 := T'.heap) ha he hA hP (fun q h1 h2 => by rw [e1]; exact hk q h1 h2) (by rw [e1]; exact hP1)
  obtain ⟨t2, a1, b1⟩ := kk T'.heap (locs ++ L2) ls ha hP2 ⟨Nat.le_trans hS.1 (by rw [e1]; exact hz), fun q h1 h2 => by rw [e1, hk q (Nat.lt_of_lt_of_le h1 hS.1) (fun z => h2 (hA1 q z))]; exact hS.2.1 q h1 h2, fun q hq => by
      rcases List.mem_append.mp hq with h | h
      · exact hS.2.2 q h
      · exact hA1 _ (hL q h)⟩ hl T' rfl X'
  rw [hpc] at a1
  refine ⟨t2, st t2 ?_, b1⟩
  cases r with
  | none => exact a1
  | some r =>
    have e3 : cvv ad (cvv io r) = cvv (fun o => ad (io o)) r := cvv_cvv ad io r
    simp only [Option.map_some, Option.toList_some, List.cons_append, List.nil_append, List.map_cons, e3] at a1
    exact a1
theorem map_cc (ad io : Nat → Nat) (l : List Value) : (l.map (cvv io)).map (cvv ad) = l.map (cvv fun o => ad (io o)) := by
  rw [List.map_map]
  exact List.map_congr_left fun v _ => cvv_cvv ad io v
theorem cat_map (ad : Nat → Nat) (l : List Value) : ((l.map (cvv ad)).map fun v => v.category) = l.map fun v => v.category := by
  rw [List.map_map]
  exact List.map_congr_left fun v _ => cvv_cat ad v
def callOK (y : MethodName) (n : Nat) : Prop := y.cls ≠ "java/lang/invoke/MethodHandle" ∧ y.cls ≠ "java/lang/invoke/VarHandle" ∧ (parseMethodDescriptor y.desc).map (fun d => d.parameters.length) = some n
theorem inCode {y : MethodName} {bytes : ByteArray} {maxL : Nat} {ret : Option FieldType} (h : Cond.code y bytes maxL ret ∈ ALLW) : ∀ w ∈ Cond.code y bytes maxL ret :: ALLW, w ∈ ALLW := fun w hw => by
  rcases List.mem_cons.mp hw with rfl | h1
  · exact h
  · exact h1
theorem bv_callV (C : bC p s m args meth c D cA z0 SK SV A nL own cc tb) {io : Nat → Nat} {N' : Nat} {sh' : Sh} {w0 : Wd} {P : Option Value → Wd → Prop} {stk rest As : List Value} {y : MethodName} {bytes : ByteArray} {maxL d idx o0 ci nn n : Nat} {q : vw_C} {ret : Option FieldType} (ht : tb[i]? = some (pc, .invokevirtual idx)) (hM : bCT l D cA z0 SK SV (fun o => ad (io o)) sh' N' y bytes maxL ret d (.ref o0 :: As) w0 P)
    (hlk : Cond.methodLink own idx y ∈ ALLW) (him : Cond.instanceMethod y ∈ ALLW) (hsel : Cond.selects y.cls y y ∈ ALLW) (hini : Cond.initialized y.cls ∈ ALLW) (hcd : Cond.code y bytes maxL ret ∈ ALLW) (hok : callOK y n) (hn : As.length = n)
    (hR : d + 1 ≤ R.frames ∧ 8 + (maxL + 11) + 41 * d ≤ R.locals) (hR2 : cells ≤ R.cells ∧ slots ≤ R.slots) (ho : o0 < N') (hs0 : sh' o0 = .inr (ci, nn)) (hcq : vwCl[ci]? = some q) (hq : q.1 = y.cls) (hst : stk = (As.map (cvv io)).reverse ++ .ref (io o0) :: rest) (hcat : (rest.map fun v => v.category).sum ≤ 8) (he : bEmb io N' sh' w0 N sh w)
    (kk : ∀ (r : Option Value) (w1 : Wd), P r w1 → ∃ w2, bAft io N' sh' w1 N sh w w2 ∧ bV p l e R s m args below meth c D cA sh A nL tb Q ad N cells slots w2 (i + 1) L ((r.map (cvv io)).toList ++ rest)) : bV p l e R s m args below meth c D cA sh A nL tb Q ad N cells slots w i L stk := by
  have hd := (C.2.2.2.2.2.2.1 i _ ht rfl).1
  refine bv_callG (a := (Value.ref (ad (io o0)) :: As.map (cvv fun o => ad (io o))).toArray) C he (by rw [pcAt_nx C.2.2.2.2.2.2.1 ht rfl, pcAt_of ht]; rfl) (fun H locs ls hP hS hl => ?_) kk
  have hPs := emb_P he hP
  have hb : (wls cA (fun o => ad (io o)) sh' w0 N')[o0]? = some (ad (io o0), .inr (ci, (List.range nn).map fun k => cvv (fun o => ad (io o)) (w0 o0 k))) := by rw [wls_get ho, cel_inr hs0]
  have hrec := va_recv C.2.2.2.2.2.1.1 hPs hcq hb
  rw [hq] at hrec
  have hK := bK.kept (H1 := H) (fun a h1 h2 => hS.2.1 a h1 (fun z => h2 (C.2.2.2.2.2.2.2.1 a z))) C.2.2.2.2.2.1
  have hstk : stk.map (cvv ad) = (As.map (cvv fun o => ad (io o))).reverse ++ .ref (ad (io o0)) :: rest.map (cvv ad) := by
    rw [hst, List.map_append, List.map_reverse, map_cc]; rfl
  refine va_runV (As := As.map (cvv fun o => ad (io o))) (b := ad (io o0)) (Ts := ALLW) ⟨C.1, C.2.1, C.2.2.1, C.2.2.2.1, C.2.2.2.2.1⟩ hM (cwV n C.2.2.2.2.1 (goodAll ?_) rfl rfl rfl ⟨rfl, hok⟩ hR) ⟨bPc_blind, hrec, fun U hU hW => ⟨rfl, by rw [hU]; exact hPs, by rw [hU]; exact bK.warm hW hK⟩⟩ rfl (by simpa using hn) hl.1 hstk (lv_room (by rw [cat_map]; exact hcat)) (by rw [pcAt_of ht]; exact hd) hR2
  intro w hw
  rcases List.mem_append.mp hw with h | h
  · simp only [List.mem_cons, List.not_mem_nil, or_false] at h
    rcases h with rfl | rfl | rfl | rfl
    · exact hlk
    · exact him
    · exact hsel
    · exact hini
  · exact inCode hcd w h
theorem bv_callS (C : bC p s m args meth c D cA z0 SK SV A nL own cc tb) {io : Nat → Nat} {N' : Nat} {sh' : Sh} {w0 : Wd} {P : Option Value → Wd → Prop} {stk rest As : List Value} {y : MethodName} {bytes : ByteArray} {maxL d idx n : Nat} {ret : Option FieldType} (ht : tb[i]? = some (pc, .invokestatic idx)) (hM : bCT l D cA z0 SK SV (fun o => ad (io o)) sh' N' y bytes maxL ret d As w0 P)
    (hlk : Cond.methodLink own idx y ∈ ALLW) (hstat : Cond.static y ∈ ALLW) (hini : Cond.initialized y.cls ∈ ALLW) (hcd : Cond.code y bytes maxL ret ∈ ALLW) (hok : callOK y n) (hn : As.length = n)
    (hR : d + 1 ≤ R.frames ∧ 8 + (maxL + 11) + 41 * d ≤ R.locals) (hR2 : cells ≤ R.cells ∧ slots ≤ R.slots) (hst : stk = (As.map (cvv io)).reverse ++ rest) (hcat : (rest.map fun v => v.category).sum ≤ 8) (he : bEmb io N' sh' w0 N sh w)
    (kk : ∀ (r : Option Value) (w1 : Wd), P r w1 → ∃ w2, bAft io N' sh' w1 N sh w w2 ∧ bV p l e R s m args below meth c D cA sh A nL tb Q ad N cells slots w2 (i + 1) L ((r.map (cvv io)).toList ++ rest)) : bV p l e R s m args below meth c D cA sh A nL tb Q ad N cells slots w i L stk := by
  have hd := (C.2.2.2.2.2.2.1 i _ ht rfl).1
  refine bv_callG (a := (As.map (cvv fun o => ad (io o))).toArray) C he (by rw [pcAt_nx C.2.2.2.2.2.2.1 ht rfl, pcAt_of ht]; rfl) (fun H locs ls hP hS hl => ?_) kk
  have hPs := emb_P he hP
  have hK := bK.kept (H1 := H) (fun a h1 h2 => hS.2.1 a h1 (fun z => h2 (C.2.2.2.2.2.2.2.1 a z))) C.2.2.2.2.2.1
  have hstk : stk.map (cvv ad) = (As.map (cvv fun o => ad (io o))).reverse ++ rest.map (cvv ad) := by
    rw [hst, List.map_append, List.map_reverse, map_cc]
  refine va_runS (As := As.map (cvv fun o => ad (io o))) (Ts := ALLW) ⟨C.1, C.2.1, C.2.2.1, C.2.2.2.1, C.2.2.2.2.1⟩ hM (va_cwS n C.2.2.2.2.1 (goodAll ?_) rfl rfl rfl hok hR) ⟨bPc_blind, fun U hU hW => ⟨rfl, by rw [hU]; exact hPs, by rw [hU]; exact bK.warm hW hK⟩⟩ rfl (by simpa using hn) hl.1 hstk (lv_room (by rw [cat_map]; exact hcat)) (by rw [pcAt_of ht]; exact hd) hR2
  intro w hw
  rcases List.mem_append.mp hw with h | h
  · simp only [List.mem_cons, List.not_mem_nil, or_false] at h
    rcases h with rfl | rfl | rfl
    · exact hlk
    · exact hstat
    · exact hini
  · exact inCode hcd w h
theorem bv_callN (C : bC p s m args meth c D cA z0 SK SV A nL own cc tb) {io : Nat → Nat} {N' : Nat} {sh' : Sh} {w0 : Wd} {P : Option Value → Wd → Prop} {stk rest As : List Value} {y : MethodName} {bytes : ByteArray} {maxL d idx n : Nat} {ret : Option FieldType} (ht : tb[i]? = some (pc, .invokestatic idx)) (hM : bCT l D cA z0 SK SV (fun o => ad (io o)) sh' N' y bytes maxL ret d As w0 P)
    (hlk : Cond.methodLinkNest own idx y RX8 ∈ nestW) (hstat : Cond.static y ∈ ALLW) (hini : Cond.initialized y.cls ∈ ALLW) (hcd : Cond.code y bytes maxL ret ∈ ALLW) (hok : callOK y n) (hn : As.length = n)
    (hR : d + 1 ≤ R.frames ∧ 8 + (maxL + 11) + 41 * d ≤ R.locals) (hR2 : cells ≤ R.cells ∧ slots ≤ R.slots) (hst : stk = (As.map (cvv io)).reverse ++ rest) (hcat : (rest.map fun v => v.category).sum ≤ 8) (he : bEmb io N' sh' w0 N sh w)
    (kk : ∀ (r : Option Value) (w1 : Wd), P r w1 → ∃ w2, bAft io N' sh' w1 N sh w w2 ∧ bV p l e R s m args below meth c D cA sh A nL tb Q ad N cells slots w2 (i + 1) L ((r.map (cvv io)).toList ++ rest)) : bV p l e R s m args below meth c D cA sh A nL tb Q ad N cells slots w i L stk := by
  have hd := (C.2.2.2.2.2.2.1 i _ ht rfl).1
  refine bv_callG (a := (As.map (cvv fun o => ad (io o))).toArray) C he (by rw [pcAt_nx C.2.2.2.2.2.2.1 ht rfl, pcAt_of ht]; rfl) (fun H locs ls hP hS hl => ?_) kk
  have hPs := emb_P he hP
  have hK := bK.kept (H1 := H) (fun a h1 h2 => hS.2.1 a h1 (fun z => h2 (C.2.2.2.2.2.2.2.1 a z))) C.2.2.2.2.2.1
  have hstk : stk.map (cvv ad) = (As.map (cvv fun o => ad (io o))).reverse ++ rest.map (cvv ad) := by
    rw [hst, List.map_append, List.map_reverse, map_cc]
  exact va_runSN (As := As.map (cvv fun o => ad (io o))) (Ts := ALLW) ⟨C.1, C.2.1, C.2.2.1, C.2.2.2.1, C.2.2.2.2.1⟩ hM ⟨va_cnB n C.2.2.2.2.1 (goodAll (inCode hcd)) rfl rfl rfl (C.2.2.2.2.2.1.2.1 _ hlk) (C.2.2.2.2.1 _ hini) hok hR, C.2.2.2.2.1 _ hstat, trivial⟩ ⟨bPc_blind, fun U hU hW => ⟨rfl, by rw [hU]; exact hPs, by rw [hU]; exact bK.warm hW hK⟩⟩ rfl (by simpa using hn) hl.1 hstk (lv_room (by rw [cat_map]; exact hcat)) (by rw [pcAt_of ht]; exact hd) hR2
end BW
