/-! GROWING WORLDS: objects that are made -/
def extA (ad : Nat → Nat) (N q : Nat) : Nat → Nat := fun o => if o = N then q else ad o
/-- all references of a world are to its own objects -/
def rfL (N : Nat) (sh : Sh) (w : Wd) : Prop := ∀ i, i < N → ∀ k, k < szE (sh i) → ∀ r : Nat, w i k = .ref r → r < N
def vsL (N : Nat) (l : List Value) : Bool := l.all fun v => match v with
  | .ref r => Nat.blt r N || Nat.ble 200 r
  | _ => true
theorem extA_lt {ad : Nat → Nat} {N q o : Nat} (hN : N < 200) (h : o < N ∨ 200 ≤ o) : extA ad N q o = ad o := if_neg (by omega)
theorem extA_N {ad : Nat → Nat} {N q : Nat} : extA ad N q N = q := if_pos rfl
theorem cvv_ag {ad ad' : Nat → Nat} {N : Nat} (h : ∀ o, (o < N ∨ 200 ≤ o) → ad' o = ad o) {v : Value} (hv : ∀ r : Nat, v = .ref r → r < N ∨ 200 ≤ r) : cvv ad v = cvv ad' v := by
  cases v with
  | ref r => exact congrArg Value.ref (h r (hv r rfl)).symm
  | _ => rfl
theorem vsL_m {N : Nat} {l : List Value} (h : vsL N l = true) {v : Value} (hv : v ∈ l) : ∀ r : Nat, v = .ref r → r < N ∨ 200 ≤ r := by
  intro r e
  subst e
  have z := List.all_eq_true.mp h _ hv
  rcases Bool.or_eq_true_iff.mp z with z | z
  · exact Or.inl (Nat.blt_eq.mp z)
  · exact Or.inr (Nat.le_of_ble_eq_true z)
theorem map_ag {ad ad' : Nat → Nat} {N : Nat} (h : ∀ o, (o < N ∨ 200 ≤ o) → ad' o = ad o) {l : List Value} (hl : vsL N l = true) : l.map (cvv ad) = l.map (cvv ad') :=
  List.map_congr_left fun v hv => cvv_ag h (vsL_m hl hv)
theorem lcv_ag {ad ad' : Nat → Nat} {N : Nat} (h : ∀ o, (o < N ∨ 200 ≤ o) → ad' o = ad o) {L : Lc} (hl : vsL N (L.map fun q => q.2) = true) : lcv ad L = lcv ad' L := by
  unfold lcv
  apply List.map_congr_left
  intro q hq
  rw [cvv_ag h (vsL_m hl (List.mem_map.mpr ⟨q, hq, rfl⟩))]
theorem wls_last {D : va_G} {cA : FieldType → ClassId} {ad ad' : Nat → Nat} {sh : Sh} {w w1 : Wd} {N : Nat} {q : Nat} {e : va_E} {H : Heap} (hag : ∀ o, (o < N ∨ 200 ≤ o) → ad' o = ad o) (hr : rfL N sh w) (hw : wEq sh N w w1) (hq : ad' N = q) (hP : va_P D vwCl (wls cA ad sh w N ++ [(q, e)]) H) (hN : va_at D vwCl (q, e) H → va_at D vwCl (ad' N, cel cA ad' sh w1 N) H) : va_P D vwCl (wls cA ad' sh w1 (N + 1)) H := by
  have hlen : (wls cA ad sh w N).length = N := by simp [wls]
  intro k x hx
  obtain ⟨hk, rfl⟩ := wls_inv hx
  by_cases h : k < N
  · have h1 : (wls cA ad sh w N ++ [(q, e)])[k]? = some (ad k, cel cA ad sh w k) := by
      rw [List.getElem?_append_left (by omega), wls_get h]
    have h2 := hP k _ h1
    rw [hag k (Or.inl h)]
    exact at_congr rfl (fun b hb => by rw [← hw k h b hb]; exact cvv_ag hag (fun r hr2 => Or.inl (hr k h b hb r hr2))) h2
  · have hkN : k = N := by omega
    subst hkN
    have h1 : (wls cA ad sh w k ++ [(q, e)])[k]? = some (q, e) := by
      rw [List.getElem?_append_right (by omega), hlen, Nat.sub_self]
      rfl
    exact hN (hP k _ h1)
theorem aD_last {A : Nat → Prop} {cA : FieldType → ClassId} {ad ad' : Nat → Nat} {sh : Sh} {w : Wd} {N : Nat} {q : Nat} {e : va_E} (hag : ∀ o, (o < N ∨ 200 ≤ o) → ad' o = ad o) (hq : ad' N = q) (hD : va_D A (wls cA ad sh w N ++ [(q, e)])) : aD A ad' (N + 1) := by
  have hlen : (wls cA ad sh w N).length = N := by simp [wls]
  have hg : ∀ i, i < N + 1 → ∃ e', (wls cA ad sh w N ++ [(q, e)])[i]? = some (ad' i, e') := by
    intro i hi
    by_cases h : i < N
    · exact ⟨_, by rw [List.getElem?_append_left (by omega), wls_get h, hag i (Or.inl h)]⟩
    · have : i = N := by omega
      subst this
      exact ⟨e, by rw [List.getElem?_append_right (by omega), hlen, Nat.sub_self, hq]; rfl⟩
  refine ⟨fun i j hi hj h => ?_, fun i hi => ?_⟩
  · obtain ⟨e1, h1⟩ := hg i hi
    obtain ⟨e2, h2⟩ := hg j hj
    exact hD.1 i j _ _ h1 h2 h
  · obtain ⟨e1, h1⟩ := hg i hi
    exact hD.2 i _ h1
section GR
variable {p : Program} {l : Launch} {e : Env} {R : Room} {s : State} {m : MethodId} {args : Array Value} {below : List Frame} {meth : Method} {c : Code} {D : va_G} {cA : FieldType → ClassId} {z0 : Nat} {SK : Nat → Nat} {SV : Nat → Int32} {sh : Sh} {A : Nat → Prop} {nL : Nat} {own : String} {cc : ByteArray} {tb : Tb} {Q : State → Prop} {ad : Nat → Nat} {N cells slots : Nat} {w w1 : Wd} {i j pc : Nat} {L L1 : Lc} {st st1 r : List Value}
theorem bv_new (C : bC p s m args meth c D cA z0 SK SV A nL own cc tb) {Cn : String} {T : u_T} {n ci idx : Nat} {ty : Nat → FieldType} (ht : tb[i]? = some (pc, .new idx)) (hc : clOK ci Cn T n) (hty : ∀ k, k < n → parseFieldDescriptor (T k).2.2.1 = some (ty k)) (hlk : Cond.classLink own idx Cn ∈ ALLW) (hin : Cond.instantiable Cn n ∈ ALLW) (hini : Cond.initialized Cn ∈ ALLW) (hA : ∀ q, s.heap.size ≤ q → A q) (hsh : sh N = .inr (ci, n))
    (hf : ∀ k, k < n → defaultValue (ty k) = w1 N k) (hw : wEq sh N w w1) (hnr : ∀ k, k < n → ∀ r : Nat, w1 N k ≠ .ref r) (hr : rfL N sh w) (hL : vsL N (L.map fun q => q.2) = true) (hst : vsL N r = true) (hR : cells + 1 ≤ R.cells ∧ slots + n ≤ R.slots)
    (h200 : N < 200) (kk : ∀ ad' : Nat → Nat, (∀ o, (o < N ∨ 200 ≤ o) → ad' o = ad o) → bV p l e R s m args below meth c D cA sh A nL tb Q ad' (N + 1) (cells + 1) (slots + n) w1 (i + 1) L (.ref N :: r)) : bV p l e R s m args below meth c D cA sh A nL tb Q ad N cells slots w i L r := by
  intro H locs ls ha hP hS hl
  have hn := pcAt_nx C.2.2.2.2.2.2.1 ht rfl
  have hd := (C.2.2.2.2.2.2.1 i _ ht rfl).1
  rw [pcAt_of ht]
  have hK := C.2.2.2.2.2.1.1
  have hW := C.2.2.2.2.1
  refine va_new (fs := (List.range n).map (w1 N)) C.1 C.2.1 hW hc.2.1 ty hty C.2.2.2.1 (hW _ hlk) (hW _ hin) (hW _ hini) hK hP ha.vaD hS hA hc.1 (fun k hk => by rw [hf k hk]; simp [vp_V, hk]) hR.1 hR.2 hd (fun q H1 hP1 hD1 hS1 => ?_)
  have hag : ∀ o, (o < N ∨ 200 ≤ o) → extA ad N q o = ad o := fun o ho => extA_lt h200 ho
  have k2 := kk (extA ad N q) hag H1 locs ls (aD_last hag extA_N hD1) (wls_last hag hr hw extA_N hP1 (fun h => by
    rw [extA_N, cel_inr hsh]
    have e : ((List.range n).map fun k => cvv (extA ad N q) (w1 N k)) = (List.range n).map (w1 N) := by
      apply List.map_congr_left
      intro k hk
      have z := hnr k (List.mem_range.mp hk)
      cases hv : w1 N k with
      | ref r => exact absurd hv (z r)
      | _ => rfl
    rw [e]
    exact h)) hS1 (by rw [← lcv_ag hag hL]; exact hl)
  rw [hn] at k2
  simp only [List.map_cons] at k2
  rw [← map_ag hag hst] at k2
  have e2 : cvv (extA ad N q) (.ref N) = .ref q := congrArg Value.ref extA_N
  rw [e2] at k2
  exact k2
/-- an array of ints, chars or floats -/
theorem bv_newa (C : bC p s m args meth c D cA z0 SK SV A nL own cc tb) {atype : ArrayType} {ty : FieldType} {n : Nat} {x : Int32} {t0 : Nat} (ht : tb[i]? = some (pc, .newarray atype)) (hty : newarray.typeOf atype = ty) (h3 : ty = .int ∨ ty = .char ∨ ty = .float) (hq : (tysOf cA)[t0]? = some (cA ty, ty)) (hlk : Cond.arrayClass (newarray.typeOf atype) ∈ ALLW) (hA : ∀ q, s.heap.size ≤ q → A q) (hsh : sh N = .inl (ty, n)) (hx : x = nI n) (hn2 : n < 100000)
    (hf : ∀ k, k < n → w1 N k = defaultValue ty) (hw : wEq sh N w w1) (hr : rfL N sh w) (hL : vsL N (L.map fun q => q.2) = true) (hst : vsL N r = true) (hR : cells + 1 ≤ R.cells ∧ slots + n ≤ R.slots)
    (h200 : N < 200) (kk : ∀ ad' : Nat → Nat, (∀ o, (o < N ∨ 200 ≤ o) → ad' o = ad o) → bV p l e R s m args below meth c D cA sh A nL tb Q ad' (N + 1) (cells + 1) (slots + n) w1 (i + 1) L (.ref N :: r)) : bV p l e R s m args below meth c D cA sh A nL tb Q ad N cells slots w i L (.int x :: r) := by
  intro H locs ls ha hP hS hl
  have hn := pcAt_nx C.2.2.2.2.2.2.1 ht rfl
  have hd := (C.2.2.2.2.2.2.1 i _ ht rfl).1
  rw [pcAt_of ht]
  have hK := C.2.2.2.2.2.1.1
  have hW := C.2.2.2.2.1
  subst hx
  have hcl : (nI n).toNatClampNeg = n := nI_clamp (by omega)
  have hneg : ¬ nI n < 0 := nI_nlt (a := n) (b := 0) (by omega) (by omega)
  have hby : componentBytes ty ≤ 8 := by rcases h3 with rfl | rfl | rfl <;> decide
  refine va_newa (N' := n) (a0 := (n, arE ad ty (fun _ => defaultValue ty))) C.1 C.2.1 (hW _ hlk) hty hK hP ha.vaD hS hA ?_ hneg hcl ?_ hR.1 hR.2 hd (fun q cB H1 hK1 hP1 hD1 hS1 => ?_)
  · intro cB
    rcases h3 with rfl | rfl | rfl <;> rfl
  · have := Nat.mul_le_mul (Nat.le_of_lt hn2) hby
    omega
  · have hag : ∀ o, (o < N ∨ 200 ≤ o) → extA ad N q o = ad o := fun o ho => extA_lt h200 ho
    have hcB : cB = cA ty := by
      have z1 := (hK.2 t0 _ hq).2
      have z2 := (hK1.2 (tysOf cA).length (cB, ty) (by rw [List.getElem?_append_right (Nat.le_refl _), Nat.sub_self]; rfl)).2
      rcases h3 with rfl | rfl | rfl
      · exact Option.some.inj (z2.symm.trans z1)
      · exact Option.some.inj (z2.symm.trans z1)
      · exact Option.some.inj (z2.symm.trans z1)
    have k2 := kk (extA ad N q) hag H1 locs ls (aD_last hag extA_N hD1) (wls_last hag hr hw extA_N hP1 (fun h => by
      rw [extA_N, cel_inl hsh]
      have h : H1[q]? = some (vp_cell cB (n, arE ad ty (fun _ => defaultValue ty))) := h
      show H1[q]? = some (vp_cell (cA ty) (n, arE (extA ad N q) ty (w1 N)))
      rw [h, hcB, cell_congr (ad' := extA ad N q) (g := w1 N) (fun k hk => by rw [hf k hk]; rcases h3 with rfl | rfl | rfl <;> rfl)])) hS1 (by rw [← lcv_ag hag hL]; exact hl)
    rw [hn] at k2
    simp only [List.map_cons] at k2
    rw [← map_ag hag hst] at k2
    have e2 : cvv (extA ad N q) (.ref N) = .ref q := congrArg Value.ref extA_N
    rw [e2] at k2
    exact k2
/-- an array of references -/
theorem bv_newq (C : bC p s m args meth c D cA z0 SK SV A nL own cc tb) {Cn : String} {n idx : Nat} {x : Int32} {t0 : Nat} (ht : tb[i]? = some (pc, .anewarray idx)) (hq : (tysOf cA)[t0]? = some (cA (.object Cn), .object Cn)) (hlk : Cond.classLink own idx Cn ∈ ALLW) (hov : va_AO Cn s) (hA : ∀ q, s.heap.size ≤ q → A q) (hsh : sh N = .inl (.object Cn, n)) (hx : x = nI n) (hn2 : n < 100000)
    (hf : ∀ k, k < n → w1 N k = .null) (hw : wEq sh N w w1) (hr : rfL N sh w) (hL : vsL N (L.map fun q => q.2) = true) (hst : vsL N r = true) (hR : cells + 1 ≤ R.cells ∧ slots + n ≤ R.slots)
    (h200 : N < 200) (kk : ∀ ad' : Nat → Nat, (∀ o, (o < N ∨ 200 ≤ o) → ad' o = ad o) → bV p l e R s m args below meth c D cA sh A nL tb Q ad' (N + 1) (cells + 1) (slots + n) w1 (i + 1) L (.ref N :: r)) : bV p l e R s m args below meth c D cA sh A nL tb Q ad N cells slots w i L (.int x :: r) := by
  intro H locs ls ha hP hS hl
  have hn := pcAt_nx C.2.2.2.2.2.2.1 ht rfl
  have hd := (C.2.2.2.2.2.2.1 i _ ht rfl).1
  rw [pcAt_of ht]
  have hK := C.2.2.2.2.2.1.1
  have hW := C.2.2.2.2.1
  subst hx
  have hcl : (nI n).toNatClampNeg = n := nI_clamp (by omega)
  have hneg : ¬ nI n < 0 := nI_nlt (a := n) (b := 0) (by omega) (by omega)
  refine va_newq (N' := n) C.1 C.2.1 C.2.2.2.1 (hW _ hlk) hov hK hP ha.vaD hS hA hneg hcl (by omega) hR.1 hR.2 hd (fun q cB H1 hK1 hP1 hD1 hS1 => ?_)
  have hag : ∀ o, (o < N ∨ 200 ≤ o) → extA ad N q o = ad o := fun o ho => extA_lt h200 ho
  have hcB : cB = cA (.object Cn) := by
    obtain ⟨_, _, _, _, _, z1⟩ := (hK.2 t0 _ hq).2
    obtain ⟨_, _, _, _, _, z2⟩ := (hK1.2 (tysOf cA).length (cB, .object Cn) (by rw [List.getElem?_append_right (Nat.le_refl _), Nat.sub_self]; rfl)).2
    exact Option.some.inj (z2.symm.trans z1)
  have k2 := kk (extA ad N q) hag H1 locs ls (aD_last hag extA_N hD1) (wls_last hag hr hw extA_N hP1 (fun h => by
    rw [extA_N, cel_inl hsh]
    have h : H1[q]? = some (vp_cell cB (n, arE ad (.object Cn) (fun _ => .null))) := h
    show H1[q]? = some (vp_cell (cA (.object Cn)) (n, arE (extA ad N q) (.object Cn) (w1 N)))
    rw [h, hcB, cell_congr (ad' := extA ad N q) (g := w1 N) (fun k hk => by rw [hf k hk]; rfl)])) hS1 (by rw [← lcv_ag hag hL]; exact hl)
  rw [hn] at k2
  simp only [List.map_cons] at k2
  rw [← map_ag hag hst] at k2
  have e2 : cvv (extA ad N q) (.ref N) = .ref q := congrArg Value.ref extA_N
  rw [e2] at k2
  exact k2
theorem bv_obj (C : bC p s m args meth c D cA z0 SK SV A nL own cc tb) {idx a : Nat} (ht : tb[i]? = some (pc, .invokespecial idx)) (hlk : Cond.methodLink own idx Lib.objectInit ∈ ALLW) (hin : Cond.instanceMethod Lib.objectInit ∈ ALLW) (hcd : Cond.code Lib.objectInit ⟨#[0xb1]⟩ 1 none ∈ ALLW) (hR : 1 ≤ R.frames ∧ 12 ≤ R.locals) (kk : bV p l e R s m args below meth c D cA sh A nL tb Q ad N cells slots w (i + 1) L []) : bV p l e R s m args below meth c D cA sh A nL tb Q ad N cells slots w i L [.ref a] := by
  intro H locs ls ha hP hS hl
  have hn := pcAt_nx C.2.2.2.2.2.2.1 ht rfl
  have hd := (C.2.2.2.2.2.2.1 i _ ht rfl).1
  rw [pcAt_of ht]
  have hW := C.2.2.2.2.1
  have kk := kk H locs ls ha hP hS hl
  rw [hn] at kk
  refine W.objInit C.1 C.2.1 C.2.2.2.1 (hW _ hlk) (hW _ hin) (hW _ hcd) rfl (by rw [C.2.2.1]; exact hl.1) rfl hd hR.1 (by simpa [F0] using hR.2) ?_
  exact kk
end GR
