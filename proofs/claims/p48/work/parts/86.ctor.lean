/-! CONSTRUCTORS: the receiver alone before, N' objects behind -/
def frN (a sz : Nat) : Nat → Prop := fun q => q = a ∨ sz ≤ q
def bQN (D : va_G) (cA : FieldType → ClassId) (a sz : Nat) (sh : Sh) (N' : Nat) (w' : Wd) : Array Value → State → Outcome → State → Prop := fun _ st oc t =>
  (∃ ad' : Nat → Nat, ad' 0 = a ∧ aD (frN a sz) ad' N' ∧ oc = .returned none ∧ va_P D vwCl (wls cA ad' sh w' N') t.heap) ∧ va_F (frN a sz) st t
def bRN (d mc ms : Nat) : Room := { frames := d, cells := mc, slots := ms, locals := 41 * d }
/-- the classes of arrays of references are there -/
def aoK (U : State) : Prop := va_AO "BeamTraining$State" U ∧ va_AO "BeamTraining$Path" U
theorem aoK.warm {s U : State} (hW : s.WarmedH U.vm) (h : aoK s) : aoK U := ⟨va_AO.moved hW.alike h.1, va_AO.moved hW.alike h.2⟩
theorem aoK.same {s U : State} (hv : s.vm = U.vm) (h : aoK s) : aoK U := ⟨va_AO.moved (by rw [hv]; exact Vm.Alike.refl _) h.1, va_AO.moved (by rw [hv]; exact Vm.Alike.refl _) h.2⟩
def bPN (D : va_G) (cA : FieldType → ClassId) (z0 : Nat) (SK : Nat → Nat) (SV : Nat → Int32) (a sz : Nat) (sh : Sh) (w0 : Wd) : Array Value → State → Prop := va_Pc [.ref a] (fun U => U.heap.size = sz ∧ va_P D vwCl (wls cA (fun _ => a) sh w0 1) U.heap ∧ bK D cA z0 SK SV U U.heap ∧ aoK U)
theorem bPN_blind {D : va_G} {cA : FieldType → ClassId} {z0 : Nat} {SK : Nat → Nat} {SV : Nat → Int32} {a sz : Nat} {sh : Sh} {w0 : Wd} : FrameBlind (bPN D cA z0 SK SV a sz sh w0) :=
  fun b U g mk q => ⟨q.1, q.2.1, q.2.2.1, bK.same (s := U) (U := U.calling g mk b) rfl q.2.2.2.1, aoK.same (s := U) (U := U.calling g mk b) rfl q.2.2.2.2⟩
def bCN (l : Launch) (D : va_G) (cA : FieldType → ClassId) (z0 : Nat) (SK : Nat → Nat) (SV : Nat → Int32) (y : MethodName) (bytes : ByteArray) (maxL d mc ms : Nat) (sh : Sh) (w0 : Wd) (N' : Nat) (w' : Wd) : Prop := ∀ a sz : Nat, z0 ≤ a → z0 ≤ sz →
  Met l y (Cond.code y bytes maxL none :: ALLW) (bRN d mc ms) (bPN D cA z0 SK SV a sz sh w0) (bQN D cA a sz sh N' w') mc ms (frN a sz)
section GC
variable {p : Program} {l : Launch} {e : Env} {R : Room} {s : State} {m : MethodId} {args : Array Value} {below : List Frame} {meth : Method} {c : Code} {D : va_G} {cA : FieldType → ClassId} {z0 : Nat} {SK : Nat → Nat} {SV : Nat → Int32} {sh : Sh} {A : Nat → Prop} {nL : Nat} {own : String} {cc : ByteArray} {tb : Tb} {Q : State → Prop} {ad : Nat → Nat} {N cells slots : Nat} {w w1 : Wd} {i j pc : Nat} {L L1 : Lc} {st st1 r : List Value}
theorem bCN_intro {y : MethodName} {bytes : ByteArray} {maxL d mc ms N' : Nat} {w0 w' : Wd} (hy : plainName y.cls = true) (hown : y.cls = own) (htb : tbOK bytes tb) (h0 : pcAt tb 0 = 0) (hlen : 1 ≤ maxL) (hy1 : y.name = "<init>")
    (body : ∀ (a sz : Nat) (p : Program) (e : Env) (s : State) (m : MethodId) (args : Array Value) (below : List Frame) (meth : Method) (c : Code), (∀ q, s.heap.size ≤ q → frN a sz q) → bC p s m args meth c D cA z0 SK SV (frN a sz) maxL own bytes tb → meth.sig.returnType = none → meth.name = "<init>" → aoK s →
      bV p l e (bRN d mc ms) s m args below meth c D cA sh (frN a sz) maxL tb (MQ below (bQN D cA a sz sh N' w') args s mc ms (frN a sz)) (fun _ => a) 1 0 0 w0 0 [(0, .ref 0)] []) : bCN l D cA z0 SK SV y bytes maxL d mc ms sh w0 N' w' := by
  intro a sz hza hzs
  refine Met.ofW (cc := bytes) (maxL := maxL) (ret := none) hy rfl ?_
  intro p e s m args below meth c s₁ B hml hv
  obtain ⟨rfl, hsz, hP, hK, hAO⟩ := hv
  have hts := atoms_spec (ws := Cond.code y bytes maxL none :: ALLW) B.pre
  have hC : bC p s m ([Value.ref a] : List Value).toArray meth c D cA z0 SK SV (frN a sz) maxL own bytes tb := ⟨B.exec, B.bytes, hml, by rw [← hown]; exact findClass_of_methodNamed B.named, fun w hw => hts w (List.mem_cons_of_mem _ hw), hK, htb, fun q hq => by rcases hq with h | h <;> omega, B.notSynchronized⟩
  have hl := lv_entry ([Value.ref a]) (n := maxL) (show (lg_sl ([Value.ref a])).length ≤ maxL from hlen)
  rw [lg_entry_eq]
  have k := body a sz p e s m _ below meth c (fun q hq => Or.inr (by omega)) hC B.returns ((name_of_methodNamed B.named B.method).1.trans hy1) hAO s.heap [] _ ⟨fun i j hi hj _ => by omega, fun i hi => Or.inl rfl⟩ hP va_S.rf hl
  rw [h0] at k
  exact k
theorem bv_vretN {a sz : Nat} (C : bC p s m args meth c D cA z0 SK SV (frN a sz) nL own cc tb) (ht : tb[i]? = some (pc, .return_)) (hr : meth.sig.returnType = none) (h0 : ad 0 = a) : bV p l e R s m args below meth c D cA sh (frN a sz) nL tb (MQ below (bQN D cA a sz sh N w) args s cells slots (frN a sz)) ad N cells slots w i L [] := by
  intro H locs ls ha hP hS hl
  have hd := (C.2.2.2.2.2.2.1 i _ ht rfl).1
  rw [pcAt_of ht]
  exact W.vret C.1 C.2.1 hr (fun t ht hW => ⟨⟨ad, h0, ha, rfl, by rw [ht]; exact hP⟩, hS.F ht⟩) hS.2.2 hd C.2.2.2.2.2.2.2.2
/-- where the callee's objects stand among the caller's -/
def ioC (N r0 : Nat) : Nat → Nat := fun o => if o = 0 then r0 else N + o - 1
theorem bv_callI (C : bC p s m args meth c D cA z0 SK SV A nL own cc tb) {y : MethodName} {bytes : ByteArray} {maxL d mc ms idx N' r0 : Nat} {sh' : Sh} {w0 w' : Wd} (ht : tb[i]? = some (pc, .invokespecial idx)) (hM : bCN l D cA z0 SK SV y bytes maxL d mc ms sh' w0 N' w')
    (hlk : Cond.methodLink own idx y ∈ ALLW) (him : Cond.instanceMethod y ∈ ALLW) (hini : Cond.initialized y.cls ∈ ALLW) (hcd : Cond.code y bytes maxL none ∈ ALLW) (hok : callOK y 0) (hy1 : y.name = "<init>") (hR : d + 1 ≤ R.frames ∧ 8 + (maxL + 11) + 41 * d ≤ R.locals) (hR2 : cells + mc ≤ R.cells ∧ slots + ms ≤ R.slots) (hA : ∀ q, s.heap.size ≤ q → A q) (hAO : aoK s)
    (hr0 : r0 < N) (hN' : 0 < N') (hsh0 : sh r0 = sh' 0) (hw0 : ∀ k, k < szE (sh' 0) → w r0 k = w0 0 k) (hnr : ∀ k, k < szE (sh' 0) → ∀ x : Nat, w0 0 k ≠ .ref x) (hshN : ∀ o, o < N' → sh (ioC N r0 o) = sh' o)
    (hwA : ∀ o, o < N' → ∀ k, k < szE (sh' o) → w1 (ioC N r0 o) k = cvv (ioC N r0) (w' o k)) (hwB : ∀ x, x < N → x ≠ r0 → ∀ k, k < szE (sh x) → w1 x k = w x k) (hrf : rfL N sh w) (hrf' : rfL N' sh' w') (hL : vsL N (L.map fun q => q.2) = true) (hst : vsL N r = true) (hcat : (r.map fun v => v.category).sum ≤ 8)
    (h200 : N + N' ≤ 200) (kk : ∀ ad' : Nat → Nat, (∀ o, (o < N ∨ 200 ≤ o) → ad' o = ad o) → bV p l e R s m args below meth c D cA sh A nL tb Q ad' (N + N' - 1) (cells + mc) (slots + ms) w1 (i + 1) L r) : bV p l e R s m args below meth c D cA sh A nL tb Q ad N cells slots w i L (.ref r0 :: r) := by
  intro H locs ls ha hP hS hl T hT X
  have hn := pcAt_nx C.2.2.2.2.2.2.1 ht rfl
  have hd := (C.2.2.2.2.2.2.1 i _ ht rfl).1
  have hW := C.2.2.2.2.1
  have hzA : z0 ≤ ad r0 := C.2.2.2.2.2.2.2.1 _ (ha.2 r0 hr0)
  have hzH : z0 ≤ H.size := Nat.le_trans (C.2.2.2.2.2.2.2.1 _ (hA _ (Nat.le_refl _))) hS.1
  have hPs : va_P D vwCl (wls cA (fun _ => ad r0) sh' w0 1) H := by
    intro k q hq
    obtain ⟨hk, rfl⟩ := wls_inv hq
    obtain rfl : k = 0 := by omega
    exact at_congr hsh0 (fun b hb => by
      rw [hsh0] at hb
      rw [hw0 b hb]
      have z := hnr b hb
      cases hv : w0 0 b with
      | ref r => exact absurd hv (z r)
      | _ => rfl) (hP r0 _ (wls_get hr0))
  have hK := bK.kept (H1 := H) (fun a h1 h2 => hS.2.1 a h1 (fun z => h2 (C.2.2.2.2.2.2.2.1 a z))) C.2.2.2.2.2.1
  have hrun := va_runI (H := H) (locs := locs) (cells := cells) (slots := slots) (g := F0 m (pcAt tb i) ls ((Value.ref r0 :: r).map (cvv ad))) (As := []) (b := ad r0) (rest := r.map (cvv ad)) (Ts := ALLW) (p := p) (l := l) (e := e) (below := below) (meth := meth) ⟨C.1, C.2.1, C.2.2.1, C.2.2.2.1, C.2.2.2.2.1⟩ (hM (ad r0) H.size hzA hzH) (cwI 0 C.2.2.2.2.1 (goodAll (inCode hcd)) rfl rfl rfl (hW _ hini) (hW _ hlk) (hW _ him) hy1 hok hR) ⟨bPN_blind, fun U hU hWa => ⟨rfl, by rw [hU], by rw [hU]; exact hPs, by rw [hU]; exact bK.warm hWa hK, aoK.warm hWa hAO⟩⟩ rfl rfl hl.1 rfl (lv_room (by rw [cat_map]; exact hcat)) (by rw [pcAt_of ht]; exact hd) hR2
  obtain ⟨v, st₀, t, T', L2, h0, X', hL2, e1, e2, ⟨⟨ad1, hz0, hD1, hv, hP1⟩, hz, hk⟩, st⟩ := hrun T hT X
  cases hv
  rw [h0] at hz hk
  have hlt : ∀ o, o < N → ad o < H.size := fun o ho => (hP o _ (wls_get ho)).lt
  have hnew : ∀ o, 0 < o → o < N' → H.size ≤ ad1 o := by
    intro o ho hoN
    rcases hD1.2 o hoN with h | h
    · exact absurd (hD1.1 o 0 hoN hN' (h.trans hz0.symm)) (by omega)
    · exact h
  let ad2 : Nat → Nat := fun o => if o < N ∨ 200 ≤ o then ad o else ad1 (o - N + 1)
  have a0 : ∀ o, (o < N ∨ 200 ≤ o) → ad2 o = ad o := fun o ho => if_pos ho
  have a1 : ∀ o, o < N → ad2 o = ad o := fun o ho => if_pos (Or.inl ho)
  have a2 : ∀ o, ¬ o < N → o < 200 → ad2 o = ad1 (o - N + 1) := fun o ho h2 => if_neg (by omega)
  have hAA : ∀ q, frN (ad r0) H.size q → A q := fun q hq => by
    rcases hq with rfl | h
    · exact ha.2 r0 hr0
    · exact hA q (Nat.le_trans hS.1 h)
  have haD2 : aD A ad2 (N + N' - 1) := by
    refine ⟨fun x y hx hy exy => ?_, fun x hx => ?_⟩
    · by_cases h1 : x < N <;> by_cases h2 : y < N
      · rw [a1 x h1, a1 y h2] at exy; exact ha.1 x y h1 h2 exy
      · rw [a1 x h1, a2 y h2 (by omega)] at exy
        have q1 := hlt x h1
        have q2 := hnew (y - N + 1) (by omega) (by omega)
        omega
      · rw [a2 x h1 (by omega), a1 y h2] at exy
        have q1 := hlt y h2
        have q2 := hnew (x - N + 1) (by omega) (by omega)
        omega
      · rw [a2 x h1 (by omega), a2 y h2 (by omega)] at exy
        have q1 := hD1.1 _ _ (by omega) (by omega) exy
        omega
    · by_cases h1 : x < N
      · rw [a1 x h1]; exact ha.2 x h1
      · rw [a2 x h1 (by omega)]; exact hAA _ (hD1.2 _ (by omega))
  have hio : ∀ o, o < N' → ad2 (ioC N r0 o) = ad1 o := by
    intro o ho
    unfold ioC
    by_cases h1 : o = 0
    · rw [if_pos h1, a1 r0 hr0, h1, hz0]
    · rw [if_neg h1, a2 _ (by omega) (by omega), show N + o - 1 - N + 1 = o by omega]
  have hP2 : va_P D vwCl (wls cA ad2 sh w1 (N + N' - 1)) T'.heap := by
    rw [e1]
    intro x q hq
    obtain ⟨hx, rfl⟩ := wls_inv hq
    have hcal : ∀ o, o < N' → ioC N r0 o = x → va_at D vwCl (ad2 x, cel cA ad2 sh w1 x) t.heap := by
      intro o ho hox
      subst hox
      rw [hio o ho]
      exact at_congr (hshN o ho).symm (fun b hb => by
        rw [hwA o ho b hb, cvv_cvv]
        cases hv : w' o b with
        | ref r => exact congrArg Value.ref (hio r (hrf' o ho b hb r hv)).symm
        | _ => rfl) (hP1 o _ (wls_get ho))
    by_cases hxN : x < N
    · by_cases hxr : x = r0
      · exact hcal 0 hN' (by unfold ioC; rw [if_pos rfl, hxr])
      · rw [a1 x hxN]
        have hq0 := hP x _ (wls_get hxN)
        refine at_congr rfl (fun b hb => ?_) (hq0.kept (hk _ hq0.lt ?_))
        · rw [hwB x hxN hxr b hb]
          exact cvv_ag a0 (fun r hr => Or.inl (hrf x hxN b hb r hr))
        · rintro (h | h)
          · exact hxr (ha.1 x r0 hxN hr0 h)
          · have := hlt x hxN
            omega
    · exact hcal (x - N + 1) (by omega) (by unfold ioC; rw [if_neg (by omega)]; omega)
  have hS2 : va_S A s.heap T'.heap (locs ++ L2) := by
    refine ⟨Nat.le_trans hS.1 (by rw [e1]; exact hz), fun q h1 h2 => ?_, fun q hq => ?_⟩
    · rw [e1, hk q (Nat.lt_of_lt_of_le h1 hS.1) (fun z => h2 (hAA q z))]
      exact hS.2.1 q h1 h2
    · rcases List.mem_append.mp hq with h | h
      · exact hS.2.2 q h
      · exact hAA _ (hL2 q h)
  have k2 := kk ad2 a0 T'.heap (locs ++ L2) ls haD2 hP2 hS2 (by rw [← lcv_ag a0 hL]; exact hl)
  rw [hn, ← map_ag a0 hst, ← pcAt_of ht] at k2
  obtain ⟨t2, b1, b2⟩ := k2 T' rfl X'
  exact ⟨t2, st t2 b1, b2⟩
end GC
