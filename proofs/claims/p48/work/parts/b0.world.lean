/-! THE LAW'S WORLD: the class's, and the row e (182); the script is the object 400 -/
theorem pn_L : plainName RL = true := by decide +kernel
theorem ini_L : Cond.initialized RL ∈ ALLW := mw (mT_1 0 rfl) rfl
def shZ : Sh := fun i => if i < 182 then shF i else .inl (.int, 4)
def layZ (g s : Nat → Nat → Int32) (σ τ : Nat → Nat → Nat) (ρ : Nat → Nat) (c9 : Nat) (ev : Nat → Int32) : Wd := fun i k => if i < 182 then layF g s σ τ ρ c9 i k else if i = 182 then .int (ev k) else .int 0
section EW
variable {g s g1 s1 : Nat → Nat → Int32} {σ τ σ1 τ1 : Nat → Nat → Nat} {ρ ρ1 : Nat → Nat} {c9 c1 : Nat} {ev : Nat → Int32}
theorem embE : bEmb (fun o => o) 182 shF (layF g s σ τ ρ c9) 183 shZ (layZ g s σ τ ρ c9 ev) :=
  ⟨fun o ho => ⟨(show o < 183 by omega), if_pos ho⟩, fun _ _ _ _ e => e, fun o ho k _ => (if_pos ho).trans (cvv_id _).symm⟩
theorem aftE : bAft (fun o => o) 182 shF (layF g1 s1 σ1 τ1 ρ1 c1) 183 shZ (layZ g s σ τ ρ c9 ev) (layZ g1 s1 σ1 τ1 ρ1 c1 ev) := by
  refine ⟨fun o ho k _ => (if_pos ho).trans (cvv_id _).symm, fun a ha hn k _ => ?_⟩
  have h9 : ¬ a < 182 := fun z => hn a z rfl
  unfold layZ
  rw [if_neg h9, if_neg h9]
theorem le_up {j : Nat} {x : Int32} : up2 (layZ g s σ τ ρ c9 ev) 182 j (.int x) = layZ g s σ τ ρ c9 (upd ev j x) := by
  funext a b
  unfold up2 layZ
  by_cases h : a = 182
  · subst h
    by_cases hb : b = j
    · simp [upd, hb]
    · simp [upd, hb]
  · rw [if_neg h, if_neg h, if_neg h]
end EW
section ER
variable {p : Program} {l : Launch} {e : Env} {R : Room} {s : State} {m : MethodId} {args : Array Value} {below : List Frame} {meth : Method} {c : Code} {D : va_G} {cA : FieldType → ClassId} {z0 : Nat} {SK : Nat → Nat} {SV : Nat → Int32} {sh : Sh} {A : Nat → Prop} {nL : Nat} {own : String} {cc : ByteArray} {tb : Tb} {Q : State → Prop} {ad : Nat → Nat} {N cells slots : Nat} {w w1 : Wd} {i j pc : Nat} {L : Lc} {st r rest As : List Value} {g sv g1 sv1 : Nat → Nat → Int32} {σ τ σ1 τ1 : Nat → Nat → Nat} {ρ ρ1 : Nat → Nat} {c9 c1 : Nat} {ev : Nat → Int32} {y : MethodName} {bytes : ByteArray} {maxL d idx n : Nat} {v : Value} {ret : Option FieldType}
/-- a call of the class in the law's world -/
theorem bv_cE (C : bC p s m args meth c D cA z0 SK SV A nL own cc tb) (ht : tb[i]? = some (pc, .invokevirtual idx)) (hM : bF l D cA z0 SK SV ad shF 182 y bytes maxL ret d (.ref 0 :: As) (layF g sv σ τ ρ c9) (some v) (layF g1 sv1 σ1 τ1 ρ1 c1)) (hlk : Cond.methodLink own idx y ∈ ALLW) (him : Cond.instanceMethod y ∈ ALLW) (hsel : Cond.selects y.cls y y ∈ ALLW) (hini : Cond.initialized y.cls ∈ ALLW) (hcd : Cond.code y bytes maxL ret ∈ ALLW) (hok : callOK y n) (hn : As.length = n) (hR : d + 1 ≤ R.frames ∧ 8 + (maxL + 11) + 41 * d ≤ R.locals) (hR2 : cells ≤ R.cells ∧ slots ≤ R.slots) (hq : RX8 = y.cls) (hA : ∀ io, As.map (cvv io) = As) (hv : ∀ io, cvv io v = v) (hcat : (rest.map fun v => v.category).sum ≤ 8) (kk : bV p l e R s m args below meth c D cA shZ A nL tb Q ad 183 cells slots (layZ g1 sv1 σ1 τ1 ρ1 c1 ev) (i + 1) L (v :: rest)) : bV p l e R s m args below meth c D cA shZ A nL tb Q ad 183 cells slots (layZ g sv σ τ ρ c9 ev) i L (As.reverse ++ .ref 0 :: rest) :=
  bv_callV (io := fun o => o) (N' := 182) (sh' := shF) (w0 := layF g sv σ τ ρ c9) (P := fun r w1 => r = some v ∧ w1 = layF g1 sv1 σ1 τ1 ρ1 c1) C ht hM hlk him hsel hini hcd hok hn hR hR2 (by omega) rfl rfl hq (by rw [hA]) hcat embE (fun r w1 hr => by
    obtain ⟨rfl, rfl⟩ := hr
    refine ⟨_, aftE, ?_⟩
    rw [Option.map_some, hv]
    exact kk)
theorem aD_E (hE : aD (fun q => z0 ≤ q) ad 183) : aD (fun q => z0 ≤ q) ad 182 := ⟨fun i j hi hj => hE.1 i j (by omega) (by omega), fun i hi => hE.2 i (by omega)⟩
theorem sc_in (C : bC p s m args meth c D cA z0 SK SV A nL own cc tb) : SK 0 < s.heap.size ∧ ¬ A (SK 0) := by
  have hX := C.2.2.2.2.2.1.2.2.1
  obtain ⟨scr, h1, -⟩ := hX
  exact ⟨(Array.getElem?_eq_some_iff.mp h1).1, fun z => absurd (C.2.2.2.2.2.2.2.1 _ z) (Nat.not_le.mpr C.2.2.2.2.2.1.2.2.2.1)⟩
theorem bv_slen (C : bC p s m args meth c D cA z0 SK SV A nL own cc tb) (had : ad 400 = SK 0) (ht : tb[i]? = some (pc, .arraylength)) (k : bV p l e R s m args below meth c D cA sh A nL tb Q ad N cells slots w (i + 1) L (.int (nI (SK 1)) :: st)) : bV p l e R s m args below meth c D cA sh A nL tb Q ad N cells slots w i L (.ref 400 :: st) := by
  intro H locs ls ha hP hS hl
  have hn := pcAt_nx C.2.2.2.2.2.2.1 ht rfl
  have hd := (C.2.2.2.2.2.2.1 i _ ht rfl).1
  rw [pcAt_of ht]
  have k := k H locs ls ha hP hS hl
  rw [hn] at k
  have e9 : cvv ad (.ref 400) = .ref (SK 0) := congrArg Value.ref had
  rw [List.map_cons, e9]
  exact va_slen C.1 C.2.1 C.2.2.2.2.2.1.2.2.1 (sc_in C).1 (sc_in C).2 hS hd k
theorem bv_ssld (C : bC p s m args meth c D cA z0 SK SV A nL own cc tb) (had : ad 400 = SK 0) (ht : tb[i]? = some (pc, .iaload)) {n : Nat} (hn9 : n < SK 1) (k : bV p l e R s m args below meth c D cA sh A nL tb Q ad N cells slots w (i + 1) L (.int (SV n) :: st)) : bV p l e R s m args below meth c D cA sh A nL tb Q ad N cells slots w i L (.int (nI n) :: .ref 400 :: st) := by
  have hL : SK 1 ≤ 260 := C.2.2.2.2.2.1.2.2.2.2
  intro H locs ls ha hP hS hl
  have hn := pcAt_nx C.2.2.2.2.2.2.1 ht rfl
  have hd := (C.2.2.2.2.2.2.1 i _ ht rfl).1
  rw [pcAt_of ht]
  have k := k H locs ls ha hP hS hl
  rw [hn] at k
  have e9 : cvv ad (.ref 400) = .ref (SK 0) := congrArg Value.ref had
  have ec : (nI n).toNatClampNeg = n := nI_clamp (by omega)
  have hin : vp_in (nI n) (SK 1) := fun z => by
    rcases z with z | z
    · exact nI_nlt (a := n) (b := 0) (by omega) (by omega) z
    · rw [ec] at z; omega
  rw [List.map_cons, List.map_cons, e9]
  refine va_sld C.1 C.2.1 C.2.2.2.2.2.1.2.2.1 (sc_in C).1 (sc_in C).2 hS hin hd ?_
  rw [ec]
  exact k
end ER
