/-! THE LAW: a call of the class, a call of the reference -/
section LC
variable {p : Program} {l : Launch} {e : Env} {R : Room} {s : State} {m : MethodId} {args : Array Value} {below : List Frame} {meth : Method} {c : Code} {D : va_G} {cA : FieldType → ClassId} {z0 : Nat} {SK SV : Nat → Nat} {A : Nat → Prop} {nL : Nat} {own : String} {cc : ByteArray} {tb : Tb} {Q : State → Prop} {ad : Nat → Nat} {cells slots : Nat} {i pc : Nat} {L : Lc} {rest As : List Value} {g sv g1 sv1 : Nat → Nat → Int32} {σ τ σ1 τ1 : Nat → Nat → Nat} {ρ ρ1 : Nat → Nat} {c9 c1 : Nat} {gr gr1 : Nat → Nat → Int32} {h h1 : Int64} {y : MethodName} {bytes : ByteArray} {maxL d idx n : Nat} {v : Value} {ret : Option FieldType}
theorem bv_cX (C : bC p s m args meth c D cA z0 SK SV A nL own cc tb) (ht : tb[i]? = some (pc, .invokevirtual idx)) (hM : bF l D cA z0 SK SV ad shF 182 y bytes maxL ret d (.ref 0 :: As) (layF g sv σ τ ρ c9) (some v) (layF g1 sv1 σ1 τ1 ρ1 c1)) (hlk : Cond.methodLink own idx y ∈ ALLW) (him : Cond.instanceMethod y ∈ ALLW) (hsel : Cond.selects y.cls y y ∈ ALLW) (hini : Cond.initialized y.cls ∈ ALLW) (hcd : Cond.code y bytes maxL ret ∈ ALLW) (hok : callOK y n) (hn : As.length = n) (hR : d + 1 ≤ R.frames ∧ 8 + (maxL + 11) + 41 * d ≤ R.locals) (hR2 : cells ≤ R.cells ∧ slots ≤ R.slots) (hq : RX8 = y.cls) (hA : ∀ io, As.map (cvv io) = As) (hv : ∀ io, cvv io v = v) (hcat : (rest.map fun v => v.category).sum ≤ 8) (kk : bV p l e R s m args below meth c D cA shL A nL tb Q ad 191 cells slots (layL g1 sv1 σ1 τ1 ρ1 c1 gr h) (i + 1) L (v :: rest)) : bV p l e R s m args below meth c D cA shL A nL tb Q ad 191 cells slots (layL g sv σ τ ρ c9 gr h) i L (As.reverse ++ .ref 0 :: rest) :=
  bv_callV (io := fun o => o) (N' := 182) (sh' := shF) (w0 := layF g sv σ τ ρ c9) (P := fun r w1 => r = some v ∧ w1 = layF g1 sv1 σ1 τ1 ρ1 c1) C ht hM hlk him hsel hini hcd hok hn hR hR2 (by omega) rfl rfl hq (by rw [hA]) hcat embX (fun r w1 hr => by
    obtain ⟨rfl, rfl⟩ := hr
    refine ⟨_, aftX, ?_⟩
    rw [Option.map_some, hv]
    exact kk)
theorem bv_cM (C : bC p s m args meth c D cA z0 SK SV A nL own cc tb) (ht : tb[i]? = some (pc, .invokevirtual idx)) (hM : bF l D cA z0 SK SV (fun o => ad (182 + o)) shM 9 y bytes maxL ret d (.ref 0 :: As) (layM gr h) (some v) (layM gr1 h1)) (hlk : Cond.methodLink own idx y ∈ ALLW) (him : Cond.instanceMethod y ∈ ALLW) (hsel : Cond.selects y.cls y y ∈ ALLW) (hini : Cond.initialized y.cls ∈ ALLW) (hcd : Cond.code y bytes maxL ret ∈ ALLW) (hok : callOK y n) (hn : As.length = n) (hR : d + 1 ≤ R.frames ∧ 8 + (maxL + 11) + 41 * d ≤ R.locals) (hR2 : cells ≤ R.cells ∧ slots ≤ R.slots) (hq : RX9 = y.cls) (hA : ∀ io, As.map (cvv io) = As) (hv : ∀ io, cvv io v = v) (hcat : (rest.map fun v => v.category).sum ≤ 8) (kk : bV p l e R s m args below meth c D cA shL A nL tb Q ad 191 cells slots (layL g sv σ τ ρ c9 gr1 h1) (i + 1) L (v :: rest)) : bV p l e R s m args below meth c D cA shL A nL tb Q ad 191 cells slots (layL g sv σ τ ρ c9 gr h) i L (As.reverse ++ .ref 182 :: rest) :=
  bv_callV (io := fun o => 182 + o) (N' := 9) (sh' := shM) (w0 := layM gr h) (P := fun r w1 => r = some v ∧ w1 = layM gr1 h1) C ht hM hlk him hsel hini hcd hok hn hR hR2 (by omega) rfl rfl hq (by rw [hA]) hcat embM (fun r w1 hr => by
    obtain ⟨rfl, rfl⟩ := hr
    refine ⟨_, aftM, ?_⟩
    rw [Option.map_some, hv]
    exact kk)
theorem aD_X (hE : aD (fun q => z0 ≤ q) ad 191) : aD (fun q => z0 ≤ q) ad 182 := ⟨fun i j hi hj => hE.1 i j (by omega) (by omega), fun i hi => hE.2 i (by omega)⟩
theorem aD_M (hE : aD (fun q => z0 ≤ q) ad 191) : aD (fun q => z0 ≤ q) (fun o => ad (182 + o)) 9 := ⟨fun i j hi hj z => by
  have := hE.1 (182 + i) (182 + j) (by omega) (by omega) z
  omega, fun i hi => hE.2 (182 + i) (by omega)⟩
end LC
