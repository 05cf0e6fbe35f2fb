section EM
variable {p : Program} {l : Launch} {e : Env} {R : Room} {s : State} {m : MethodId} {args : Array Value} {below : List Frame} {meth : Method} {c : Code} {D : va_G} {cA : FieldType → ClassId} {z0 : Nat} {SK : Nat → Nat} {SV : Nat → Int32} {sh : Sh} {A : Nat → Prop} {nL : Nat} {own : String} {cc : ByteArray} {tb : Tb} {Q : State → Prop} {ad : Nat → Nat} {N cells slots : Nat} {w : Wd} {i j pc : Nat} {L L1 : Lc} {st st1 r : List Value}
/-- a call into a part of the world -/
theorem bv_eV0 (C : bC p s m args meth c D cA z0 SK SV A nL own cc tb) {io : Nat → Nat} {N' : Nat} {sh' : Sh} {w0 w1 w2 : Wd} {stk rest As : List Value} {y : MethodName} {bytes : ByteArray} {maxL d idx o0 ci nn n : Nat} {q : vw_C} {ret : Option FieldType} (ht : tb[i]? = some (pc, .invokevirtual idx)) (hM : bF l D cA z0 SK SV (fun o => ad (io o)) sh' N' y bytes maxL ret d (.ref o0 :: As) w0 none w1)
    (hlk : Cond.methodLink own idx y ∈ ALLW) (him : Cond.instanceMethod y ∈ ALLW) (hsel : Cond.selects y.cls y y ∈ ALLW) (hini : Cond.initialized y.cls ∈ ALLW) (hcd : Cond.code y bytes maxL ret ∈ ALLW) (hok : callOK y n) (hn : As.length = n)
    (hR : d + 1 ≤ R.frames ∧ 8 + (maxL + 11) + 41 * d ≤ R.locals) (hR2 : cells ≤ R.cells ∧ slots ≤ R.slots) (ho : o0 < N') (hs0 : sh' o0 = .inr (ci, nn)) (hcq : vwCl[ci]? = some q) (hq : q.1 = y.cls) (hst : stk = (As.map (cvv io)).reverse ++ .ref (io o0) :: rest) (hcat : (rest.map fun v => v.category).sum ≤ 8) (he : bEmb io N' sh' w0 N sh w) (hA : bAft io N' sh' w1 N sh w w2)
    (kk : bV p l e R s m args below meth c D cA sh A nL tb Q ad N cells slots w2 (i + 1) L rest) : bV p l e R s m args below meth c D cA sh A nL tb Q ad N cells slots w i L stk :=
  bv_callV C ht hM hlk him hsel hini hcd hok hn hR hR2 ho hs0 hcq hq hst hcat he (fun r w3 h => by obtain ⟨rfl, rfl⟩ := h; exact ⟨w2, hA, kk⟩)
theorem bv_eV1 (C : bC p s m args meth c D cA z0 SK SV A nL own cc tb) {io : Nat → Nat} {N' : Nat} {sh' : Sh} {w0 w1 w2 : Wd} {stk rest As : List Value} {y : MethodName} {bytes : ByteArray} {maxL d idx o0 ci nn n : Nat} {q : vw_C} {v v2 : Value} {ret : Option FieldType} (ht : tb[i]? = some (pc, .invokevirtual idx)) (hM : bF l D cA z0 SK SV (fun o => ad (io o)) sh' N' y bytes maxL ret d (.ref o0 :: As) w0 (some v) w1)
    (hlk : Cond.methodLink own idx y ∈ ALLW) (him : Cond.instanceMethod y ∈ ALLW) (hsel : Cond.selects y.cls y y ∈ ALLW) (hini : Cond.initialized y.cls ∈ ALLW) (hcd : Cond.code y bytes maxL ret ∈ ALLW) (hok : callOK y n) (hn : As.length = n)
    (hR : d + 1 ≤ R.frames ∧ 8 + (maxL + 11) + 41 * d ≤ R.locals) (hR2 : cells ≤ R.cells ∧ slots ≤ R.slots) (ho : o0 < N') (hs0 : sh' o0 = .inr (ci, nn)) (hcq : vwCl[ci]? = some q) (hq : q.1 = y.cls) (hst : stk = (As.map (cvv io)).reverse ++ .ref (io o0) :: rest) (hcat : (rest.map fun v => v.category).sum ≤ 8) (he : bEmb io N' sh' w0 N sh w) (hA : bAft io N' sh' w1 N sh w w2) (hv : cvv io v = v2)
    (kk : bV p l e R s m args below meth c D cA sh A nL tb Q ad N cells slots w2 (i + 1) L (v2 :: rest)) : bV p l e R s m args below meth c D cA sh A nL tb Q ad N cells slots w i L stk :=
  bv_callV C ht hM hlk him hsel hini hcd hok hn hR hR2 ho hs0 hcq hq hst hcat he (fun r w3 h => by obtain ⟨rfl, rfl⟩ := h; subst hv; exact ⟨w2, hA, kk⟩)
end EM
/-! THE FACE'S WORLD: 0 BeamTraining, 1 saved, 2 Scenario, 3 its text, 4 PairSurvey, 5 measured, then eight States of 22 objects each: 0 now, 1 trial, 2 to 7 the saved ones. g: now's numbers (row 1), the scenario's, the text, the measured pairs; s: the other States' numbers; ρ: which State stands where in saved; c: how many are saved. -/
def io (b o : Nat) : Nat := if o < 22 then 6 + 22 * b + o else if o = 22 then 4 else if o = 23 then 5 else if o = 24 then 2 else if o = 25 then 3 else o
def shF : Sh := fun i => match i with
  | 0 => .inr (7, 6)
  | 1 => .inl (.object "BeamTraining$State", 6)
  | 2 => .inr (4, 5)
  | 3 => .inl (.char, 120)
  | 4 => .inr (2, 1)
  | 5 => .inl (.int, 256)
  | n + 6 => shB (n % 22)
/-- the numbers that the State b's methods see -/
def fr (g s : Nat → Nat → Int32) (b : Nat) : Nat → Nat → Int32 := fun a k => if b = 0 then g a k else if a = 1 then s b k else g a k
def layF (g s : Nat → Nat → Int32) (σ τ : Nat → Nat → Nat) (ρ : Nat → Nat) (c : Nat) : Wd := fun i k => match i with
  | 0 => (match k with
    | 0 => .ref 6
    | 1 => .ref 28
    | 2 => .ref 1
    | 3 => .int (nI c)
    | 4 => .ref 2
    | _ => .ref 4)
  | 1 => .ref (50 + 22 * ρ k)
  | 2 => (match k with
    | 0 => .ref 3
    | 1 => .int (g 0 4)
    | 2 => .int (g 0 9)
    | 3 => .int (g 0 10)
    | _ => .int (g 0 20))
  | 3 => .int (g 3 k)
  | 4 => .ref 5
  | 5 => .int (g 4 k)
  | n + 6 => cvv (io (n / 22)) (layB (fr g s (n / 22)) (σ (n / 22)) (τ (n / 22)) (n % 22) k)
def pmF (σ τ : Nat → Nat → Nat) : Prop := ∀ b, b < 8 → pmK (σ b) (τ b)
theorem fr_0 {g s : Nat → Nat → Int32} : fr g s 0 = g := rfl
theorem fr_s {g s : Nat → Nat → Int32} {b k : Nat} (h : b ≠ 0) : fr g s b 1 k = s b k := (if_neg h).trans (if_pos rfl)
theorem fr_g {g s : Nat → Nat → Int32} {a b k : Nat} (h : a ≠ 1) : fr g s b a k = g a k := by
  unfold fr
  rw [if_neg h]
  by_cases h0 : b = 0
  · rw [if_pos h0]
  · rw [if_neg h0]
theorem io_b {b o : Nat} (h : o < 22) : io b o = (22 * b + o) + 6 := by
  unfold io
  rw [if_pos h]
  omega
theorem io_lt {b o : Nat} (hb : b < 8) (h : o < 26) : io b o < 182 := by
  unfold io
  repeat' split
  all_goals omega
theorem io_inj {b o o' : Nat} (h : o < 26) (h' : o' < 26) (e : io b o = io b o') : o = o' := by
  rcases (by omega : o < 22 ∨ o = 22 ∨ o = 23 ∨ o = 24 ∨ o = 25) with c | rfl | rfl | rfl | rfl <;> rcases (by omega : o' < 22 ∨ o' = 22 ∨ o' = 23 ∨ o' = 24 ∨ o' = 25) with c' | rfl | rfl | rfl | rfl <;> (first | rfl | (rw [io_b c, io_b c'] at e; omega) | (rw [io_b c] at e; simp [io] at e; try omega) | (rw [io_b c'] at e; simp [io] at e; try omega) | (simp [io] at e))
theorem shF_n {n : Nat} : shF (n + 6) = shB (n % 22) := rfl
theorem layF_n {g s : Nat → Nat → Int32} {σ τ : Nat → Nat → Nat} {ρ : Nat → Nat} {c n k : Nat} : layF g s σ τ ρ c (n + 6) k = cvv (io (n / 22)) (layB (fr g s (n / 22)) (σ (n / 22)) (τ (n / 22)) (n % 22) k) := rfl
theorem shF_io {b o : Nat} (h : o < 26) : shF (io b o) = shB o := by
  rcases (by omega : o < 22 ∨ o = 22 ∨ o = 23 ∨ o = 24 ∨ o = 25) with c | rfl | rfl | rfl | rfl
  · rw [io_b c, shF_n, show (22 * b + o) % 22 = o by omega]
  all_goals rfl
theorem layF_io {g s : Nat → Nat → Int32} {σ τ : Nat → Nat → Nat} {ρ : Nat → Nat} {c b o k : Nat} (h : o < 26) (hk : k < szE (shB o)) : layF g s σ τ ρ c (io b o) k = cvv (io b) (layB (fr g s b) (σ b) (τ b) o k) := by
  rcases (by omega : o < 22 ∨ o = 22 ∨ o = 23 ∨ o = 24 ∨ o = 25) with c1 | rfl | rfl | rfl | rfl
  · rw [io_b c1, layF_n, show (22 * b + o) / 22 = b by omega, show (22 * b + o) % 22 = o by omega]
  · rfl
  · exact congrArg Value.int (fr_g (by omega)).symm
  · have hk : k < 5 := hk
    rcases (show k = 0 ∨ k = 1 ∨ k = 2 ∨ k = 3 ∨ k = 4 by omega) with rfl | rfl | rfl | rfl | rfl
    · rfl
    all_goals exact congrArg Value.int (fr_g (by omega)).symm
  · exact congrArg Value.int (fr_g (by omega)).symm
theorem pB_1 {τ : Nat → Nat} (hτ : ∀ j, j < 8 → τ j < 8) {i k : Nat} (h : i < 22) (hk : k < szE (shB i)) (hi : iB i k = true) : (pB τ i k).1 = 1 ∧ (pB τ i k).2 < 172 := by
  rcases (show i = 0 ∨ i = 1 ∨ i = 2 ∨ i = 3 ∨ i = 4 ∨ i = 5 ∨ i = 6 ∨ i = 7 ∨ i = 8 ∨ i = 9 ∨ i = 10 ∨ i = 11 ∨ i = 12 ∨ i = 13 ∨ i = 14 ∨ i = 15 ∨ i = 16 ∨ i = 17 ∨ i = 18 ∨ i = 19 ∨ i = 20 ∨ i = 21 by omega) with rfl | rfl | rfl | rfl | rfl | rfl | rfl | rfl | rfl | rfl | rfl | rfl | rfl | rfl | rfl | rfl | rfl | rfl | rfl | rfl | rfl | rfl
  · have hk : k < 18 := hk
    unfold pB
    by_cases h3 : k = 3
    · rw [if_pos h3]; exact ⟨rfl, show 12 < 172 by omega⟩
    · rw [if_neg h3]; exact ⟨rfl, show k - 6 < 172 by omega⟩
  · have hk : k < 5 := hk
    exact ⟨rfl, show 15 + k < 172 by omega⟩
  · have hk : k < 16 := hk
    exact ⟨rfl, show 19 + k < 172 by omega⟩
  · have hk : k < 5 := hk
    exact ⟨rfl, show 35 + k < 172 by omega⟩
  · have hk : k < 16 := hk
    exact ⟨rfl, show 39 + k < 172 by omega⟩
  · cases hi
  · have hk : k < 6 := hk
    exact ⟨rfl, by have z := hτ 0 (by omega); show 55 + 6 * τ 0 + k < 172; omega⟩
  · have hk : k < 6 := hk
    exact ⟨rfl, by have z := hτ 1 (by omega); show 55 + 6 * τ 1 + k < 172; omega⟩
  · have hk : k < 6 := hk
    exact ⟨rfl, by have z := hτ 2 (by omega); show 55 + 6 * τ 2 + k < 172; omega⟩
  · have hk : k < 6 := hk
    exact ⟨rfl, by have z := hτ 3 (by omega); show 55 + 6 * τ 3 + k < 172; omega⟩
  · have hk : k < 6 := hk
    exact ⟨rfl, by have z := hτ 4 (by omega); show 55 + 6 * τ 4 + k < 172; omega⟩
  · have hk : k < 6 := hk
    exact ⟨rfl, by have z := hτ 5 (by omega); show 55 + 6 * τ 5 + k < 172; omega⟩
  · have hk : k < 6 := hk
    exact ⟨rfl, by have z := hτ 6 (by omega); show 55 + 6 * τ 6 + k < 172; omega⟩
  · have hk : k < 6 := hk
    exact ⟨rfl, by have z := hτ 7 (by omega); show 55 + 6 * τ 7 + k < 172; omega⟩
  · exact ⟨rfl, show 13 < 172 by omega⟩
  · have hk : k < 3 := hk
    exact ⟨rfl, show 103 + 3 * k < 172 by omega⟩
  · have hk : k < 3 := hk
    exact ⟨rfl, show 103 + 3 * k + 1 < 172 by omega⟩
  · have hk : k < 3 := hk
    exact ⟨rfl, show 103 + 3 * k + 2 < 172 by omega⟩
  · exact ⟨rfl, show 14 < 172 by omega⟩
  · have hk : k < 20 := hk
    exact ⟨rfl, show 112 + 3 * k < 172 by omega⟩
  · have hk : k < 20 := hk
    exact ⟨rfl, show 112 + 3 * k + 1 < 172 by omega⟩
  · have hk : k < 20 := hk
    exact ⟨rfl, show 112 + 3 * k + 2 < 172 by omega⟩
/-- a State's objects read the numbers below 172 of row 1 alone -/
theorem lbS_congr {g g' : Nat → Nat → Int32} {σ τ : Nat → Nat} (hσ : pmK σ τ) (h : ∀ k, k < 172 → g 1 k = g' 1 k) {i k : Nat} (hi : i < 22) (hk : k < szE (shB i)) : layB g σ τ i k = layB g' σ τ i k := by
  cases hb : iB i k with
  | true =>
    have z := pB_1 (τ := τ) (fun j hj => (hσ.2 j hj).1) hi hk hb
    rw [lb_int (by omega) hb, lb_int (by omega) hb, z.1, h _ z.2]
  | false => exact lb_ref (by omega) hb
theorem io_aD {ad : Nat → Nat} {z0 b : Nat} (hb : b < 8) (hE : aD (fun q => z0 ≤ q) ad 182) : aD (fun q => z0 ≤ q) (fun o => ad (io b o)) 26 :=
  ⟨fun i j hi hj e => io_inj hi hj (hE.1 _ _ (io_lt hb hi) (io_lt hb hj) e), fun i hi => hE.2 _ (io_lt hb hi)⟩
theorem emb_F {g s : Nat → Nat → Int32} {σ τ : Nat → Nat → Nat} {ρ : Nat → Nat} {c b : Nat} (hb : b < 8) : bEmb (io b) 26 shB (layB (fr g s b) (σ b) (τ b)) 182 shF (layF g s σ τ ρ c) :=
  ⟨fun o ho => ⟨io_lt hb ho, shF_io ho⟩, fun o o' ho ho' e => io_inj ho ho' e, fun o ho k hk => layF_io ho hk⟩
def upS (σ : Nat → Nat → Nat) (b : Nat) (f : Nat → Nat) : Nat → Nat → Nat := fun a => if a = b then f else σ a
theorem upS_s {σ : Nat → Nat → Nat} {b : Nat} {f : Nat → Nat} : upS σ b f b = f := if_pos rfl
theorem upS_n {σ : Nat → Nat → Nat} {a b : Nat} {f : Nat → Nat} (h : a ≠ b) : upS σ b f a = σ a := if_neg h
theorem upS_id {σ : Nat → Nat → Nat} {b : Nat} : upS σ b (σ b) = σ := by
  funext a
  unfold upS
  by_cases h : a = b
  · rw [if_pos h, h]
  · rw [if_neg h]
theorem pmF_up {σ τ : Nat → Nat → Nat} {b : Nat} {f f' : Nat → Nat} (h : pmF σ τ) (h1 : pmK f f') : pmF (upS σ b f) (upS τ b f') := by
  intro a ha
  by_cases c : a = b
  · rw [c, upS_s, upS_s]; exact h1
  · rw [upS_n c, upS_n c]; exact h a ha
/-- behind a call into now -/
theorem aft_F0 {g g1 s : Nat → Nat → Int32} {σ τ : Nat → Nat → Nat} {ρ σ1 τ1 : Nat → Nat} {c : Nat} (hσ : pmF σ τ) : bAft (io 0) 26 shB (layB g1 σ1 τ1) 182 shF (layF g s σ τ ρ c) (layF g1 s (upS σ 0 σ1) (upS τ 0 τ1) ρ c) := by
  refine ⟨fun o ho k hk => ?_, fun a ha hn k hk => ?_⟩
  · rw [layF_io ho hk, fr_0, upS_s, upS_s]
  · rcases (by omega : a = 0 ∨ a = 1 ∨ a = 2 ∨ a = 3 ∨ a = 4 ∨ a = 5 ∨ 6 ≤ a) with rfl | rfl | rfl | rfl | rfl | rfl | h6
    · rfl
    · rfl
    · exact absurd rfl (hn 24 (by omega))
    · exact absurd rfl (hn 25 (by omega))
    · exact absurd rfl (hn 22 (by omega))
    · exact absurd rfl (hn 23 (by omega))
    · obtain ⟨n, rfl⟩ : ∃ n, a = n + 6 := ⟨a - 6, by omega⟩
      rw [shF_n] at hk
      have h22 : 22 ≤ n := by
        rcases (by omega : n < 22 ∨ 22 ≤ n) with h | h
        · exact absurd (by rw [io_b h]; omega) (hn n (by omega))
        · exact h
      have hb : n / 22 ≠ 0 := by omega
      rw [layF_n, layF_n, upS_n hb, upS_n hb]
      exact congrArg _ (lbS_congr (hσ (n / 22) (by omega)) (fun q _ => by rw [fr_s hb, fr_s hb]) (by omega) hk)
theorem aft_F0i {g g1 s : Nat → Nat → Int32} {σ τ : Nat → Nat → Nat} {ρ : Nat → Nat} {c : Nat} (hσ : pmF σ τ) : bAft (io 0) 26 shB (layB g1 (σ 0) (τ 0)) 182 shF (layF g s σ τ ρ c) (layF g1 s σ τ ρ c) := by
  have z := aft_F0 (g := g) (g1 := g1) (s := s) (ρ := ρ) (σ1 := σ 0) (τ1 := τ 0) (c := c) hσ
  rw [upS_id, upS_id] at z
  exact z
/-- the numbers of State b set -/
def sS (s : Nat → Nat → Int32) (b : Nat) (f : Nat → Int32) : Nat → Nat → Int32 := fun a => if a = b then f else s a
theorem sS_s {s : Nat → Nat → Int32} {b : Nat} {f : Nat → Int32} : sS s b f b = f := if_pos rfl
theorem sS_n {s : Nat → Nat → Int32} {a b : Nat} {f : Nat → Int32} (h : a ≠ b) : sS s b f a = s a := if_neg h
/-- now's numbers of one, all else of the other -/
def kN (g g1 : Nat → Nat → Int32) : Nat → Nat → Int32 := fun a k => if a = 1 then g 1 k else g1 a k
theorem kN_1 {g g1 : Nat → Nat → Int32} {k : Nat} : kN g g1 1 k = g 1 k := if_pos rfl
theorem kN_n {g g1 : Nat → Nat → Int32} {a k : Nat} (h : a ≠ 1) : kN g g1 a k = g1 a k := if_neg h
/-- behind a call into trial -/
theorem aft_F1 {g g1 s : Nat → Nat → Int32} {σ τ : Nat → Nat → Nat} {ρ : Nat → Nat} {c : Nat} (hσ : pmF σ τ) : bAft (io 1) 26 shB (layB g1 (σ 1) (τ 1)) 182 shF (layF g s σ τ ρ c) (layF (kN g g1) (sS s 1 (g1 1)) σ τ ρ c) := by
  refine ⟨fun o ho k hk => ?_, fun a ha hn k hk => ?_⟩
  · have e : fr (kN g g1) (sS s 1 (g1 1)) 1 = g1 := by
      funext a q
      unfold fr
      rw [if_neg (by omega)]
      by_cases h : a = 1
      · rw [if_pos h, sS_s, h]
      · rw [if_neg h, kN_n h]
    rw [layF_io ho hk, e]
  · rcases (by omega : a = 0 ∨ a = 1 ∨ a = 2 ∨ a = 3 ∨ a = 4 ∨ a = 5 ∨ 6 ≤ a) with rfl | rfl | rfl | rfl | rfl | rfl | h6
    · rfl
    · rfl
    · exact absurd rfl (hn 24 (by omega))
    · exact absurd rfl (hn 25 (by omega))
    · exact absurd rfl (hn 22 (by omega))
    · exact absurd rfl (hn 23 (by omega))
    · obtain ⟨n, rfl⟩ : ∃ n, a = n + 6 := ⟨a - 6, by omega⟩
      rw [shF_n] at hk
      have hb : n / 22 ≠ 1 := by
        intro h
        exact absurd (by rw [io_b (by omega : n % 22 < 22)]; omega) (hn (n % 22) (by omega))
      rw [layF_n, layF_n]
      refine congrArg _ (lbS_congr (hσ (n / 22) (by omega)) (fun q _ => ?_) (by omega) hk)
      by_cases h0 : n / 22 = 0
      · rw [h0, fr_0, fr_0, kN_1]
      · rw [fr_s h0, fr_s h0, sS_n hb]
