section CL
variable {p : Program} {l : Launch} {e : Env} {R : Room} {s : State} {m : MethodId} {args : Array Value} {below : List Frame} {meth : Method} {c : Code} {D : va_G} {cA : FieldType → ClassId} {z0 : Nat} {SK : Nat → Nat} {SV : Nat → Int32} {sh : Sh} {A : Nat → Prop} {nL : Nat} {own : String} {cc : ByteArray} {tb : Tb} {Q : State → Prop} {ad : Nat → Nat} {N cells slots : Nat} {w w1 : Wd} {i j pc : Nat} {L L1 : Lc} {st st1 r : List Value}
theorem bv_callNi (C : bC p s m args meth c D cA z0 SK SV A nL own cc tb) {P : Option Value → Wd → Prop} {stk rest As : List Value} {y : MethodName} {bytes : ByteArray} {maxL d idx n : Nat} {ret : Option FieldType} (ht : tb[i]? = some (pc, .invokestatic idx)) (hM : bCT l D cA z0 SK SV ad sh N y bytes maxL ret d (As) w P)
    (hlk : Cond.methodLinkNest own idx y RX8 ∈ nestW) (hstat : Cond.static y ∈ ALLW) (hini : Cond.initialized y.cls ∈ ALLW) (hcd : Cond.code y bytes maxL ret ∈ ALLW) (hok : callOK y n) (hn : As.length = n)
    (hR : d + 1 ≤ R.frames ∧ 8 + (maxL + 11) + 41 * d ≤ R.locals) (hR2 : cells ≤ R.cells ∧ slots ≤ R.slots) (hst : stk = As.reverse ++ rest) (hcat : (rest.map fun v => v.category).sum ≤ 8)
    (kk : ∀ (r : Option Value) (w1 : Wd), P r w1 → bV p l e R s m args below meth c D cA sh A nL tb Q ad N cells slots w1 (i + 1) L (r.toList ++ rest)) : bV p l e R s m args below meth c D cA sh A nL tb Q ad N cells slots w i L stk :=
  bv_callN (io := fun o => o) (N' := N) (sh' := sh) (w0 := w) C ht hM hlk hstat hini hcd hok hn hR hR2 (by rw [map_id_cv]; exact hst) hcat bEmb_id (fun r w1 h => ⟨w1, bAft_id, by rw [opt_id_cv]; exact kk r w1 h⟩)
theorem bv_fN1 (C : bC p s m args meth c D cA z0 SK SV A nL own cc tb) {stk rest As : List Value} {y : MethodName} {bytes : ByteArray} {maxL d idx n : Nat} {v : Value} {ret : Option FieldType} (ht : tb[i]? = some (pc, .invokestatic idx)) (hM : bF l D cA z0 SK SV ad sh N y bytes maxL ret d (As) w (some v) w1)
    (hlk : Cond.methodLinkNest own idx y RX8 ∈ nestW) (hstat : Cond.static y ∈ ALLW) (hini : Cond.initialized y.cls ∈ ALLW) (hcd : Cond.code y bytes maxL ret ∈ ALLW) (hok : callOK y n) (hn : As.length = n)
    (hR : d + 1 ≤ R.frames ∧ 8 + (maxL + 11) + 41 * d ≤ R.locals) (hR2 : cells ≤ R.cells ∧ slots ≤ R.slots) (hst : stk = As.reverse ++ rest) (hcat : (rest.map fun v => v.category).sum ≤ 8)
    (kk : bV p l e R s m args below meth c D cA sh A nL tb Q ad N cells slots w1 (i + 1) L (v :: rest)) : bV p l e R s m args below meth c D cA sh A nL tb Q ad N cells slots w i L stk :=
  bv_callNi C ht hM hlk hstat hini hcd hok hn hR hR2 hst hcat (fun r w2 h => by obtain ⟨rfl, rfl⟩ := h; exact kk)
end CL
/-! THE CLASS'S WORLD: 0 State, 1 first, 2 its table, 3 second, 4 its table, 5 paths, 6 to 13 the paths, 14 Backups, 15 to 17 its arrays, 18 Events, 19 to 21 its arrays, 22 PairSurvey, 23 its array, 24 Scenario, 25 its text. g 1: the state's numbers, numbered as in the reference's row; g 0: the scenario's; g 3 the text; g 4 the measured pairs. -/
def shB : Sh := fun i => match i with
  | 0 => .inr (5, 18)
  | 1 => .inr (6, 5)
  | 2 => .inl (.int, 16)
  | 3 => .inr (6, 5)
  | 4 => .inl (.int, 16)
  | 5 => .inl (.object "BeamTraining$Path", 8)
  | 6 => .inr (3, 6)
  | 7 => .inr (3, 6)
  | 8 => .inr (3, 6)
  | 9 => .inr (3, 6)
  | 10 => .inr (3, 6)
  | 11 => .inr (3, 6)
  | 12 => .inr (3, 6)
  | 13 => .inr (3, 6)
  | 14 => .inr (0, 4)
  | 15 => .inl (.int, 3)
  | 16 => .inl (.int, 3)
  | 17 => .inl (.int, 3)
  | 18 => .inr (1, 4)
  | 19 => .inl (.int, 20)
  | 20 => .inl (.int, 20)
  | 21 => .inl (.int, 20)
  | 22 => .inr (2, 1)
  | 23 => .inl (.int, 256)
  | 24 => .inr (4, 5)
  | _ => .inl (.char, 120)
def layB (g : Nat → Nat → Int32) (σ τ : Nat → Nat) : Wd := fun i k => match i with
  | 0 => (match k with
    | 0 => .ref 1
    | 1 => .ref 3
    | 2 => .ref 5
    | 3 => .int (g 1 12)
    | 4 => .ref 14
    | 5 => .ref 18
    | k => .int (g 1 (k - 6)))
  | 1 => (match k with
    | 4 => .ref 2
    | k => .int (g 1 (15 + k)))
  | 2 => .int (g 1 (19 + k))
  | 3 => (match k with
    | 4 => .ref 4
    | k => .int (g 1 (35 + k)))
  | 4 => .int (g 1 (39 + k))
  | 5 => .ref (6 + σ k)
  | 6 => .int (g 1 (55 + 6 * τ 0 + k))
  | 7 => .int (g 1 (55 + 6 * τ 1 + k))
  | 8 => .int (g 1 (55 + 6 * τ 2 + k))
  | 9 => .int (g 1 (55 + 6 * τ 3 + k))
  | 10 => .int (g 1 (55 + 6 * τ 4 + k))
  | 11 => .int (g 1 (55 + 6 * τ 5 + k))
  | 12 => .int (g 1 (55 + 6 * τ 6 + k))
  | 13 => .int (g 1 (55 + 6 * τ 7 + k))
  | 14 => (match k with
    | 0 => .ref 15
    | 1 => .ref 16
    | 2 => .ref 17
    | _ => .int (g 1 13))
  | 15 => .int (g 1 (103 + 3 * k))
  | 16 => .int (g 1 (103 + 3 * k + 1))
  | 17 => .int (g 1 (103 + 3 * k + 2))
  | 18 => (match k with
    | 0 => .ref 19
    | 1 => .ref 20
    | 2 => .ref 21
    | _ => .int (g 1 14))
  | 19 => .int (g 1 (112 + 3 * k))
  | 20 => .int (g 1 (112 + 3 * k + 1))
  | 21 => .int (g 1 (112 + 3 * k + 2))
  | 22 => .ref 23
  | 23 => .int (g 4 k)
  | 24 => (match k with
    | 0 => .ref 25
    | 1 => .int (g 0 4)
    | 2 => .int (g 0 9)
    | 3 => .int (g 0 10)
    | _ => .int (g 0 20))
  | _ => .int (g 3 k)
/-- where an int of the world stands in g -/
def pB (τ : Nat → Nat) (i k : Nat) : Nat × Nat := match i with
  | 0 => if k = 3 then (1, 12) else (1, k - 6)
  | 1 => (1, 15 + k)
  | 2 => (1, 19 + k)
  | 3 => (1, 35 + k)
  | 4 => (1, 39 + k)
  | 5 => (9, k)
  | 14 => (1, 13)
  | 15 => (1, 103 + 3 * k)
  | 16 => (1, 103 + 3 * k + 1)
  | 17 => (1, 103 + 3 * k + 2)
  | 18 => (1, 14)
  | 19 => (1, 112 + 3 * k)
  | 20 => (1, 112 + 3 * k + 1)
  | 21 => (1, 112 + 3 * k + 2)
  | 22 => (9, k)
  | 23 => (4, k)
  | 24 => (match k with
    | 1 => (0, 4)
    | 2 => (0, 9)
    | 3 => (0, 10)
    | _ => (0, 20))
  | 25 => (3, k)
  | i => (1, 55 + 6 * τ (i - 6) + k)
def iB (i k : Nat) : Bool := match i with
  | 0 => k == 3 || Nat.ble 6 k
  | 1 => !(k == 4)
  | 3 => !(k == 4)
  | 5 => false
  | 14 => Nat.ble 3 k
  | 18 => Nat.ble 3 k
  | 22 => false
  | 24 => !(k == 0)
  | _ => true
/-- where a number of g stands in the world -/
def qB (σ : Nat → Nat) (a j : Nat) : Nat × Nat :=
  if a = 4 then (23, j) else if a = 3 then (25, j) else if a = 0 then (if j = 4 then (24, 1) else if j = 9 then (24, 2) else if j = 10 then (24, 3) else (24, 4))
  else if j < 12 then (0, j + 6) else if j = 12 then (0, 3) else if j = 13 then (14, 3) else if j = 14 then (18, 3) else if j < 19 then (1, j - 15) else if j < 35 then (2, j - 19) else if j < 39 then (3, j - 35) else if j < 55 then (4, j - 39)
  else if j < 103 then (6 + σ ((j - 55) / 6), (j - 55) % 6) else if j < 112 then (15 + (j - 103) % 3, (j - 103) / 3) else (19 + (j - 112) % 3, (j - 112) / 3)
/-- σ: which object holds a path; τ: which path an object holds -/
def pmK (σ τ : Nat → Nat) : Prop := (∀ k, k < 8 → σ k < 8 ∧ τ (σ k) = k) ∧ ∀ k, k < 8 → τ k < 8 ∧ σ (τ k) = k
theorem lb_int {g : Nat → Nat → Int32} {σ τ : Nat → Nat} {i k : Nat} (h : i < 26) (hi : iB i k = true) : layB g σ τ i k = .int (g (pB τ i k).1 (pB τ i k).2) := by
  rcases (show i = 0 ∨ i = 1 ∨ i = 2 ∨ i = 3 ∨ i = 4 ∨ i = 5 ∨ i = 6 ∨ i = 7 ∨ i = 8 ∨ i = 9 ∨ i = 10 ∨ i = 11 ∨ i = 12 ∨ i = 13 ∨ i = 14 ∨ i = 15 ∨ i = 16 ∨ i = 17 ∨ i = 18 ∨ i = 19 ∨ i = 20 ∨ i = 21 ∨ i = 22 ∨ i = 23 ∨ i = 24 ∨ i = 25 by omega) with rfl | rfl | rfl | rfl | rfl | rfl | rfl | rfl | rfl | rfl | rfl | rfl | rfl | rfl | rfl | rfl | rfl | rfl | rfl | rfl | rfl | rfl | rfl | rfl | rfl | rfl
  all_goals first | rfl | (cases hi; done) | skip
  · simp only [iB, Bool.or_eq_true, beq_iff_eq, Nat.ble_eq] at hi
    rcases hi with rfl | hi
    · rfl
    · obtain ⟨q, rfl⟩ : ∃ q, k = q + 6 := ⟨k - 6, by omega⟩
      unfold pB
      rw [if_neg (by omega)]
      rfl
  · have h4 : k ≠ 4 := by simpa [iB] using hi
    unfold layB pB
    simp only
  · have h4 : k ≠ 4 := by simpa [iB] using hi
    unfold layB pB
    simp only
  · simp only [iB, Nat.ble_eq] at hi
    obtain ⟨q, rfl⟩ : ∃ q, k = q + 3 := ⟨k - 3, by omega⟩
    rfl
  · simp only [iB, Nat.ble_eq] at hi
    obtain ⟨q, rfl⟩ : ∃ q, k = q + 3 := ⟨k - 3, by omega⟩
    rfl
  · have h4 : k ≠ 0 := by simpa [iB] using hi
    rcases k with _ | _ | _ | _ | k
    · exact absurd rfl h4
    all_goals rfl
theorem lb_ref {g g' : Nat → Nat → Int32} {σ τ : Nat → Nat} {i k : Nat} (h : i < 26) (hi : iB i k = false) : layB g σ τ i k = layB g' σ τ i k := by
  rcases (show i = 0 ∨ i = 1 ∨ i = 2 ∨ i = 3 ∨ i = 4 ∨ i = 5 ∨ i = 6 ∨ i = 7 ∨ i = 8 ∨ i = 9 ∨ i = 10 ∨ i = 11 ∨ i = 12 ∨ i = 13 ∨ i = 14 ∨ i = 15 ∨ i = 16 ∨ i = 17 ∨ i = 18 ∨ i = 19 ∨ i = 20 ∨ i = 21 ∨ i = 22 ∨ i = 23 ∨ i = 24 ∨ i = 25 by omega) with rfl | rfl | rfl | rfl | rfl | rfl | rfl | rfl | rfl | rfl | rfl | rfl | rfl | rfl | rfl | rfl | rfl | rfl | rfl | rfl | rfl | rfl | rfl | rfl | rfl | rfl
  all_goals first | rfl | (cases hi; done) | skip
  · simp only [iB, Bool.or_eq_false_iff, beq_eq_false_iff_ne] at hi
    have h6 : ¬ 6 ≤ k := fun z => by have q := Nat.ble_eq.mpr z; rw [hi.2] at q; cases q
    rcases (show k = 0 ∨ k = 1 ∨ k = 2 ∨ k = 4 ∨ k = 5 by omega) with rfl | rfl | rfl | rfl | rfl <;> rfl
  · have h4 : k = 4 := by simpa [iB] using hi
    subst h4; rfl
  · have h4 : k = 4 := by simpa [iB] using hi
    subst h4; rfl
  · have h6 : ¬ 3 ≤ k := fun z => by have q := Nat.ble_eq.mpr z; simp only [iB] at hi; rw [hi] at q; cases q
    rcases (show k = 0 ∨ k = 1 ∨ k = 2 by omega) with rfl | rfl | rfl <;> rfl
  · have h6 : ¬ 3 ≤ k := fun z => by have q := Nat.ble_eq.mpr z; simp only [iB] at hi; rw [hi] at q; cases q
    rcases (show k = 0 ∨ k = 1 ∨ k = 2 by omega) with rfl | rfl | rfl <;> rfl
  · have h4 : k = 0 := by simpa [iB] using hi
    subst h4; rfl
theorem qB_path {σ τ : Nat → Nat} (hσ : pmK σ τ) {j k : Nat} (hj : j < 8) (hk : k < 6) : qB σ 1 (55 + 6 * τ j + k) = (6 + j, k) := by
  obtain ⟨h1, h2⟩ := hσ.2 j hj
  unfold qB
  rw [if_neg (by omega), if_neg (by omega), if_neg (by omega), if_neg (by omega), if_neg (by omega), if_neg (by omega), if_neg (by omega), if_neg (by omega), if_neg (by omega), if_neg (by omega), if_neg (by omega), if_pos (by omega), show (55 + 6 * τ j + k - 55) / 6 = τ j by omega, show (55 + 6 * τ j + k - 55) % 6 = k by omega, h2]
theorem qB_pB {σ τ : Nat → Nat} (hσ : pmK σ τ) {i k : Nat} (h : i < 26) (hk : k < szE (shB i)) (hi : iB i k = true) : qB σ (pB τ i k).1 (pB τ i k).2 = (i, k) := by
  rcases (show i = 0 ∨ i = 1 ∨ i = 2 ∨ i = 3 ∨ i = 4 ∨ i = 5 ∨ i = 6 ∨ i = 7 ∨ i = 8 ∨ i = 9 ∨ i = 10 ∨ i = 11 ∨ i = 12 ∨ i = 13 ∨ i = 14 ∨ i = 15 ∨ i = 16 ∨ i = 17 ∨ i = 18 ∨ i = 19 ∨ i = 20 ∨ i = 21 ∨ i = 22 ∨ i = 23 ∨ i = 24 ∨ i = 25 by omega) with rfl | rfl | rfl | rfl | rfl | rfl | rfl | rfl | rfl | rfl | rfl | rfl | rfl | rfl | rfl | rfl | rfl | rfl | rfl | rfl | rfl | rfl | rfl | rfl | rfl | rfl
  · have hk : k < 18 := hk
    simp only [iB, Bool.or_eq_true, beq_iff_eq, Nat.ble_eq] at hi
    rcases hi with rfl | hi
    · rfl
    · unfold pB
      rw [if_neg (by omega)]
      unfold qB
      simp only
      rw [if_neg (by omega), if_neg (by omega), if_neg (by omega), if_pos (by omega), show k - 6 + 6 = k by omega]
  · have hk : k < 5 := hk
    have h4 : k ≠ 4 := by simpa [iB] using hi
    rcases (show k = 0 ∨ k = 1 ∨ k = 2 ∨ k = 3 by omega) with rfl | rfl | rfl | rfl <;> rfl
  · have hk : k < 16 := hk
    simp only [pB, qB]
    rw [if_neg (by omega), if_neg (by omega), if_neg (by omega), if_neg (by omega), if_neg (by omega), if_neg (by omega), if_neg (by omega), if_neg (by omega), if_pos (by omega), show 19 + k - 19 = k by omega]
  · have hk : k < 5 := hk
    have h4 : k ≠ 4 := by simpa [iB] using hi
    rcases (show k = 0 ∨ k = 1 ∨ k = 2 ∨ k = 3 by omega) with rfl | rfl | rfl | rfl <;> rfl
  · have hk : k < 16 := hk
    simp only [pB, qB]
    rw [if_neg (by omega), if_neg (by omega), if_neg (by omega), if_neg (by omega), if_neg (by omega), if_neg (by omega), if_neg (by omega), if_neg (by omega), if_neg (by omega), if_neg (by omega), if_pos (by omega), show 39 + k - 39 = k by omega]
  · cases hi
  · exact qB_path hσ (j := 0) (by omega) hk
  · exact qB_path hσ (j := 1) (by omega) hk
  · exact qB_path hσ (j := 2) (by omega) hk
  · exact qB_path hσ (j := 3) (by omega) hk
  · exact qB_path hσ (j := 4) (by omega) hk
  · exact qB_path hσ (j := 5) (by omega) hk
  · exact qB_path hσ (j := 6) (by omega) hk
  · exact qB_path hσ (j := 7) (by omega) hk
  · have hk : k < 4 := hk
    have h6 : 3 ≤ k := by simpa [iB, Nat.ble_eq] using hi
    obtain rfl : k = 3 := by omega
    rfl
  · have hk : k < 3 := hk
    simp only [pB, qB]
    rw [if_neg (by omega), if_neg (by omega), if_neg (by omega), if_neg (by omega), if_neg (by omega), if_neg (by omega), if_neg (by omega), if_neg (by omega), if_neg (by omega), if_neg (by omega), if_neg (by omega), if_neg (by omega), if_pos (by omega), show (103 + 3 * k - 103) % 3 = 0 by omega, show (103 + 3 * k - 103) / 3 = k by omega]
  · have hk : k < 3 := hk
    simp only [pB, qB]
    rw [if_neg (by omega), if_neg (by omega), if_neg (by omega), if_neg (by omega), if_neg (by omega), if_neg (by omega), if_neg (by omega), if_neg (by omega), if_neg (by omega), if_neg (by omega), if_neg (by omega), if_neg (by omega), if_pos (by omega), show (103 + 3 * k + 1 - 103) % 3 = 1 by omega, show (103 + 3 * k + 1 - 103) / 3 = k by omega]
  · have hk : k < 3 := hk
    simp only [pB, qB]
    rw [if_neg (by omega), if_neg (by omega), if_neg (by omega), if_neg (by omega), if_neg (by omega), if_neg (by omega), if_neg (by omega), if_neg (by omega), if_neg (by omega), if_neg (by omega), if_neg (by omega), if_neg (by omega), if_pos (by omega), show (103 + 3 * k + 2 - 103) % 3 = 2 by omega, show (103 + 3 * k + 2 - 103) / 3 = k by omega]
  · have hk : k < 4 := hk
    have h6 : 3 ≤ k := by simpa [iB, Nat.ble_eq] using hi
    obtain rfl : k = 3 := by omega
    rfl
  all_goals first | (cases hi; done) | skip
  · have hk : k < 20 := hk
    simp only [pB, qB]
    rw [if_neg (by omega), if_neg (by omega), if_neg (by omega), if_neg (by omega), if_neg (by omega), if_neg (by omega), if_neg (by omega), if_neg (by omega), if_neg (by omega), if_neg (by omega), if_neg (by omega), if_neg (by omega), if_neg (by omega), show (112 + 3 * k - 112) % 3 = 0 by omega, show (112 + 3 * k - 112) / 3 = k by omega]
  · have hk : k < 20 := hk
    simp only [pB, qB]
    rw [if_neg (by omega), if_neg (by omega), if_neg (by omega), if_neg (by omega), if_neg (by omega), if_neg (by omega), if_neg (by omega), if_neg (by omega), if_neg (by omega), if_neg (by omega), if_neg (by omega), if_neg (by omega), if_neg (by omega), show (112 + 3 * k + 1 - 112) % 3 = 1 by omega, show (112 + 3 * k + 1 - 112) / 3 = k by omega]
  · have hk : k < 20 := hk
    simp only [pB, qB]
    rw [if_neg (by omega), if_neg (by omega), if_neg (by omega), if_neg (by omega), if_neg (by omega), if_neg (by omega), if_neg (by omega), if_neg (by omega), if_neg (by omega), if_neg (by omega), if_neg (by omega), if_neg (by omega), if_neg (by omega), show (112 + 3 * k + 2 - 112) % 3 = 2 by omega, show (112 + 3 * k + 2 - 112) / 3 = k by omega]
  · rfl
  · have hk : k < 5 := hk
    have h4 : k ≠ 0 := by simpa [iB] using hi
    rcases (show k = 1 ∨ k = 2 ∨ k = 3 ∨ k = 4 by omega) with rfl | rfl | rfl | rfl <;> rfl
  · rfl
theorem lb_up {g : Nat → Nat → Int32} {σ τ : Nat → Nat} {o k a b : Nat} {x : Int32} (hσ : pmK σ τ) (ho : o < 26) (hk : k < szE (shB o)) (hi : iB o k = true) (hp : pB τ o k = (a, b)) : wEq shB 26 (up2 (layB g σ τ) o k (.int x)) (layB (ug g a b x) σ τ) := by
  intro i h1 q h2
  have hp1 : (pB τ o k).1 = a := by rw [hp]
  have hp2 : (pB τ o k).2 = b := by rw [hp]
  by_cases hq : i = o ∧ q = k
  · obtain ⟨rfl, rfl⟩ := hq
    rw [lb_int ho hi, hp1, hp2, ug_same]
    simp [up2]
  · have e : up2 (layB g σ τ) o k (.int x) i q = layB g σ τ i q := by
      unfold up2
      split
      · next h3 =>
        split
        · next h4 => exact absurd ⟨h3, h4⟩ hq
        · rfl
      · rfl
    rw [e]
    by_cases hi2 : iB i q = true
    · rw [lb_int h1 hi2, lb_int h1 hi2, ug_ne]
      rintro ⟨z1, z2⟩
      have q1 := qB_pB hσ h1 h2 hi2
      have q2 := qB_pB hσ ho hk hi
      rw [hp1, hp2] at q2
      rw [z1, z2, q2] at q1
      cases q1
      exact hq ⟨rfl, rfl⟩
    · exact lb_ref h1 (by simpa using hi2)
theorem shB_p {j : Nat} (h : j < 8) : shB (6 + j) = .inr (3, 6) := by
  rcases (show j = 0 ∨ j = 1 ∨ j = 2 ∨ j = 3 ∨ j = 4 ∨ j = 5 ∨ j = 6 ∨ j = 7 by omega) with rfl | rfl | rfl | rfl | rfl | rfl | rfl | rfl <;> rfl
theorem lb_p {g : Nat → Nat → Int32} {σ τ : Nat → Nat} {j k : Nat} (h : j < 8) : layB g σ τ (6 + j) k = .int (g 1 (55 + 6 * τ j + k)) := by
  rcases (show j = 0 ∨ j = 1 ∨ j = 2 ∨ j = 3 ∨ j = 4 ∨ j = 5 ∨ j = 6 ∨ j = 7 by omega) with rfl | rfl | rfl | rfl | rfl | rfl | rfl | rfl <;> rfl
theorem lb_pth {g : Nat → Nat → Int32} {σ τ : Nat → Nat} {p k : Nat} (hσ : pmK σ τ) (h : p < 8) : layB g σ τ (6 + σ p) k = .int (g 1 (55 + 6 * p + k)) := by
  rw [lb_p (hσ.1 p h).1, (hσ.1 p h).2]
theorem pB_pth {σ τ : Nat → Nat} {p k : Nat} (hσ : pmK σ τ) (h : p < 8) : pB τ (6 + σ p) k = (1, 55 + 6 * p + k) := by
  have e : ∀ j, j < 8 → pB τ (6 + j) k = (1, 55 + 6 * τ j + k) := fun j hj => by
    rcases (show j = 0 ∨ j = 1 ∨ j = 2 ∨ j = 3 ∨ j = 4 ∨ j = 5 ∨ j = 6 ∨ j = 7 by omega) with rfl | rfl | rfl | rfl | rfl | rfl | rfl | rfl <;> rfl
  rw [e _ (hσ.1 p h).1, (hσ.1 p h).2]
theorem lb_upP {g : Nat → Nat → Int32} {σ τ : Nat → Nat} {p k : Nat} {x : Int32} (hσ : pmK σ τ) (hp : p < 8) (hk : k < 6) : wEq shB 26 (up2 (layB g σ τ) (6 + σ p) k (.int x)) (layB (ug g 1 (55 + 6 * p + k) x) σ τ) := by
  have h1 := (hσ.1 p hp).1
  refine lb_up hσ (by omega) (by rw [shB_p h1]; exact hk) ?_ (pB_pth hσ hp)
  rcases (show σ p = 0 ∨ σ p = 1 ∨ σ p = 2 ∨ σ p = 3 ∨ σ p = 4 ∨ σ p = 5 ∨ σ p = 6 ∨ σ p = 7 by omega) with h | h | h | h | h | h | h | h <;> rw [h] <;> rfl
theorem nar_01 {x : Int32} (h : x = 0 ∨ x = 1) (ad : Nat → Nat) : narrow .boolean (cvv ad (.int x)) = cvv ad (.int x) := by
  rcases h with rfl | rfl <;> rfl
section CP
variable {p : Program} {l : Launch} {e : Env} {R : Room} {s : State} {m : MethodId} {args : Array Value} {below : List Frame} {meth : Method} {c : Code} {D : va_G} {cA : FieldType → ClassId} {z0 : Nat} {SK : Nat → Nat} {SV : Nat → Int32} {A : Nat → Prop} {nL : Nat} {own : String} {cc : ByteArray} {tb : Tb} {Q : State → Prop} {ad : Nat → Nat} {cells slots : Nat} {i j pc : Nat} {L L1 : Lc} {st st1 r : List Value} {g : Nat → Nat → Int32} {σ τ : Nat → Nat}
theorem bv_getP (C : bC p s m args meth c D cA z0 SK SV A nL own cc tb) {q k idx : Nat} (ht : tb[i]? = some (pc, .getfield idx)) (hlk : Cond.fieldLink own idx (TX3 k).1 (TX3 k).2.1 (TX3 k).2.2.1 ∈ ALLW) (hk : k < 6) (hσ : pmK σ τ) (hq : q < 8) (kk : bV p l e R s m args below meth c D cA shB A nL tb Q ad 26 cells slots (layB g σ τ) (i + 1) L (.int (g 1 (55 + 6 * q + k)) :: r)) : bV p l e R s m args below meth c D cA shB A nL tb Q ad 26 cells slots (layB g σ τ) i L (.ref (6 + σ q) :: r) := by
  refine bv_get C ht cl_X3 hlk hk (shB_p (hσ.1 q hq).1) hk (by have h := (hσ.1 q hq).1; omega) ?_
  rw [lb_pth hσ hq]
  exact kk
theorem bv_putP (C : bC p s m args meth c D cA z0 SK SV A nL own cc tb) {q k idx : Nat} {x : Int32} (ht : tb[i]? = some (pc, .putfield idx)) (hlk : Cond.fieldLink own idx (TX3 k).1 (TX3 k).2.1 (TX3 k).2.2.1 ∈ ALLW) (hk : k < 6) (hσ : pmK σ τ) (hq : q < 8) (hfin : (TX3 k).2.2.2 = false) (hty : parseFieldDescriptor (TX3 k).2.2.1 = some .int) (kk : bV p l e R s m args below meth c D cA shB A nL tb Q ad 26 cells slots (layB (ug g 1 (55 + 6 * q + k) x) σ τ) (i + 1) L r) : bV p l e R s m args below meth c D cA shB A nL tb Q ad 26 cells slots (layB g σ τ) i L (.int x :: .ref (6 + σ q) :: r) := by
  refine bv_put C ht cl_X3 hlk hk hfin hty rfl rfl (shB_p (hσ.1 q hq).1) hk (by have h := (hσ.1 q hq).1; omega) ?_
  exact bv_w (lb_upP hσ hq hk) kk
end CP
