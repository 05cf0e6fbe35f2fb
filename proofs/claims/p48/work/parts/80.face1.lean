/-! TWO STATES OF THE FACE -/
def io2 (A B o : Nat) : Nat := if o < 22 then 6 + 22 * A + o else if o < 44 then 6 + 22 * B + (o - 22) else o
theorem io2_a {A B o : Nat} (h : o < 22) : io2 A B o = (22 * A + o) + 6 := by
  unfold io2
  rw [if_pos h]
  omega
theorem io2_b {A B o : Nat} (h : o < 22) : io2 A B (22 + o) = (22 * B + o) + 6 := by
  unfold io2
  rw [if_neg (by omega), if_pos (by omega)]
  omega
theorem io2_lt {A B o : Nat} (hA : A < 8) (hB : B < 8) (h : o < 44) : io2 A B o < 182 := by
  unfold io2
  repeat' split
  all_goals omega
theorem io2_inj {A B o o' : Nat} (hAB : A ≠ B) (h : o < 44) (h' : o' < 44) (e : io2 A B o = io2 A B o') : o = o' := by
  unfold io2 at e
  rcases (by omega : o < 22 ∨ 22 ≤ o) with c | c <;> rcases (by omega : o' < 22 ∨ 22 ≤ o') with c' | c'
  · rw [if_pos c, if_pos c'] at e; omega
  · rw [if_pos c, if_neg (by omega), if_pos h'] at e; omega
  · rw [if_neg (by omega), if_pos h, if_pos c'] at e; omega
  · rw [if_neg (by omega), if_pos h, if_neg (by omega), if_pos h'] at e; omega
theorem io2_aD {ad : Nat → Nat} {z0 A B : Nat} (hA : A < 8) (hB : B < 8) (hAB : A ≠ B) (hE : aD (fun q => z0 ≤ q) ad 182) : aD (fun q => z0 ≤ q) (fun o => ad (io2 A B o)) 44 :=
  ⟨fun i j hi hj e => io2_inj hAB hi hj (hE.1 _ _ (io2_lt hA hB hi) (io2_lt hA hB hj) e), fun i hi => hE.2 _ (io2_lt hA hB hi)⟩
/-- a State's references are to its own objects -/
theorem lb_ref22 {g : Nat → Nat → Int32} {σ τ : Nat → Nat} (hσ : pmK σ τ) {i k : Nat} (h : i < 22) (hk : k < szE (shB i)) (hi : iB i k = false) : ∃ r : Nat, r < 22 ∧ layB g σ τ i k = .ref r := by
  rcases (show i = 0 ∨ i = 1 ∨ i = 2 ∨ i = 3 ∨ i = 4 ∨ i = 5 ∨ i = 6 ∨ i = 7 ∨ i = 8 ∨ i = 9 ∨ i = 10 ∨ i = 11 ∨ i = 12 ∨ i = 13 ∨ i = 14 ∨ i = 15 ∨ i = 16 ∨ i = 17 ∨ i = 18 ∨ i = 19 ∨ i = 20 ∨ i = 21 by omega) with rfl | rfl | rfl | rfl | rfl | rfl | rfl | rfl | rfl | rfl | rfl | rfl | rfl | rfl | rfl | rfl | rfl | rfl | rfl | rfl | rfl | rfl
  all_goals first | (cases hi; done) | skip
  · simp only [iB, Bool.or_eq_false_iff, beq_eq_false_iff_ne] at hi
    have h6 : ¬ 6 ≤ k := fun z => by have q := Nat.ble_eq.mpr z; rw [hi.2] at q; cases q
    rcases (show k = 0 ∨ k = 1 ∨ k = 2 ∨ k = 4 ∨ k = 5 by omega) with rfl | rfl | rfl | rfl | rfl
    · exact ⟨1, by omega, rfl⟩
    · exact ⟨3, by omega, rfl⟩
    · exact ⟨5, by omega, rfl⟩
    · exact ⟨14, by omega, rfl⟩
    · exact ⟨18, by omega, rfl⟩
  · have h4 : k = 4 := by simpa [iB] using hi
    subst h4; exact ⟨2, by omega, rfl⟩
  · have h4 : k = 4 := by simpa [iB] using hi
    subst h4; exact ⟨4, by omega, rfl⟩
  · have hk : k < 8 := hk
    have z := (hσ.1 k hk).1
    exact ⟨6 + σ k, by omega, rfl⟩
  · have h6 : ¬ 3 ≤ k := fun z => by have q := Nat.ble_eq.mpr z; simp only [iB] at hi; rw [hi] at q; cases q
    rcases (show k = 0 ∨ k = 1 ∨ k = 2 by omega) with rfl | rfl | rfl
    · exact ⟨15, by omega, rfl⟩
    · exact ⟨16, by omega, rfl⟩
    · exact ⟨17, by omega, rfl⟩
  · have h6 : ¬ 3 ≤ k := fun z => by have q := Nat.ble_eq.mpr z; simp only [iB] at hi; rw [hi] at q; cases q
    rcases (show k = 0 ∨ k = 1 ∨ k = 2 by omega) with rfl | rfl | rfl
    · exact ⟨19, by omega, rfl⟩
    · exact ⟨20, by omega, rfl⟩
    · exact ⟨21, by omega, rfl⟩
theorem lb_cv {g : Nat → Nat → Int32} {σ τ : Nat → Nat} (hσ : pmK σ τ) {f f' : Nat → Nat} (hf : ∀ r, r < 22 → f r = f' r) {i k : Nat} (h : i < 22) (hk : k < szE (shB i)) : cvv f (layB g σ τ i k) = cvv f' (layB g σ τ i k) := by
  cases hi : iB i k with
  | true => rw [lb_int (by omega) hi]; rfl
  | false =>
    obtain ⟨r, hr, e⟩ := lb_ref22 (g := g) hσ h hk hi
    rw [e]
    exact congrArg Value.ref (hf r hr)
theorem layF_s {g s : Nat → Nat → Int32} {σ τ : Nat → Nat → Nat} {ρ : Nat → Nat} {c b o k : Nat} (h : o < 22) : layF g s σ τ ρ c ((22 * b + o) + 6) k = cvv (io b) (layB (fr g s b) (σ b) (τ b) o k) := by
  rw [layF_n, show (22 * b + o) / 22 = b by omega, show (22 * b + o) % 22 = o by omega]
theorem layT_a {g g2 : Nat → Nat → Int32} {σ τ σ2 τ2 : Nat → Nat} {o k : Nat} (h : o < 22) : layT g σ τ g2 σ2 τ2 o k = layB g σ τ o k := if_pos h
theorem layT_b {g g2 : Nat → Nat → Int32} {σ τ σ2 τ2 : Nat → Nat} {o k : Nat} : layT g σ τ g2 σ2 τ2 (22 + o) k = cvv (fun o => 22 + o) (layB g2 σ2 τ2 o k) := by
  unfold layT
  rw [if_neg (by omega), show 22 + o - 22 = o by omega]
theorem shU_a {o : Nat} (h : o < 22) : shU o = shB o := if_pos h
theorem shU_b {o : Nat} : shU (22 + o) = shB o := by
  unfold shU
  rw [if_neg (by omega), show 22 + o - 22 = o by omega]
theorem io2_v {A B : Nat} {g : Nat → Nat → Int32} {σ τ : Nat → Nat} (hσ : pmK σ τ) {i k : Nat} (h : i < 22) (hk : k < szE (shB i)) : cvv (io2 A B) (layB g σ τ i k) = cvv (io A) (layB g σ τ i k) :=
  lb_cv hσ (fun r hr => by rw [io2_a hr, io_b hr]) h hk
theorem io2_w {A B : Nat} {g : Nat → Nat → Int32} {σ τ : Nat → Nat} (hσ : pmK σ τ) {i k : Nat} (h : i < 22) (hk : k < szE (shB i)) : cvv (io2 A B) (cvv (fun o => 22 + o) (layB g σ τ i k)) = cvv (io B) (layB g σ τ i k) := by
  rw [cvv_cvv]
  exact lb_cv hσ (fun r hr => by show io2 A B (22 + r) = _; rw [io2_b hr, io_b hr]) h hk
theorem emb_2 {g s : Nat → Nat → Int32} {σ τ : Nat → Nat → Nat} {ρ : Nat → Nat} {c A B : Nat} (hσ : pmF σ τ) (hA : A < 8) (hB : B < 8) (hAB : A ≠ B) : bEmb (io2 A B) 44 shU (layT (fr g s A) (σ A) (τ A) (fr g s B) (σ B) (τ B)) 182 shF (layF g s σ τ ρ c) := by
  refine ⟨fun o ho => ⟨io2_lt hA hB ho, ?_⟩, fun o o' ho ho' e => io2_inj hAB ho ho' e, fun o ho k hk => ?_⟩
  · rcases (by omega : o < 22 ∨ 22 ≤ o) with h | h
    · rw [io2_a h, shF_n, shU_a h, show (22 * A + o) % 22 = o by omega]
    · obtain ⟨q, rfl⟩ : ∃ q, o = 22 + q := ⟨o - 22, by omega⟩
      rw [io2_b (by omega), shF_n, shU_b, show (22 * B + q) % 22 = q by omega]
  · rcases (by omega : o < 22 ∨ 22 ≤ o) with h | h
    · rw [shU_a h] at hk
      rw [io2_a h, layF_s h, layT_a h, io2_v (hσ A hA) h hk]
    · obtain ⟨q, rfl⟩ : ∃ q, o = 22 + q := ⟨o - 22, by omega⟩
      rw [shU_b] at hk
      rw [io2_b (by omega), layF_s (by omega), layT_b, io2_w (hσ B hB) (by omega) hk]
/-- now's numbers set -/
def rN (f : Nat → Int32) (g : Nat → Nat → Int32) : Nat → Nat → Int32 := fun a k => if a = 1 then f k else g a k
theorem rN_1 {f : Nat → Int32} {g : Nat → Nat → Int32} {k : Nat} : rN f g 1 k = f k := if_pos rfl
theorem cpA_1 {g g2 : Nat → Nat → Int32} {k : Nat} (h : k < 172) : cpA g g2 1 k = g2 1 k := if_pos ⟨rfl, Nat.zero_le _, h⟩
theorem aft_2n {g s : Nat → Nat → Int32} {σ τ : Nat → Nat → Nat} {ρ : Nat → Nat} {c B : Nat} (hσ : pmF σ τ) (hB : B < 8) (h0 : B ≠ 0) : bAft (io2 0 B) 44 shU (layT (cpA (fr g s 0) (fr g s B)) (σ 0) (τ 0) (fr g s B) (σ B) (τ B)) 182 shF (layF g s σ τ ρ c) (layF (rN (s B) g) s σ τ ρ c) := by
  refine ⟨fun o ho k hk => ?_, fun a ha hn k hk => ?_⟩
  · rcases (by omega : o < 22 ∨ 22 ≤ o) with h | h
    · rw [shU_a h] at hk
      rw [io2_a h, layF_s h, layT_a h, io2_v (hσ 0 (by omega)) h hk, fr_0]
      exact congrArg _ (lbS_congr (hσ 0 (by omega)) (fun q hq => by rw [cpA_1 hq, fr_s h0, rN_1]) h hk)
    · obtain ⟨q, rfl⟩ : ∃ q, o = 22 + q := ⟨o - 22, by omega⟩
      rw [shU_b] at hk
      rw [io2_b (by omega), layF_s (by omega), layT_b, io2_w (hσ B hB) (by omega) hk]
      exact congrArg _ (lbS_congr (hσ B hB) (fun q hq => by rw [fr_s h0, fr_s h0]) (by omega) hk)
  · rcases (by omega : a = 0 ∨ a = 1 ∨ a = 2 ∨ a = 3 ∨ a = 4 ∨ a = 5 ∨ 6 ≤ a) with rfl | rfl | rfl | rfl | rfl | rfl | h6
    · rfl
    · rfl
    · rfl
    · rfl
    · rfl
    · rfl
    · obtain ⟨n, rfl⟩ : ∃ n, a = n + 6 := ⟨a - 6, by omega⟩
      rw [shF_n] at hk
      have hb : n / 22 ≠ 0 := by
        intro h
        exact absurd (by rw [io2_a (by omega : n % 22 < 22)]; omega) (hn (n % 22) (by omega))
      rw [layF_n, layF_n]
      exact congrArg _ (lbS_congr (hσ (n / 22) (by omega)) (fun q _ => by rw [fr_s hb, fr_s hb]) (by omega) hk)
theorem aft_2s {g s : Nat → Nat → Int32} {σ τ : Nat → Nat → Nat} {ρ : Nat → Nat} {c A : Nat} (hσ : pmF σ τ) (hA : A < 8) (h0 : A ≠ 0) : bAft (io2 A 0) 44 shU (layT (cpA (fr g s A) (fr g s 0)) (σ A) (τ A) (fr g s 0) (σ 0) (τ 0)) 182 shF (layF g s σ τ ρ c) (layF g (sS s A (g 1)) σ τ ρ c) := by
  refine ⟨fun o ho k hk => ?_, fun a ha hn k hk => ?_⟩
  · rcases (by omega : o < 22 ∨ 22 ≤ o) with h | h
    · rw [shU_a h] at hk
      rw [io2_a h, layF_s h, layT_a h, io2_v (hσ A hA) h hk]
      exact congrArg _ (lbS_congr (hσ A hA) (fun q hq => by rw [cpA_1 hq, fr_0, fr_s h0, sS_s]) h hk)
    · obtain ⟨q, rfl⟩ : ∃ q, o = 22 + q := ⟨o - 22, by omega⟩
      rw [shU_b] at hk
      rw [io2_b (by omega), layF_s (by omega), layT_b, io2_w (hσ 0 (by omega)) (by omega) hk]
      rfl
  · rcases (by omega : a = 0 ∨ a = 1 ∨ a = 2 ∨ a = 3 ∨ a = 4 ∨ a = 5 ∨ 6 ≤ a) with rfl | rfl | rfl | rfl | rfl | rfl | h6
    · rfl
    · rfl
    · rfl
    · rfl
    · rfl
    · rfl
    · obtain ⟨n, rfl⟩ : ∃ n, a = n + 6 := ⟨a - 6, by omega⟩
      rw [shF_n] at hk
      have hb : n / 22 ≠ A := by
        intro h
        exact absurd (by rw [io2_a (by omega : n % 22 < 22)]; omega) (hn (n % 22) (by omega))
      rw [layF_n, layF_n]
      refine congrArg _ (lbS_congr (hσ (n / 22) (by omega)) (fun q _ => ?_) (by omega) hk)
      by_cases h1 : n / 22 = 0
      · rw [h1]; rfl
      · rw [fr_s h1, fr_s h1, sS_n hb]
/-! WRITING -/
theorem lf_up {g s : Nat → Nat → Int32} {σ τ : Nat → Nat → Nat} {ρ : Nat → Nat} {c o k b : Nat} {x : Int32} (hσ : pmF σ τ) (ho : o < 22) (hk : k < szE (shB o)) (hi : iB o k = true) (hp : pB (τ 0) o k = (1, b)) : wEq shF 182 (up2 (layF g s σ τ ρ c) (6 + o) k (.int x)) (layF (ug g 1 b x) s σ τ ρ c) := by
  intro a ha q hq
  rcases (by omega : a = 0 ∨ a = 1 ∨ a = 2 ∨ a = 3 ∨ a = 4 ∨ a = 5 ∨ 6 ≤ a) with rfl | rfl | rfl | rfl | rfl | rfl | h6
  · exact if_neg (by omega)
  · exact if_neg (by omega)
  · exact if_neg (by omega)
  · exact if_neg (by omega)
  · exact if_neg (by omega)
  · exact if_neg (by omega)
  · obtain ⟨n, rfl⟩ : ∃ n, a = n + 6 := ⟨a - 6, by omega⟩
    rw [shF_n] at hq
    by_cases h22 : n < 22
    · rw [show n % 22 = n by omega] at hq
      have z := lb_up (x := x) (g := g) (hσ 0 (by omega)) (by omega) hk hi hp n (by omega) q hq
      have e1 : ∀ g' : Nat → Nat → Int32, layF g' s σ τ ρ c (n + 6) q = cvv (io 0) (layB g' (σ 0) (τ 0) n q) := by
        intro g'
        rw [layF_n, show n / 22 = 0 by omega, show n % 22 = n by omega, fr_0]
      rw [e1, ← z]
      unfold up2
      by_cases c1 : n = o
      · rw [if_pos (by omega), if_pos c1]
        by_cases c2 : q = k
        · rw [if_pos c2, if_pos c2]; rfl
        · rw [if_neg c2, if_neg c2]; exact e1 g
      · rw [if_neg (by omega), if_neg c1]; exact e1 g
    · have hb : n / 22 ≠ 0 := by omega
      have e1 : up2 (layF g s σ τ ρ c) (6 + o) k (.int x) (n + 6) q = layF g s σ τ ρ c (n + 6) q := if_neg (by omega)
      rw [e1, layF_n, layF_n]
      exact congrArg _ (lbS_congr (hσ (n / 22) (by omega)) (fun q _ => by rw [fr_s hb, fr_s hb]) (by omega) hq)
theorem lf_cnt {g s : Nat → Nat → Int32} {σ τ : Nat → Nat → Nat} {ρ : Nat → Nat} {c c' : Nat} : up2 (layF g s σ τ ρ c) 0 3 (.int (nI c')) = layF g s σ τ ρ c' := by
  funext a q
  rcases a with _ | _ | _ | _ | _ | _ | n
  · rcases q with _ | _ | _ | _ | _ | q <;> rfl
  all_goals rfl
theorem lf_sav {g s : Nat → Nat → Int32} {σ τ : Nat → Nat → Nat} {ρ : Nat → Nat} {c j x : Nat} : up2 (layF g s σ τ ρ c) 1 j (.ref (50 + 22 * x)) = layF g s σ τ (upN ρ j x) c := by
  funext a q
  by_cases h : a = 1
  · subst h
    unfold up2 upN
    rw [if_pos rfl]
    by_cases h2 : q = j
    · rw [if_pos h2]
      show _ = Value.ref (50 + 22 * (if q = j then x else ρ q))
      rw [if_pos h2]
    · rw [if_neg h2]
      show Value.ref (50 + 22 * ρ q) = Value.ref (50 + 22 * (if q = j then x else ρ q))
      rw [if_neg h2]
  · rcases a with _ | _ | _ | _ | _ | _ | n
    · rfl
    · exact absurd rfl h
    all_goals rfl
theorem lf_rho {g s : Nat → Nat → Int32} {σ τ : Nat → Nat → Nat} {ρ ρ' : Nat → Nat} {c : Nat} (h : ∀ j, j < 6 → ρ j = ρ' j) : wEq shF 182 (layF g s σ τ ρ c) (layF g s σ τ ρ' c) := by
  intro a ha q hq
  rcases a with _ | _ | _ | _ | _ | _ | n
  · rfl
  · have hq : q < 6 := hq
    exact congrArg (fun z => Value.ref (50 + 22 * z)) (h q hq)
  all_goals rfl
theorem shF_p {p : Nat} {σ τ : Nat → Nat → Nat} (hσ : pmF σ τ) (hp : p < 8) : shF (io 0 (6 + σ 0 p)) = .inr (3, 6) ∧ io 0 (6 + σ 0 p) < 182 := by
  have z := ((hσ 0 (by omega)).1 p hp).1
  exact ⟨(shF_io (by omega)).trans (shB_p z), io_lt (by omega) (by omega)⟩
section CF
variable {p : Program} {l : Launch} {e : Env} {R : Room} {s0 : State} {m : MethodId} {args : Array Value} {below : List Frame} {meth : Method} {c : Code} {D : va_G} {cA : FieldType → ClassId} {z0 : Nat} {SK : Nat → Nat} {SV : Nat → Int32} {A : Nat → Prop} {nL : Nat} {own : String} {cc : ByteArray} {tb : Tb} {Q : State → Prop} {ad : Nat → Nat} {cells slots : Nat} {i j pc : Nat} {L L1 : Lc} {st st1 r : List Value} {g s : Nat → Nat → Int32} {σ τ : Nat → Nat → Nat} {ρ : Nat → Nat} {c9 : Nat}
theorem bv_getFP (C : bC p s0 m args meth c D cA z0 SK SV A nL own cc tb) {q k idx : Nat} (ht : tb[i]? = some (pc, .getfield idx)) (hlk : Cond.fieldLink own idx (TX3 k).1 (TX3 k).2.1 (TX3 k).2.2.1 ∈ ALLW) (hk : k < 6) (hσ : pmF σ τ) (hq : q < 8) (kk : bV p l e R s0 m args below meth c D cA shF A nL tb Q ad 182 cells slots (layF g s σ τ ρ c9) (i + 1) L (.int (g 1 (55 + 6 * q + k)) :: r)) : bV p l e R s0 m args below meth c D cA shF A nL tb Q ad 182 cells slots (layF g s σ τ ρ c9) i L (.ref (io 0 (6 + σ 0 q)) :: r) := by
  have z := ((hσ 0 (by omega)).1 q hq).1
  refine bv_get C ht cl_X3 hlk hk (shF_p hσ hq).1 hk (shF_p hσ hq).2 ?_
  rw [layF_io (by omega) (by rw [shB_p z]; exact hk), fr_0, lb_pth (hσ 0 (by omega)) hq]
  exact kk
theorem bv_putFP (C : bC p s0 m args meth c D cA z0 SK SV A nL own cc tb) {q k idx : Nat} {x : Int32} (ht : tb[i]? = some (pc, .putfield idx)) (hlk : Cond.fieldLink own idx (TX3 k).1 (TX3 k).2.1 (TX3 k).2.2.1 ∈ ALLW) (hk : k < 6) (hσ : pmF σ τ) (hq : q < 8) (hfin : (TX3 k).2.2.2 = false) (hty : parseFieldDescriptor (TX3 k).2.2.1 = some .int) (kk : bV p l e R s0 m args below meth c D cA shF A nL tb Q ad 182 cells slots (layF (ug g 1 (55 + 6 * q + k) x) s σ τ ρ c9) (i + 1) L r) : bV p l e R s0 m args below meth c D cA shF A nL tb Q ad 182 cells slots (layF g s σ τ ρ c9) i L (.int x :: .ref (io 0 (6 + σ 0 q)) :: r) := by
  have z := ((hσ 0 (by omega)).1 q hq).1
  refine bv_put C ht cl_X3 hlk hk hfin hty rfl rfl (shF_p hσ hq).1 hk (shF_p hσ hq).2 ?_
  have hib : iB (6 + σ 0 q) k = true := by
    rcases (show σ 0 q = 0 ∨ σ 0 q = 1 ∨ σ 0 q = 2 ∨ σ 0 q = 3 ∨ σ 0 q = 4 ∨ σ 0 q = 5 ∨ σ 0 q = 6 ∨ σ 0 q = 7 by omega) with h | h | h | h | h | h | h | h <;> rw [h] <;> rfl
  have w := lf_up (g := g) (s := s) (ρ := ρ) (c := c9) (x := x) hσ (by omega) (by rw [shB_p z]; exact hk) hib (pB_pth (hσ 0 (by omega)) hq)
  rw [show io 0 (6 + σ 0 q) = 6 + (6 + σ 0 q) from (io_b (by omega)).trans (by omega)]
  exact bv_w w kk
end CF
