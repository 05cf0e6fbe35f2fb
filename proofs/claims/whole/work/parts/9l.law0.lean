/-! THE LAW: what stands at its start -/
def lwG : Cond := Jvm.Cond.and given_1 narrow_1
def tmS (i : Nat) : Term := .string RX5 (sIdx i)
def tmV (i : Nat) : Term := .field (tmS i) "java/lang/String" "value" "[B"
def lwS1 : Bool := (List.range 8).all fun i => decide ((Cond.exactly (tmS i) "java/lang/String") ∈ flatC lwG) && (decide ((Cond.eq (.field (tmS i) "java/lang/String" "coder" "B") (.int 0)) ∈ flatC lwG) && (decide ((Cond.arrayOf (tmV i) .byte) ∈ flatC lwG) && (decide ((Cond.eq (.length (tmV i)) (.int (Int32.ofNat (sLen.getD i 0)))) ∈ flatC lwG) && ((List.range (sLen.getD i 0)).all fun j => decide ((Cond.eq (.elem (tmV i) (.int (Int32.ofNat j))) (.int ((sByt.getD i []).getD j 0))) ∈ flatC lwG)))))
theorem lwS1_t : lwS1 = true := by decide +kernel
def lwS2 : Bool := (List.range 8).all fun i => (List.range 8).all fun j => decide (i = j) || (decide ((Cond.not (Cond.eq (tmS i) (tmS j))) ∈ flatC lwG) || decide ((Cond.not (Cond.eq (tmS j) (tmS i))) ∈ flatC lwG))
theorem lwS2_t : lwS2 = true := by decide +kernel
theorem all_r {n : Nat} {f : Nat → Bool} (h : (List.range n).all f = true) {i : Nat} (hi : i < n) : f i = true := List.all_eq_true.mp h i (List.mem_range.mpr hi)
theorem lw_str {args : Array Value} {s : State} (hg : lwG.before args s = true) : ∃ adK adV : Nat → Nat, vk_S 8 sLen sByt adK adV (fun q => s.heap.size ≤ q) s s.heap ∧ ∀ i : Nat, i < 8 → (tmS i).eval args s none [] s = some (.ref (adK i)) := by
  have hs := flat_of_before _ hg
  have h1 : ∀ i, i < 8 → _ := fun i hi => all_r lwS1_t hi
  refine vk_Sof (tm := tmS) (fun i hi => ?_) (fun i hi => ?_) (fun i hi => ?_) (fun i hi => ?_) (fun i hi => ?_) (fun i hi j hj => ?_) (fun i j hi hj hne => ?_) (fun a ha => by omega)
  · have : ∀ i, i < 8 → sLen.getD i 0 < 2 ^ 31 := by decide
    exact this i hi
  · have z := h1 i hi
    simp only [Bool.and_eq_true, decide_eq_true_eq] at z
    exact hs _ z.1
  · have z := h1 i hi
    simp only [Bool.and_eq_true, decide_eq_true_eq] at z
    exact hs _ z.2.1
  · have z := h1 i hi
    simp only [Bool.and_eq_true, decide_eq_true_eq] at z
    exact hs _ z.2.2.1
  · have z := h1 i hi
    simp only [Bool.and_eq_true, decide_eq_true_eq] at z
    exact hs _ z.2.2.2.1
  · have z := h1 i hi
    simp only [Bool.and_eq_true, decide_eq_true_eq] at z
    have y := all_r z.2.2.2.2 hj
    exact hs _ (of_decide_eq_true y)
  · have z := all_r (all_r lwS2_t hi) hj
    simp only [Bool.or_eq_true, decide_eq_true_eq] at z
    rcases z with z | z | z
    · exact absurd z hne
    · exact Or.inl (hs _ z)
    · exact Or.inr (hs _ z)
def lwN : Bool := nestW.all fun w => decide (w ∈ lw_tbl) && w.onTables
theorem lwN_t : lwN = true := by decide +kernel
def lwR : Bool := (List.range 8).all fun i => decide (Cond.stringRef RX5 (sIdx i) (sTxt i) ∈ lw_tbl)
theorem lwR_t : lwR = true := by decide +kernel
theorem inL {C : String} {T : u_T} {n ci : Nat} (h : clOK ci C T n) : ∀ w ∈ u_ws C T n, w ∈ lw_tbl := fun w hw => (List.mem_filter.mp (h.2.1 w hw)).1
def caF (a1 a2 a3 a4 a5 : ClassId) : FieldType → ClassId := fun t => match t with
  | .int => a1
  | .char => a2
  | .float => a3
  | .object C => if C = "BeamTraining$State" then a4 else a5
  | _ => a1
def nth9 {α : Type} (a0 a1 a2 a3 a4 a5 a6 a7 a8 : α) (c : Nat) : α := match c with
  | 0 => a0
  | 1 => a1
  | 2 => a2
  | 3 => a3
  | 4 => a4
  | 5 => a5
  | 6 => a6
  | 7 => a7
  | _ => a8
theorem lw_bK {p : Program} {s : State} {m : MethodId} {meth : Method} {c : Code} {b L : Nat} {xs : Nat → Int32} (C0 : lw_At p s m meth c b L xs) : ∃ (D : va_G) (cA : FieldType → ClassId) (SK SV : Nat → Nat), bK D cA s.heap.size SK SV s s.heap ∧ aoK s := by
  obtain ⟨-, -, -, -, -, hts, -, -, -, hg⟩ := C0
  have hsg := flat_of_before _ hg
  obtain ⟨aK, aV, hS, hT⟩ := lw_str (s := s) hg
  obtain ⟨v, hv, hvr⟩ := Cond.isRef_spec (hsg (Cond.isRef (Term.static "jdk/internal/util/Preconditions" "SIOOBE_FORMATTER" "Ljava/util/function/BiFunction;")) (by decide +kernel))
  have hz : v = .null ∨ ∃ a, v = .ref a := by
    cases v with
    | null => exact Or.inl rfl
    | ref a => exact Or.inr ⟨a, rfl⟩
    | _ => cases hvr
  obtain ⟨SK, e8, eF⟩ : ∃ SK : Nat → Nat, (∀ i, i < 8 → SK i = aK i) ∧ fmV SK = v := by
    rcases hz with rfl | ⟨a, rfl⟩
    · exact ⟨fun i => if i = 9 then 0 else aK i, fun i hi => if_neg (by omega), rfl⟩
    · exact ⟨fun i => if i = 9 then 1 else if i = 8 then a else aK i, fun i hi => (if_neg (by omega)).trans (if_neg (by omega)), rfl⟩
  obtain ⟨c0, i0, h0⟩ := u_known hts (inL cl_X0) (hts (Cond.instantiable RX0 4) (by decide +kernel))
  obtain ⟨c1, i1, h1⟩ := u_known hts (inL cl_X1) (hts (Cond.instantiable RX1 4) (by decide +kernel))
  obtain ⟨c2, i2, h2⟩ := u_known hts (inL cl_X2) (hts (Cond.instantiable RX2 1) (by decide +kernel))
  obtain ⟨c3, i3, h3⟩ := u_known hts (inL cl_X3) (hts (Cond.instantiable RX3 6) (by decide +kernel))
  obtain ⟨c4, i4, h4⟩ := u_known hts (inL cl_X5) (hts (Cond.instantiable RX5 5) (by decide +kernel))
  obtain ⟨c5, i5, h5⟩ := u_known hts (inL cl_X6) (hts (Cond.instantiable RX6 18) (by decide +kernel))
  obtain ⟨c6, i6, h6⟩ := u_known hts (inL cl_X7) (hts (Cond.instantiable RX7 5) (by decide +kernel))
  obtain ⟨c7, i7, h7⟩ := u_known hts (inL cl_X8) (hts (Cond.instantiable RX8 6) (by decide +kernel))
  obtain ⟨c8, i8, h8⟩ := u_known hts (inL cl_X9) (hts (Cond.instantiable RX9 19) (by decide +kernel))
  obtain ⟨a1, k1, p1, f1, g1, t1⟩ := Cond.arrayClass_spec (hts (Cond.arrayClass .int) (by decide +kernel))
  obtain ⟨a2, k2, p2, f2, g2, t2⟩ := Cond.arrayClass_spec (hts (Cond.arrayClass .char) (by decide +kernel))
  obtain ⟨a3, k3, p3, f3, g3, t3⟩ := Cond.arrayClass_spec (hts (Cond.arrayClass .float) (by decide +kernel))
  have o4 := hts (Cond.arrayOver (.object "BeamTraining$State")) (by decide +kernel)
  have o5 := hts (Cond.arrayOver (.object "BeamTraining$Path")) (by decide +kernel)
  obtain ⟨p4, a4, k4, f4, -, g4, t4, n4⟩ := Cond.arrayOver_spec o4
  obtain ⟨p5, a5, k5, f5, -, g5, t5, n5⟩ := Cond.arrayOver_spec o5
  have e4 : caF a1 a2 a3 a4 a5 (.object "BeamTraining$State") = a4 := (show (if "BeamTraining$State" = "BeamTraining$State" then a4 else a5) = a4 from if_pos rfl)
  have e5 : caF a1 a2 a3 a4 a5 (.object "BeamTraining$Path") = a5 := (show (if "BeamTraining$Path" = "BeamTraining$State" then a4 else a5) = a5 from if_neg (by decide))
  refine ⟨(nth9 c0 c1 c2 c3 c4 c5 c6 c7 c8, nth9 i0 i1 i2 i3 i4 i5 i6 i7 i8), caF a1 a2 a3 a4 a5, SK, aV, ⟨⟨fun k q hq => ?_, fun k q hq => ?_⟩, fun w hw => ?_, ⟨fun i hi => by rw [e8 i hi]; exact hS.1 i hi, fun i j hi hj e => hS.2 i j hi hj (by rw [← e8 i hi, ← e8 j hj]; exact e)⟩, fun i hi => vk_R.of (hts _ (of_decide_eq_true (all_r lwR_t hi))) (by rw [e8 i hi]; exact hT i hi), ?_, ?_⟩, va_AO.of o4, va_AO.of o5⟩
  · match k, hq with
    | 0, hq => cases hq; exact h0
    | 1, hq => cases hq; exact h1
    | 2, hq => cases hq; exact h2
    | 3, hq => cases hq; exact h3
    | 4, hq => cases hq; exact h4
    | 5, hq => cases hq; exact h5
    | 6, hq => cases hq; exact h6
    | 7, hq => cases hq; exact h7
    | 8, hq => cases hq; exact h8
    | k + 9, hq => cases hq
  · match k, hq with
    | 0, hq => cases hq; exact ⟨fun n z => ⟨(fun k h => by cases h), k1, g1, p1, t1⟩, f1⟩
    | 1, hq => cases hq; exact ⟨fun n z => ⟨(fun k h => by cases h), k2, g2, p2, t2⟩, f2⟩
    | 2, hq => cases hq; exact ⟨fun n z => ⟨(fun k h => by cases h), k3, g3, p3, t3⟩, f3⟩
    | 3, hq =>
      cases hq
      refine ⟨fun n z => ?_, ?_⟩
      · show s.isArrayOf (arrV (caF a1 a2 a3 a4 a5 (.object "BeamTraining$State")) n z) (.object "BeamTraining$State")
        rw [e4]
        exact ⟨(fun k h => by cases h), k4, g4, p4, t4⟩
      · show va_RA s (caF a1 a2 a3 a4 a5 (.object "BeamTraining$State")) (.object "BeamTraining$State")
        rw [e4]
        exact ⟨k4, p4, g4, t4, f4, n4⟩
    | 4, hq =>
      cases hq
      refine ⟨fun n z => ?_, ?_⟩
      · show s.isArrayOf (arrV (caF a1 a2 a3 a4 a5 (.object "BeamTraining$Path")) n z) (.object "BeamTraining$Path")
        rw [e5]
        exact ⟨(fun k h => by cases h), k5, g5, p5, t5⟩
      · show va_RA s (caF a1 a2 a3 a4 a5 (.object "BeamTraining$Path")) (.object "BeamTraining$Path")
        rw [e5]
        exact ⟨k5, p5, g5, t5, f5, n5⟩
    | k + 5, hq => cases hq
  · have z := List.all_eq_true.mp lwN_t w hw
    rw [Bool.and_eq_true] at z
    exact va_Nw.of z.2 (hts w (of_decide_eq_true z.1))
  · exact va_Zof (hts (Cond.laysStatic "java/lang/String" "COMPACT_STRINGS" "Z") (by decide +kernel)) (hts (Cond.initialized "java/lang/String") (by decide +kernel)) (va_eqt (hsg (Cond.eq (Term.static "java/lang/String" "COMPACT_STRINGS" "Z") (.int 1)) (by decide +kernel))) (fun a ha => by omega)
  · rw [eF]
    exact va_Zof (hts (Cond.laysStatic "jdk/internal/util/Preconditions" "SIOOBE_FORMATTER" "Ljava/util/function/BiFunction;") (by decide +kernel)) (hts (Cond.initialized "jdk/internal/util/Preconditions") (by decide +kernel)) hv (fun a ha => by omega)
