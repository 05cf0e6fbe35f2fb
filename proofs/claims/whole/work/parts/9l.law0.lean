/-! THE LAW: what stands at its start -/
def lwG : Cond := Jvm.Cond.and given_1 narrow_1
def tmS (i : Nat) : Term := .string RX5 (sIdx i)
def tmV (i : Nat) : Term := .field (tmS i) "java/lang/String" "value" "[B"
def lwS1 : Bool := (List.range 8).all fun i => decide ((Cond.exactly (tmS i) "java/lang/String") ∈ flatC lwG) && (decide ((Cond.eq (.field (tmS i) "java/lang/String" "coder" "B") (.int 0)) ∈ flatC lwG) && (decide ((Cond.arrayOf (tmV i) .byte) ∈ flatC lwG) && (decide ((Cond.eq (.length (tmV i)) (.int (Int32.ofNat (sLen.getD i 0)))) ∈ flatC lwG) && ((List.range (sLen.getD i 0)).all fun j => decide ((Cond.eq (.elem (tmV i) (.int (Int32.ofNat j))) (.int ((sByt.getD i []).getD j 0))) ∈ flatC lwG)))))
theorem lwS1_t : lwS1 = true := by decide +kernel
def lwS2 : Bool := (List.range 8).all fun i => (List.range 8).all fun j => decide (i = j) || (decide ((Cond.not (Cond.eq (tmS i) (tmS j))) ∈ flatC lwG) || decide ((Cond.not (Cond.eq (tmS j) (tmS i))) ∈ flatC lwG))
theorem lwS2_t : lwS2 = true := by decide +kernel
theorem all_r {n : Nat} {f : Nat → Bool} (h : (List.range n).all f = true) {i : Nat} (hi : i < n) : f i = true := List.all_eq_true.mp h i (List.mem_range.mpr hi)
theorem lw_str {args : Array Value} {s : State} (hg : lwG.before args s = true) : ∃ adK adV : Nat → Nat, vk_S 8 sLen sByt adK adV (fun q => s.heap.size ≤ q) s s.heap ∧ ∀ i : Nat, i < 8 → (tmS i).eval args s none [] s = some (.ref (adK i)) := by
  have hs := flat_of_before _ hg
  have h1 : ∀ i, i < 8 → _ := fun i hi => all_r lwS1_t hi
  refine vk_Sof (tm := tmS) (fun i hi => ?_) (fun i hi => ?_) (fun i hi => ?_) (fun i hi => ?_) (fun i hi => ?_) (fun i hi j hj => ?_) (fun i j hi hj hne => ?_) (fun a ha => by omega)
  · have : ∀ i, i < 8 → sLen.getD i 0 < 2 ^ 31 := by decide
    exact this i hi
  · have z := h1 i hi
    simp only [Bool.and_eq_true, decide_eq_true_eq] at z
    exact hs _ z.1
  · have z := h1 i hi
    simp only [Bool.and_eq_true, decide_eq_true_eq] at z
    exact hs _ z.2.1
  · have z := h1 i hi
    simp only [Bool.and_eq_true, decide_eq_true_eq] at z
    exact hs _ z.2.2.1
  · have z := h1 i hi
    simp only [Bool.and_eq_true, decide_eq_true_eq] at z
    exact hs _ z.2.2.2.1
  · have z := h1 i hi
    simp only [Bool.and_eq_true, decide_eq_true_eq] at z
    have y := all_r z.2.2.2.2 hj
    exact hs _ (of_decide_eq_true y)
  · have z := all_r (all_r lwS2_t hi) hj
    simp only [Bool.or_eq_true, decide_eq_true_eq] at z
    rcases z with z | z | z
    · exact absurd z hne
    · exact Or.inl (hs _ z)
    · exact Or.inr (hs _ z)
