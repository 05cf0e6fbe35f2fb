def frK (k : Nat) : Prop := ¬ (k = 3 ∨ k = 4 ∨ k = 5 ∨ (18 ≤ k ∧ k < 35) ∨ (38 ≤ k ∧ k < 55))
def keptF (g g' : Nat → Nat → Int32) : Prop := ∀ k, frK k → g' 1 k = g 1 k
theorem kf_rf (g : Nat → Nat → Int32) : keptF g g := fun _ _ => rfl
theorem kf_tr {g g1 g2 : Nat → Nat → Int32} (h1 : keptF g g1) (h2 : keptF g1 g2) : keptF g g2 := fun k hk => (h2 k hk).trans (h1 k hk)
theorem kf_ug {g g0 : Nat → Nat → Int32} {i k : Nat} {x : Int32} (hk : i = 1 → (k = 3 ∨ k = 4 ∨ k = 5 ∨ (18 ≤ k ∧ k < 35) ∨ (38 ≤ k ∧ k < 55))) (h : keptF g0 g) : keptF g0 (ug g i k x) :=
  kf_tr h (fun j hj => ug_ne (fun z => hj (by rw [z.2]; exact hk z.1.symm)))
theorem kf_snt {g g0 : Nat → Nat → Int32} {fr m : Nat} {b0 b1 t : Int32} (h : keptF g0 g) : keptF g0 (sntG g fr b0 b1 t m) := kf_ug (by omega) (kf_ug (by omega) (kf_ug (by omega) (kf_ug (by omega) h)))
def evK (g : Nat → Nat → Int32) : Prop := ∃ E : Nat, g 1 14 = nI E ∧ E ≤ 20
theorem evK_at {g g' : Nat → Nat → Int32} (h : evK g) (e : g' 1 14 = g 1 14) : evK g' := by
  obtain ⟨E, h1, h2⟩ := h
  exact ⟨E, e.trans h1, h2⟩
theorem kp_nte1 {g g0 : Nat → Nat → Int32} {E : Nat} {kd v : Int32} (h : kept g0 g) : kept g0 (nte1 g E kd v) := kp_ug (by omega) (kp_ug (by omega) (kp_ug (by omega) (kp_ug (by omega) h)))
theorem kp_nte {g g0 : Nat → Nat → Int32} {kd v : Int32} (h : kept g0 g) : kept g0 (nteG g kd v) := by
  unfold nteG
  split
  · refine kp_nte1 (kp_ug (by omega) (kp_tr h (fun k hk => ?_)))
    unfold shE
    rw [if_neg]
    unfold stK at hk
    omega
  · exact kp_nte1 h
def dswG (f n : Nat) (S : Nat → Nat) (g : Nat → Nat → Int32) : Nat → Nat → Int32 := if phR f n S g = 0 then nteG (ug (ug (phW f n S g) 1 0 1) 1 1 0) 1 (nI f) else nteG (ug (ug (phW f n S g) 1 0 0) 1 1 0) 5 (phR f n S g)
def nbrI (many beam by_ : Int32) : Int32 := if many ≤ beam then many + arI (beam - many + by_) (5 * many) else arI (beam + by_) many
def trlo (s : Nat) (S : Nat → Nat) (g : Nat → Nat → Int32) (by_ : Int32) : Int32 := nbrI (nI (S s)) (g 1 (18 + 20 * s)) by_
def trg (s n : Nat) (g : Nat → Nat → Int32) (b o : Int32) : Nat → Nat → Int32 := sntG g s (b0W s b o) (b1W s b o) 2 n
def trh (s n : Nat) (g : Nat → Nat → Int32) (b o : Int32) : Bool := hrdG g s (b0W s b o) (b1W s b o) n
def tro (s : Nat) (g : Nat → Nat → Int32) : Int32 := g 1 (18 + 20 * (1 - s))
def tr1 (s n : Nat) (g : Nat → Nat → Int32) : Nat → Nat → Int32 := trg s n g (g 1 (18 + 20 * s)) (tro s g)
def tr2 (s n : Nat) (S : Nat → Nat) (g : Nat → Nat → Int32) : Nat → Nat → Int32 := trg s n (tr1 s n g) (trlo s S g (-1)) (tro s g)
def tr3 (s n : Nat) (S : Nat → Nat) (g : Nat → Nat → Int32) : Nat → Nat → Int32 := trg s n (tr2 s n S g) (trlo s S g 1) (tro s g)
def trh1 (s n : Nat) (g : Nat → Nat → Int32) : Bool := trh s n g (g 1 (18 + 20 * s)) (tro s g)
def trh2 (s n : Nat) (S : Nat → Nat) (g : Nat → Nat → Int32) : Bool := trh s n (tr1 s n g) (trlo s S g (-1)) (tro s g)
def trh3 (s n : Nat) (S : Nat → Nat) (g : Nat → Nat → Int32) : Bool := trh s n (tr2 s n S g) (trlo s S g 1) (tro s g)
def trkG (s n : Nat) (S : Nat → Nat) (g : Nat → Nat → Int32) : Nat → Nat → Int32 :=
  if trh2 s n S g = false ∧ trh3 s n S g = false then tr3 s n S g
  else if trh3 s n S g = true ∧ (trh2 s n S g = false ∨ ¬ tr3 s n S g 0 5 ≤ tr2 s n S g 0 5) then
    (if trh1 s n g = false ∨ ¬ tr3 s n S g 0 5 < tr1 s n g 0 5 + tr3 s n S g 1 9 then nteG (ug (tr3 s n S g) 1 (18 + 20 * s) (trlo s S g 1)) 4 (nI s) else tr3 s n S g)
  else (if trh1 s n g = false ∨ ¬ tr2 s n S g 0 5 < tr1 s n g 0 5 + tr3 s n S g 1 9 then nteG (ug (tr3 s n S g) 1 (18 + 20 * s) (trlo s S g (-1))) 4 (nI s) else tr3 s n S g)
theorem b0W_0 (b o : Int32) : b0W 0 b o = b := rfl
theorem b1W_0 (b o : Int32) : b1W 0 b o = o := rfl
theorem b0W_1 (b o : Int32) : b0W 1 b o = o := rfl
theorem b1W_1 (b o : Int32) : b1W 1 b o = b := rfl
theorem tr1_eq0 (n : Nat) (S : Nat → Nat) (g : Nat → Nat → Int32) : tr1 0 n g = sntG g 0 (g 1 18) (g 1 38) 2 n := by
  unfold tr1 trg tro
  rw [b0W_0, b1W_0]
theorem trh1_eq0 (n : Nat) (S : Nat → Nat) (g : Nat → Nat → Int32) : trh1 0 n g = hrdG g 0 (g 1 18) (g 1 38) n := by
  unfold trh1 trh tro
  rw [b0W_0, b1W_0]
theorem tr2_eq0 (n : Nat) (S : Nat → Nat) (g : Nat → Nat → Int32) : tr2 0 n S g = sntG (tr1 0 n g) 0 (nbrI (nI (S 0)) (g 1 18) (-1)) (g 1 38) 2 n := by
  unfold tr2 trg tro trlo
  rw [b0W_0, b1W_0]
theorem trh2_eq0 (n : Nat) (S : Nat → Nat) (g : Nat → Nat → Int32) : trh2 0 n S g = hrdG (tr1 0 n g) 0 (nbrI (nI (S 0)) (g 1 18) (-1)) (g 1 38) n := by
  unfold trh2 trh tro trlo
  rw [b0W_0, b1W_0]
theorem tr3_eq0 (n : Nat) (S : Nat → Nat) (g : Nat → Nat → Int32) : tr3 0 n S g = sntG (tr2 0 n S g) 0 (nbrI (nI (S 0)) (g 1 18) (1)) (g 1 38) 2 n := by
  unfold tr3 trg tro trlo
  rw [b0W_0, b1W_0]
theorem trh3_eq0 (n : Nat) (S : Nat → Nat) (g : Nat → Nat → Int32) : trh3 0 n S g = hrdG (tr2 0 n S g) 0 (nbrI (nI (S 0)) (g 1 18) (1)) (g 1 38) n := by
  unfold trh3 trh tro trlo
  rw [b0W_0, b1W_0]
theorem tr1_eq1 (n : Nat) (S : Nat → Nat) (g : Nat → Nat → Int32) : tr1 1 n g = sntG g 1 (g 1 18) (g 1 38) 2 n := by
  unfold tr1 trg tro
  rw [b0W_1, b1W_1]
theorem trh1_eq1 (n : Nat) (S : Nat → Nat) (g : Nat → Nat → Int32) : trh1 1 n g = hrdG g 1 (g 1 18) (g 1 38) n := by
  unfold trh1 trh tro
  rw [b0W_1, b1W_1]
theorem tr2_eq1 (n : Nat) (S : Nat → Nat) (g : Nat → Nat → Int32) : tr2 1 n S g = sntG (tr1 1 n g) 1 (g 1 18) (nbrI (nI (S 1)) (g 1 38) (-1)) 2 n := by
  unfold tr2 trg tro trlo
  rw [b0W_1, b1W_1]
theorem trh2_eq1 (n : Nat) (S : Nat → Nat) (g : Nat → Nat → Int32) : trh2 1 n S g = hrdG (tr1 1 n g) 1 (g 1 18) (nbrI (nI (S 1)) (g 1 38) (-1)) n := by
  unfold trh2 trh tro trlo
  rw [b0W_1, b1W_1]
theorem tr3_eq1 (n : Nat) (S : Nat → Nat) (g : Nat → Nat → Int32) : tr3 1 n S g = sntG (tr2 1 n S g) 1 (g 1 18) (nbrI (nI (S 1)) (g 1 38) (1)) 2 n := by
  unfold tr3 trg tro trlo
  rw [b0W_1, b1W_1]
theorem trh3_eq1 (n : Nat) (S : Nat → Nat) (g : Nat → Nat → Int32) : trh3 1 n S g = hrdG (tr2 1 n S g) 1 (g 1 18) (nbrI (nI (S 1)) (g 1 38) (1)) n := by
  unfold trh3 trh tro trlo
  rw [b0W_1, b1W_1]
