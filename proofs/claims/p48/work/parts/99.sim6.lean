theorem inv_rfS {n f : Nat} {x : Int32} {t : T3} {S : Nat → Nat} (h : invK t.1 n S) : invK (rfS f n x t).1 n S := by
  have e : (rfS f n x t).1 = sntG t.1 f (b0W f x (t.1 1 (38 - 20 * f))) (b1W f x (t.1 1 (38 - 20 * f))) 4 n := by
    unfold rfS
    split <;> rfl
  rw [e]
  exact inv_snt h
theorem inv_rfI {n f : Nat} {x : Int32} {S : Nat → Nat} : ∀ (q k : Nat) {t : T3}, invK t.1 n S → invK (rfI f n x q k t).1 n S
  | 0, _, _, h => h
  | q + 1, k, t, h => by
    unfold rfI
    exact inv_rfI q (k + 1) (inv_rfS h)
theorem inv_rfO {n f : Nat} {x : Int32} {S : Nat → Nat} : ∀ (q k : Nat) {t : T3}, invK t.1 n S → invK (rfO f n x q k t).1 n S
  | 0, _, _, h => h
  | q + 1, k, t, h => by
    unfold rfO
    exact inv_rfO q (k + 1) (inv_rfI 5 0 h)
theorem inv_rfT {n f : Nat} {S : Nat → Nat} {g : Nat → Nat → Int32} (h : invK g n S) : invK (rfT f n g).1 n S := by
  have hB : invK (rfB f n g).1 n S := inv_snt h
  unfold rfT
  split
  · exact inv_rfO 2 0 hB
  · exact inv_rfO 3 0 hB
theorem inv_rfE {n f : Nat} {S : Nat → Nat} {g : Nat → Nat → Int32} (hf : f < 2) (h : invK g n S) (hu : g 1 0 = 1) : invK (rfE f n (rfT f n g)) n S := by
  have hT := inv_rfT (f := f) h
  have rl : rlG n g g g g := rlG_of (inv_n8 h) ⟨fun _ _ => rfl, fun _ _ _ => rfl, fun _ _ _ => rfl⟩ (inv_ev h) (inv_bk h)
  obtain ⟨-, r2, -⟩ := rfT_rl hf h hu rl
  unfold rfE
  rcases r2 with ⟨c1, -⟩ | ⟨c1, -, -, c4⟩
  · rw [if_pos c1]; exact hT
  · have c5 : ¬ (rfT f n g).2.2 = -100000 := fun z => by rw [z] at c1; exact absurd c1 Int32.lt_irrefl
    rw [if_neg c5]
    split
    · exact inv_snt hT
    · exact inv_bm hf (inv_snt hT) c4
