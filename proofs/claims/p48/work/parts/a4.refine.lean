/-! REFINING, THE DIGEST OF A ROW -/
section RQ
variable {f n : Nat}
def pR (f k : Nat) : Prop := k = 18 + 20 * f
theorem cR_rfS {P : Nat → Prop} {x : Int32} {t : T3} : cR P 1 t.1 (rfS f n x t).1 := by
  have e : (rfS f n x t).1 = sntG t.1 f (b0W f x (t.1 1 (38 - 20 * f))) (b1W f x (t.1 1 (38 - 20 * f))) 4 n := by
    unfold rfS
    split <;> rfl
  rw [e]
  exact cR_snt (x := 4) 4 rfl (by omega)
theorem cR_rfI {P : Nat → Prop} {x : Int32} : ∀ (q k : Nat) {t : T3}, cR P q t.1 (rfI f n x q k t).1
  | 0, _, _ => cR_rf
  | q + 1, k, t => cR_k (cR_tr (cR_rfS (n := n)) (cR_rfI q (k + 1) (t := rfS f n (nbC (t.1 1 (15 + 20 * f)) x (nI k - 2)) t))) (by omega)
theorem cR_rfO {P : Nat → Prop} {x : Int32} : ∀ (q k : Nat) {t : T3}, cR P (5 * q) t.1 (rfO f n x q k t).1
  | 0, _, _ => cR_rf
  | q + 1, k, t => cR_k (cR_tr (cR_rfI (n := n) 5 0) (cR_rfO q (k + 1) (t := rfI f n (bsC (t.1 1 (15 + 20 * f)) x (nI k - 1)) 5 0 t))) (by omega)
theorem cR_rfT {P : Nat → Prop} {g : Nat → Nat → Int32} : cR P 16 g (rfT f n g).1 := by
  have hB : cR P 1 g (rfB f n g).1 := cR_snt (x := 4) 4 rfl (by omega)
  unfold rfT
  split
  · exact cR_k (cR_tr hB (cR_rfO 2 0)) (by omega)
  · exact cR_k (cR_tr hB (cR_rfO 3 0)) (by omega)
theorem cR_rfE {g : Nat → Nat → Int32} : cR (pR f) 17 g (rfE f n (rfT f n g)) := by
  have hT : cR (pR f) 16 g (rfT f n g).1 := cR_rfT
  have h9 : ∀ a b, cR (pR f) 17 g (sntG (rfT f n g).1 (1 - f) a b 9 n) := fun a b => cR_tr hT (cR_snt (x := 9) 9 rfl (by omega))
  unfold rfE
  split
  · exact cR_k hT (by omega)
  · split
    · exact h9 _ _
    · exact cR_ug (h9 _ _) rfl (by omega) (by omega)
end RQ
section DR
variable {g g' : Nat → Nat → Int32}
theorem foldX_c {u v : Nat → Int32} (e : ∀ k, u k = v k) (n : Nat) (h : Int64) : foldX u n h = foldX v n h := by
  rw [show u = v from funext e]
theorem phX_row (e : ∀ k, g' 1 k = g 1 k) : ∀ (n : Nat) (h : Int64), phX g' n h = phX g n h
  | 0, _ => rfl
  | n + 1, h => by
    unfold phX
    rw [phX_row e n h]
    exact foldX_c (fun k => e _) _ _
theorem bkX_row (e : ∀ k, g' 1 k = g 1 k) : ∀ (n : Nat) (h : Int64), bkX g' n h = bkX g n h
  | 0, _ => rfl
  | n + 1, h => by
    unfold bkX
    rw [bkX_row e n h, e, e, e]
theorem evX_row (e : ∀ k, g' 1 k = g 1 k) : ∀ (n : Nat) (h : Int64), evX g' n h = evX g n h
  | 0, _ => rfl
  | n + 1, h => by
    unfold evX
    rw [evX_row e n h, e, e, e]
theorem hsX_row {n bk E S0 S1 : Nat} (e : ∀ k, g' 1 k = g 1 k) : hsX n bk E S0 S1 g' = hsX n bk E S0 S1 g := by
  unfold hsX
  rw [evX_row e, bkX_row e, phX_row e, foldX_c (fun k => e (39 + k)), foldX_c (fun k => e (35 + k)), foldX_c (fun k => e (19 + k)), foldX_c (fun k => e (15 + k)), e 0, e 1, e 2, e 3, e 4, e 5, e 6, e 7, e 8, e 9, e 10, e 11]
/-- the digest of a row -/
def dgR (g : Nat → Nat → Int32) : Int64 := hsX (g 1 12).toNatClampNeg (g 1 13).toNatClampNeg (g 1 14).toNatClampNeg (g 1 15).toNatClampNeg (g 1 35).toNatClampNeg g
theorem dgR_row (e : ∀ k, g' 1 k = g 1 k) : dgR g' = dgR g := by
  unfold dgR
  rw [e 12, e 13, e 14, e 15, e 35]
  exact hsX_row e
theorem apK_row {d : Int32} (h : apK g d) (hK : bkK g) (e : ∀ k, g' 1 k = g 1 k) : apK g' d := apK_eq h hK fun k _ => e k
end DR
