/-! the digest -/
theorem fold_cg {f f' : Nat → Int32} {h : Int64} : ∀ n, (∀ k, k < n → f' k = f k) → foldX f' n h = foldX f n h
  | 0, _ => rfl
  | n + 1, H => by
    rw [foldX_s, foldX_s, fold_cg n (fun k hk => H k (by omega)), H n (by omega)]
theorem hs_rl {n bk E S0 S1 : Nat} {a0 b0 a b : Nat → Nat → Int32} (h : rlG n a0 b0 a b) (hB : a 1 13 = nI bk) (hB3 : bk ≤ 3) (hE : a 1 14 = nI E) (hE2 : E ≤ 20) (h0 : S0 ≤ 16) (h1 : S1 ≤ 16) : hsR n bk E S0 S1 b = hsR n bk E S0 S1 a := by
  unfold hsR
  rw [h.sc (k := 0) (by omega), h.sc (k := 1) (by omega), h.sc (k := 2) (by omega), h.sc (k := 3) (by omega), h.sc (k := 4) (by omega), h.sc (k := 5) (by omega), h.sc (k := 6) (by omega), h.sc (k := 7) (by omega), h.sc (k := 8) (by omega), h.sc (k := 9) (by omega), h.sc (k := 10) (by omega), h.sc (k := 11) (by omega)]
  rw [fold_cg (f := fun k => a 1 (15 + k)) (4 + S1) (fun k hk => h.sc (by omega)), fold_cg (f := fun k => a 1 (35 + k)) (4 + S0) (fun k hk => h.sc (by omega)), fold_cg (f := fun k => a 1 (55 + k)) (6 * n) (fun k hk => h.at_ (by omega)), fold_cg (f := fun k => a 1 (103 + k)) (3 * bk) (fun k hk => h.le.2.1 _ (by omega) (by rw [hB, nI_clamp (by omega)]; omega)), fold_cg (f := fun k => a 1 (112 + k)) (3 * E) (fun k hk => h.le.2.2 _ (by omega) (by rw [hE, nI_clamp (by omega)]; omega))]
