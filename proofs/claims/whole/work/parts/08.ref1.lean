theorem lg_lt0 (x y : Int64) : (lg_cmp x y < 0) ↔ x < y := by
  unfold lg_cmp
  by_cases h1 : x > y
  · rw [if_pos h1]
    exact ⟨fun h => absurd h (by decide), fun h => absurd h (Int64.not_lt.mpr (Int64.le_of_lt h1))⟩
  · rw [if_neg h1]
    by_cases h2 : x = y
    · rw [if_pos h2, h2]
      exact ⟨fun h => absurd h (by decide), fun h => absurd h (Int64.lt_irrefl)⟩
    · rw [if_neg h2]
      refine ⟨fun _ => ?_, fun _ => by decide⟩
      rcases Int64.lt_or_lt_of_ne h2 with h | h
      · exact h
      · exact absurd h h1
theorem lg_gt0 (x y : Int64) : (0 < lg_cmp x y) ↔ y < x := by
  unfold lg_cmp
  by_cases h1 : x > y
  · rw [if_pos h1]
    exact ⟨fun _ => h1, fun _ => by decide⟩
  · rw [if_neg h1]
    by_cases h2 : x = y
    · rw [if_pos h2, h2]
      exact ⟨fun h => absurd h (by decide), fun h => absurd h (Int64.lt_irrefl)⟩
    · rw [if_neg h2]
      exact ⟨fun h => absurd h (by decide), fun h => absurd h h1⟩
theorem i64_le (x y : Int32) : x.toInt64 < y.toInt64 ↔ ¬ y ≤ x := by
  rw [Int64.lt_iff_toInt_lt, Int32.le_iff_toInt_le, Int32.toInt_toInt64, Int32.toInt_toInt64]
  omega
theorem b2i_t {p : Prop} [Decidable p] (h : p) : b2i (decide p) = 1 := by simp [b2i, h]
theorem b2i_f {p : Prop} [Decidable p] (h : ¬ p) : b2i (decide p) = 0 := by simp [b2i, h]
set_option maxRecDepth 100000 in
set_option maxHeartbeats 4000000 in
theorem ct_in {l : Launch} {D : va_G} {cA : FieldType → ClassId} {z0 : Nat} {SK SV : Nat → Nat} {ad : Nat → Nat} {sh : Sh} {N : Nat} (hE : aD (fun q => z0 ≤ q) ad N) (w : Wd) (x lo hi : Int32) : bF l D cA z0 SK SV ad sh N yX9_in cX9_in 6 (some .boolean) 0 [.long (Int32.toInt64 x), .long (Int32.toInt64 lo), .long (Int32.toInt64 hi)] w (some (.int (b2i (decide (lo ≤ x ∧ x ≤ hi))))) w := by
  refine bCT_intro (tb := tb_X9_in) (own := RX9) hE pn_X9 rfl tk_X9_in rfl (Nat.le_of_ble_eq_true rfl) ?_
  intro p e s0 m args below meth c C hr
  refine bv_blk C frk_X9 csk_X9 3 3 rfl (L1 := [(0, .long (Int32.toInt64 x)), (2, .long (Int32.toInt64 lo)), (4, .long (Int32.toInt64 hi))]) (st1 := [.int (lg_cmp (Int32.toInt64 x) (Int32.toInt64 lo))]) (w1 := w) (by rfl) ?_
  refine bv_if_lt (j := 10) C rfl rfl (fun c1 => ?_) (fun c1 => ?_)
  · refine bv_blk C frk_X9 csk_X9 1 11 rfl (L1 := [(0, .long (Int32.toInt64 x)), (2, .long (Int32.toInt64 lo)), (4, .long (Int32.toInt64 hi))]) (st1 := [.int (0)]) (w1 := w) (by rfl) ?_
    exact bv_iret C rfl hr rfl ⟨by (simp only [lg_lt0, lg_gt0, i64_le, Decidable.not_not] at c1; simp [b2i, c1]), by (rfl)⟩
  · refine bv_blk C frk_X9 csk_X9 3 7 rfl (L1 := [(0, .long (Int32.toInt64 x)), (2, .long (Int32.toInt64 lo)), (4, .long (Int32.toInt64 hi))]) (st1 := [.int (lg_cmp (Int32.toInt64 x) (Int32.toInt64 hi))]) (w1 := w) (by rfl) ?_
    refine bv_if_gt (j := 10) C rfl rfl (fun c2 => ?_) (fun c2 => ?_)
    · refine bv_blk C frk_X9 csk_X9 1 11 rfl (L1 := [(0, .long (Int32.toInt64 x)), (2, .long (Int32.toInt64 lo)), (4, .long (Int32.toInt64 hi))]) (st1 := [.int (0)]) (w1 := w) (by rfl) ?_
      exact bv_iret C rfl hr rfl ⟨by (simp only [lg_lt0, lg_gt0, i64_le, Decidable.not_not] at c1 c2; simp [b2i, c1, c2]), by (rfl)⟩
    · refine bv_blk C frk_X9 csk_X9 1 9 rfl (L1 := [(0, .long (Int32.toInt64 x)), (2, .long (Int32.toInt64 lo)), (4, .long (Int32.toInt64 hi))]) (st1 := [.int (1)]) (w1 := w) (by rfl) ?_
      refine bv_goto (j := 11) C rfl rfl ?_
      exact bv_iret C rfl hr rfl ⟨by (simp only [lg_lt0, lg_gt0, i64_le, Decidable.not_not] at c1 c2; simp [b2i, c1, c2]), by (rfl)⟩
theorem ct_in_t {l : Launch} {D : va_G} {cA : FieldType → ClassId} {z0 : Nat} {SK SV : Nat → Nat} {ad : Nat → Nat} {sh : Sh} {N : Nat} (hE : aD (fun q => z0 ≤ q) ad N) (w : Wd) {x lo hi : Int32} (hp : lo ≤ x ∧ x ≤ hi) : bF l D cA z0 SK SV ad sh N yX9_in cX9_in 6 (some .boolean) 0 [.long x.toInt64, .long lo.toInt64, .long hi.toInt64] w (some (.int 1)) w := by
  have q := ct_in (l := l) (D := D) (cA := cA) (SK := SK) (SV := SV) (sh := sh) hE w x lo hi
  rw [b2i_t hp] at q
  exact q
theorem ct_in_f {l : Launch} {D : va_G} {cA : FieldType → ClassId} {z0 : Nat} {SK SV : Nat → Nat} {ad : Nat → Nat} {sh : Sh} {N : Nat} (hE : aD (fun q => z0 ≤ q) ad N) (w : Wd) {x lo hi : Int32} (hp : ¬ (lo ≤ x ∧ x ≤ hi)) : bF l D cA z0 SK SV ad sh N yX9_in cX9_in 6 (some .boolean) 0 [.long x.toInt64, .long lo.toInt64, .long hi.toInt64] w (some (.int 0)) w := by
  have q := ct_in (l := l) (D := D) (cA := cA) (SK := SK) (SV := SV) (sh := sh) hE w x lo hi
  rw [b2i_f hp] at q
  exact q
