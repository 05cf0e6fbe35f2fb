theorem lg_lt0 (x y : Int64) : (lg_cmp x y < 0) ↔ x < y := by
  unfold lg_cmp
  by_cases h1 : x > y
  · rw [if_pos h1]
    exact ⟨fun h => absurd h (by decide), fun h => absurd h (Int64.not_lt.mpr (Int64.le_of_lt h1))⟩
  · rw [if_neg h1]
    by_cases h2 : x = y
    · rw [if_pos h2, h2]
      exact ⟨fun h => absurd h (by decide), fun h => absurd h (Int64.lt_irrefl)⟩
    · rw [if_neg h2]
      refine ⟨fun _ => ?_, fun _ => by decide⟩
      rcases Int64.lt_or_lt_of_ne h2 with h | h
      · exact h
      · exact absurd h h1
theorem lg_gt0 (x y : Int64) : (0 < lg_cmp x y) ↔ y < x := by
  unfold lg_cmp
  by_cases h1 : x > y
  · rw [if_pos h1]
    exact ⟨fun _ => h1, fun _ => by decide⟩
  · rw [if_neg h1]
    by_cases h2 : x = y
    · rw [if_pos h2, h2]
      exact ⟨fun h => absurd h (by decide), fun h => absurd h (Int64.lt_irrefl)⟩
    · rw [if_neg h2]
      exact ⟨fun h => absurd h (by decide), fun h => absurd h h1⟩
theorem i64_le (x y : Int32) : x.toInt64 < y.toInt64 ↔ ¬ y ≤ x := by
  rw [Int64.lt_iff_toInt_lt, Int32.le_iff_toInt_le, Int32.toInt_toInt64, Int32.toInt_toInt64]
  omega
theorem b2i_t {p : Prop} [Decidable p] (h : p) : b2i (decide p) = 1 := by simp [b2i, h]
theorem b2i_f {p : Prop} [Decidable p] (h : ¬ p) : b2i (decide p) = 0 := by simp [b2i, h]
set_option maxRecDepth 100000 in
set_option maxHeartbeats 4000000 in
theorem ct_in {l : Launch} {D : va_G} {cA : FieldType → ClassId} {z0 : Nat} {SK SV : Nat → Nat} {ad : Nat → Nat} {sh : Sh} {N : Nat} (hE : aD (fun q => z0 ≤ q) ad N) (w : Wd) (x lo hi : Int32) : bF l D cA z0 SK SV ad sh N yX9_in cX9_in 6 (some .boolean) 0 [.long (Int32.toInt64 x), .long (Int32.toInt64 lo), .long (Int32.toInt64 hi)] w (some (.int (b2i (decide (lo ≤ x ∧ x ≤ hi))))) w := by
  refine bCT_intro (tb := tb_X9_in) (own := RX9) hE pn_X9 rfl tk_X9_in rfl (Nat.le_of_ble_eq_true rfl) ?_
  intro p e s0 m args below meth c C hr
  refine bv_blk C frk_X9 csk_X9 3 3 rfl (L1 := ([(0, .long (Int32.toInt64 x)), (2, .long (Int32.toInt64 lo)), (4, .long (Int32.toInt64 hi))] : Lc)) (st1 := ([.int (lg_cmp (Int32.toInt64 x) (Int32.toInt64 lo))] : List Value)) (w1 := w) (by rfl) ?_
  refine bv_if_lt (j := 10) C rfl rfl (fun c1 => ?_) (fun c1 => ?_)
  · refine bv_blk C frk_X9 csk_X9 1 11 rfl (L1 := ([(0, .long (Int32.toInt64 x)), (2, .long (Int32.toInt64 lo)), (4, .long (Int32.toInt64 hi))] : Lc)) (st1 := ([.int (0)] : List Value)) (w1 := w) (by rfl) ?_
    exact bv_iret C rfl hr rfl ⟨by (simp only [lg_lt0, lg_gt0, i64_le, Decidable.not_not] at c1; simp [b2i, c1]), by (rfl)⟩
  · refine bv_blk C frk_X9 csk_X9 3 7 rfl (L1 := ([(0, .long (Int32.toInt64 x)), (2, .long (Int32.toInt64 lo)), (4, .long (Int32.toInt64 hi))] : Lc)) (st1 := ([.int (lg_cmp (Int32.toInt64 x) (Int32.toInt64 hi))] : List Value)) (w1 := w) (by rfl) ?_
    refine bv_if_gt (j := 10) C rfl rfl (fun c2 => ?_) (fun c2 => ?_)
    · refine bv_blk C frk_X9 csk_X9 1 11 rfl (L1 := ([(0, .long (Int32.toInt64 x)), (2, .long (Int32.toInt64 lo)), (4, .long (Int32.toInt64 hi))] : Lc)) (st1 := ([.int (0)] : List Value)) (w1 := w) (by rfl) ?_
      exact bv_iret C rfl hr rfl ⟨by (simp only [lg_lt0, lg_gt0, i64_le, Decidable.not_not] at c1 c2; simp [b2i, c1, c2]), by (rfl)⟩
    · refine bv_blk C frk_X9 csk_X9 1 9 rfl (L1 := ([(0, .long (Int32.toInt64 x)), (2, .long (Int32.toInt64 lo)), (4, .long (Int32.toInt64 hi))] : Lc)) (st1 := ([.int (1)] : List Value)) (w1 := w) (by rfl) ?_
      refine bv_goto (j := 11) C rfl rfl ?_
      exact bv_iret C rfl hr rfl ⟨by (simp only [lg_lt0, lg_gt0, i64_le, Decidable.not_not] at c1 c2; simp [b2i, c1, c2]), by (rfl)⟩
theorem ct_in_t {l : Launch} {D : va_G} {cA : FieldType → ClassId} {z0 : Nat} {SK SV : Nat → Nat} {ad : Nat → Nat} {sh : Sh} {N : Nat} (hE : aD (fun q => z0 ≤ q) ad N) (w : Wd) {x lo hi : Int32} (hp : lo ≤ x ∧ x ≤ hi) : bF l D cA z0 SK SV ad sh N yX9_in cX9_in 6 (some .boolean) 0 [.long x.toInt64, .long lo.toInt64, .long hi.toInt64] w (some (.int 1)) w := by
  have q := ct_in (l := l) (D := D) (cA := cA) (SK := SK) (SV := SV) (sh := sh) hE w x lo hi
  rw [b2i_t hp] at q
  exact q
theorem ct_in_f {l : Launch} {D : va_G} {cA : FieldType → ClassId} {z0 : Nat} {SK SV : Nat → Nat} {ad : Nat → Nat} {sh : Sh} {N : Nat} (hE : aD (fun q => z0 ≤ q) ad N) (w : Wd) {x lo hi : Int32} (hp : ¬ (lo ≤ x ∧ x ≤ hi)) : bF l D cA z0 SK SV ad sh N yX9_in cX9_in 6 (some .boolean) 0 [.long x.toInt64, .long lo.toInt64, .long hi.toInt64] w (some (.int 0)) w := by
  have q := ct_in (l := l) (D := D) (cA := cA) (SK := SK) (SV := SV) (sh := sh) hE w x lo hi
  rw [b2i_f hp] at q
  exact q
set_option maxRecDepth 100000 in
set_option maxHeartbeats 4000000 in
theorem ct_of {l : Launch} {D : va_G} {cA : FieldType → ClassId} {z0 : Nat} {SK SV : Nat → Nat} {ad : Nat → Nat} (hE : aD (fun q => z0 ≤ q) ad 9) (g : Nat → Nat → Int32) (h : Int64) (s k : Nat) (hs : s < 2) (hk : k < 20) : bF l D cA z0 SK SV ad shM 9 yX9_of cX9_of 3 (some .int) 0 [.ref 0, .int (nI s), .int (nI k)] (layM g h) (some (.int (g 1 (15 + 20 * s + k)))) (layM g h) := by
  refine bCT_intro (tb := tb_X9_of) (own := RX9) hE pn_X9 rfl tk_X9_of rfl (Nat.le_of_ble_eq_true rfl) ?_
  intro p e s0 m args below meth c C hr
  refine bv_blk C frk_X9 csk_X9 9 9 rfl (L1 := ([(0, .ref 0), (1, .int (nI s)), (2, .int (nI k))] : Lc)) (st1 := ([.int (((15) + ((20) * (nI s))) + (nI k)), .ref 1] : List Value)) (w1 := (layM g h)) (by rfl) ?_
  refine bv_iald C rfl rfl (by decide) (j := ((15 + (20 * s)) + k)) (by exact (nIa (nIa rfl (nIm rfl rfl)) rfl)) (by first | decide | omega) (by decide) (y := (g 1 ((15 + (20 * s)) + k))) (by rfl) ?_
  exact bv_iret C rfl hr rfl ⟨by (rfl), by (rfl)⟩
set_option maxRecDepth 100000 in
set_option maxHeartbeats 4000000 in
theorem ct_sets {l : Launch} {D : va_G} {cA : FieldType → ClassId} {z0 : Nat} {SK SV : Nat → Nat} {ad : Nat → Nat} (hE : aD (fun q => z0 ≤ q) ad 9) (g : Nat → Nat → Int32) (h : Int64) (s k : Nat) (x : Int32) (hs : s < 2) (hk : k < 20) : bF l D cA z0 SK SV ad shM 9 yX9_sets cX9_sets 4 none 0 [.ref 0, .int (nI s), .int (nI k), .int x] (layM g h) none (layM (ug g 1 (15 + 20 * s + k) x) h) := by
  refine bCT_intro (tb := tb_X9_sets) (own := RX9) hE pn_X9 rfl tk_X9_sets rfl (Nat.le_of_ble_eq_true rfl) ?_
  intro p e s0 m args below meth c C hr
  refine bv_blk C frk_X9 csk_X9 10 10 rfl (L1 := ([(0, .ref 0), (1, .int (nI s)), (2, .int (nI k)), (3, .int x)] : Lc)) (st1 := ([.int x, .int (((15) + ((20) * (nI s))) + (nI k)), .ref 1] : List Value)) (w1 := (layM g h)) (by rfl) ?_
  refine bv_iast C rfl rfl (by decide) (j := ((15 + (20 * s)) + k)) (by exact (nIa (nIa rfl (nIm rfl rfl)) rfl)) (by first | decide | omega) (by decide) ?_
  rw [lm_up rfl]
  exact bv_vret C rfl hr ⟨by (rfl), by (rfl)⟩
set_option maxRecDepth 100000 in
set_option maxHeartbeats 4000000 in
theorem ct_ofPath {l : Launch} {D : va_G} {cA : FieldType → ClassId} {z0 : Nat} {SK SV : Nat → Nat} {ad : Nat → Nat} (hE : aD (fun q => z0 ≤ q) ad 9) (g : Nat → Nat → Int32) (h : Int64) (s k : Nat) (hs : s < 8) (hk : k < 6) : bF l D cA z0 SK SV ad shM 9 yX9_ofPath cX9_ofPath 3 (some .int) 0 [.ref 0, .int (nI s), .int (nI k)] (layM g h) (some (.int (g 1 (55 + 6 * s + k)))) (layM g h) := by
  refine bCT_intro (tb := tb_X9_ofPath) (own := RX9) hE pn_X9 rfl tk_X9_ofPath rfl (Nat.le_of_ble_eq_true rfl) ?_
  intro p e s0 m args below meth c C hr
  refine bv_blk C frk_X9 csk_X9 9 9 rfl (L1 := ([(0, .ref 0), (1, .int (nI s)), (2, .int (nI k))] : Lc)) (st1 := ([.int (((55) + ((6) * (nI s))) + (nI k)), .ref 1] : List Value)) (w1 := (layM g h)) (by rfl) ?_
  refine bv_iald C rfl rfl (by decide) (j := ((55 + (6 * s)) + k)) (by exact (nIa (nIa rfl (nIm rfl rfl)) rfl)) (by first | decide | omega) (by decide) (y := (g 1 ((55 + (6 * s)) + k))) (by rfl) ?_
  exact bv_iret C rfl hr rfl ⟨by (rfl), by (rfl)⟩
set_option maxRecDepth 100000 in
set_option maxHeartbeats 4000000 in
theorem ct_setsPath {l : Launch} {D : va_G} {cA : FieldType → ClassId} {z0 : Nat} {SK SV : Nat → Nat} {ad : Nat → Nat} (hE : aD (fun q => z0 ≤ q) ad 9) (g : Nat → Nat → Int32) (h : Int64) (s k : Nat) (x : Int32) (hs : s < 8) (hk : k < 6) : bF l D cA z0 SK SV ad shM 9 yX9_setsPath cX9_setsPath 4 none 0 [.ref 0, .int (nI s), .int (nI k), .int x] (layM g h) none (layM (ug g 1 (55 + 6 * s + k) x) h) := by
  refine bCT_intro (tb := tb_X9_setsPath) (own := RX9) hE pn_X9 rfl tk_X9_setsPath rfl (Nat.le_of_ble_eq_true rfl) ?_
  intro p e s0 m args below meth c C hr
  refine bv_blk C frk_X9 csk_X9 10 10 rfl (L1 := ([(0, .ref 0), (1, .int (nI s)), (2, .int (nI k)), (3, .int x)] : Lc)) (st1 := ([.int x, .int (((55) + ((6) * (nI s))) + (nI k)), .ref 1] : List Value)) (w1 := (layM g h)) (by rfl) ?_
  refine bv_iast C rfl rfl (by decide) (j := ((55 + (6 * s)) + k)) (by exact (nIa (nIa rfl (nIm rfl rfl)) rfl)) (by first | decide | omega) (by decide) ?_
  rw [lm_up rfl]
  exact bv_vret C rfl hr ⟨by (rfl), by (rfl)⟩
def remI (x y : Int32) : Int32 := x - x / y * y
def arI (v b : Int32) : Int32 := remI (remI v b + b) b
def secI (many beam : Int32) : Int32 := if many ≤ beam then (beam - many) / 5 else beam
def finI (many beam : Int32) : Int32 := if many ≤ beam then remI (beam - many) 5 - 2 else 0
def ptI (many o beam : Int32) : Int32 := arI (o + 64 * secI many beam / many + finI many beam) 64
def angI (a b : Int32) : Int32 := if arI (a - b) 64 ≤ 32 then arI (a - b) 64 else 64 - arI (a - b) 64
def gaI (many o beam t : Int32) : Int32 :=
  let d := angI (ptI many o beam) t
  let q := if many ≤ beam then 48 - 3 * d * d else 36 - d * d
  if beam = -1 then 0 else if -40 ≤ q then q else -40
set_option maxRecDepth 100000 in
set_option maxHeartbeats 4000000 in
theorem ct_around {l : Launch} {D : va_G} {cA : FieldType → ClassId} {z0 : Nat} {SK SV : Nat → Nat} {ad : Nat → Nat} {sh : Sh} {N : Nat} (hE : aD (fun q => z0 ≤ q) ad N) (w : Wd) (x y : Int32) (hy : ¬ y = 0) : bF l D cA z0 SK SV ad sh N yX9_around cX9_around 2 (some .int) 0 [.int x, .int y] w (some (.int (arI x y))) w := by
  refine bCT_intro (tb := tb_X9_around) (own := RX9) hE pn_X9 rfl tk_X9_around rfl (Nat.le_of_ble_eq_true rfl) ?_
  intro p e s0 m args below meth c C hr
  refine bv_blk C frk_X9 csk_X9 2 2 rfl (L1 := ([(0, .int x), (1, .int y)] : Lc)) (st1 := ([.int y, .int x] : List Value)) (w1 := w) (by rfl) ?_
  refine bv_irem C rfl hy ?_
  refine bv_blk C frk_X9 csk_X9 3 6 rfl (L1 := ([(0, .int x), (1, .int y)] : Lc)) (st1 := ([.int y, .int ((x - x / y * y) + y)] : List Value)) (w1 := w) (by rfl) ?_
  refine bv_irem C rfl hy ?_
  exact bv_iret C rfl hr rfl ⟨by (rfl), by (rfl)⟩
set_option maxRecDepth 100000 in
set_option maxHeartbeats 4000000 in
theorem ct_angle {l : Launch} {D : va_G} {cA : FieldType → ClassId} {z0 : Nat} {SK SV : Nat → Nat} {ad : Nat → Nat} {sh : Sh} {N : Nat} (hE : aD (fun q => z0 ≤ q) ad N) (w : Wd) (x y : Int32) : bF l D cA z0 SK SV ad sh N yX9_angle cX9_angle 3 (some .int) 1 [.int x, .int y] w (some (.int (angI x y))) w := by
  refine bCT_intro (tb := tb_X9_angle) (own := RX9) hE pn_X9 rfl tk_X9_angle rfl (Nat.le_of_ble_eq_true rfl) ?_
  intro p e s0 m args below meth c C hr
  refine bv_blk C frk_X9 csk_X9 4 4 rfl (L1 := ([(0, .int x), (1, .int y)] : Lc)) (st1 := ([.int (64), .int (x - y)] : List Value)) (w1 := w) (by rfl) ?_
  refine bv_fS1 C rfl (ct_around hE _ (x - y) (64) (by decide)) ml_X9_76 st_X9_around ini_X9 cd_X9_around ok_X9_around rfl ⟨Nat.le_of_ble_eq_true rfl, Nat.le_of_ble_eq_true rfl⟩ ⟨Nat.zero_le _, Nat.zero_le _⟩ (rest := ([] : List Value)) rfl (Nat.le_of_ble_eq_true rfl) ?_
  refine bv_blk C frk_X9 csk_X9 3 8 rfl (L1 := ([(2, .int (arI (x - y) (64))), (0, .int x), (1, .int y)] : Lc)) (st1 := ([.int (32), .int (arI (x - y) (64))] : List Value)) (w1 := w) (by rfl) ?_
  refine bv_icmp_le (j := 13) C rfl rfl (fun c1 => ?_) (fun c1 => ?_)
  · refine bv_blk C frk_X9 csk_X9 1 14 rfl (L1 := ([(2, .int (arI (x - y) (64))), (0, .int x), (1, .int y)] : Lc)) (st1 := ([.int (arI (x - y) (64))] : List Value)) (w1 := w) (by rfl) ?_
    exact bv_iret C rfl hr rfl ⟨by (simp only [angI, c1, if_true, if_false, ↓reduceIte]), by (rfl)⟩
  · refine bv_blk C frk_X9 csk_X9 3 12 rfl (L1 := ([(2, .int (arI (x - y) (64))), (0, .int x), (1, .int y)] : Lc)) (st1 := ([.int ((64) - (arI (x - y) (64)))] : List Value)) (w1 := w) (by rfl) ?_
    refine bv_goto (j := 14) C rfl rfl ?_
    exact bv_iret C rfl hr rfl ⟨by (simp only [angI, c1, if_true, if_false, ↓reduceIte]), by (rfl)⟩
set_option maxRecDepth 100000 in
set_option maxHeartbeats 4000000 in
theorem ct_sectorOf {l : Launch} {D : va_G} {cA : FieldType → ClassId} {z0 : Nat} {SK SV : Nat → Nat} {ad : Nat → Nat} (hE : aD (fun q => z0 ≤ q) ad 9) (g : Nat → Nat → Int32) (h : Int64) (s : Nat) (x : Int32) (hs : s < 2) : bF l D cA z0 SK SV ad shM 9 yX9_sectorOf cX9_sectorOf 4 (some .int) 1 [.ref 0, .int (nI s), .int x] (layM g h) (some (.int (secI (g 1 (15 + 20 * s + 0)) x))) (layM g h) := by
  refine bCT_intro (tb := tb_X9_sectorOf) (own := RX9) hE pn_X9 rfl tk_X9_sectorOf rfl (Nat.le_of_ble_eq_true rfl) ?_
  intro p e s0 m args below meth c C hr
  refine bv_blk C frk_X9 csk_X9 3 3 rfl (L1 := ([(0, .ref 0), (1, .int (nI s)), (2, .int x)] : Lc)) (st1 := ([.int (0), .int (nI s), .ref 0] : List Value)) (w1 := (layM g h)) (by rfl) ?_
  refine bv_fV1 C rfl (ct_of hE _ _ s 0 (by omega) (by omega)) ml_X9_69 im_X9_of sel_X9_of ini_X9 cd_X9_of ok_X9_of rfl ⟨Nat.le_of_ble_eq_true rfl, Nat.le_of_ble_eq_true rfl⟩ ⟨Nat.zero_le _, Nat.zero_le _⟩ (by decide) rfl rfl rfl (rest := ([] : List Value)) rfl (Nat.le_of_ble_eq_true rfl) ?_
  refine bv_blk C frk_X9 csk_X9 3 7 rfl (L1 := ([(3, .int (g 1 (15 + 20 * s + 0))), (0, .ref 0), (1, .int (nI s)), (2, .int x)] : Lc)) (st1 := ([.int (g 1 (15 + 20 * s + 0)), .int x] : List Value)) (w1 := (layM g h)) (by rfl) ?_
  refine bv_icmp_ge (j := 10) C rfl rfl (fun c1 => ?_) (fun c1 => ?_)
  · refine bv_blk C frk_X9 csk_X9 4 14 rfl (L1 := ([(3, .int (g 1 (15 + 20 * s + 0))), (0, .ref 0), (1, .int (nI s)), (2, .int x)] : Lc)) (st1 := ([.int (5), .int (x - (g 1 (15 + 20 * s + 0)))] : List Value)) (w1 := (layM g h)) (by rfl) ?_
    refine bv_idiv C rfl (by decide) ?_
    exact bv_iret C rfl hr rfl ⟨by (simp only [secI, c1, if_true, if_false, ↓reduceIte]), by (rfl)⟩
  · refine bv_blk C frk_X9 csk_X9 1 9 rfl (L1 := ([(3, .int (g 1 (15 + 20 * s + 0))), (0, .ref 0), (1, .int (nI s)), (2, .int x)] : Lc)) (st1 := ([.int x] : List Value)) (w1 := (layM g h)) (by rfl) ?_
    refine bv_goto (j := 15) C rfl rfl ?_
    exact bv_iret C rfl hr rfl ⟨by (simp only [secI, c1, if_true, if_false, ↓reduceIte]), by (rfl)⟩
set_option maxRecDepth 100000 in
set_option maxHeartbeats 4000000 in
theorem ct_pointsTo {l : Launch} {D : va_G} {cA : FieldType → ClassId} {z0 : Nat} {SK SV : Nat → Nat} {ad : Nat → Nat} (hE : aD (fun q => z0 ≤ q) ad 9) (g : Nat → Nat → Int32) (h : Int64) (s : Nat) (x : Int32) (hs : s < 2) (hm : ¬ g 1 (15 + 20 * s + 0) = 0) : bF l D cA z0 SK SV ad shM 9 yX9_pointsTo cX9_pointsTo 5 (some .int) 2 [.ref 0, .int (nI s), .int x] (layM g h) (some (.int (ptI (g 1 (15 + 20 * s + 0)) (g 1 (15 + 20 * s + 1)) x))) (layM g h) := by
  refine bCT_intro (tb := tb_X9_pointsTo) (own := RX9) hE pn_X9 rfl tk_X9_pointsTo rfl (Nat.le_of_ble_eq_true rfl) ?_
  intro p e s0 m args below meth c C hr
  refine bv_blk C frk_X9 csk_X9 3 3 rfl (L1 := ([(0, .ref 0), (1, .int (nI s)), (2, .int x)] : Lc)) (st1 := ([.int (0), .int (nI s), .ref 0] : List Value)) (w1 := (layM g h)) (by rfl) ?_
  refine bv_fV1 C rfl (ct_of hE _ _ s 0 (by omega) (by omega)) ml_X9_69 im_X9_of sel_X9_of ini_X9 cd_X9_of ok_X9_of rfl ⟨Nat.le_of_ble_eq_true rfl, Nat.le_of_ble_eq_true rfl⟩ ⟨Nat.zero_le _, Nat.zero_le _⟩ (by decide) rfl rfl rfl (rest := ([] : List Value)) rfl (Nat.le_of_ble_eq_true rfl) ?_
  refine bv_blk C frk_X9 csk_X9 3 7 rfl (L1 := ([(3, .int (g 1 (15 + 20 * s + 0))), (0, .ref 0), (1, .int (nI s)), (2, .int x)] : Lc)) (st1 := ([.int (g 1 (15 + 20 * s + 0)), .int x] : List Value)) (w1 := (layM g h)) (by rfl) ?_
  refine bv_icmp_ge (j := 10) C rfl rfl (fun c1 => ?_) (fun c1 => ?_)
  · refine bv_blk C frk_X9 csk_X9 4 14 rfl (L1 := ([(3, .int (g 1 (15 + 20 * s + 0))), (0, .ref 0), (1, .int (nI s)), (2, .int x)] : Lc)) (st1 := ([.int (5), .int (x - (g 1 (15 + 20 * s + 0)))] : List Value)) (w1 := (layM g h)) (by rfl) ?_
    refine bv_irem C rfl (by decide) ?_
    refine bv_blk C frk_X9 csk_X9 6 21 rfl (L1 := ([(4, .int (((x - (g 1 (15 + 20 * s + 0))) - (x - (g 1 (15 + 20 * s + 0))) / (5) * (5)) - (2))), (3, .int (g 1 (15 + 20 * s + 0))), (0, .ref 0), (1, .int (nI s)), (2, .int x)] : Lc)) (st1 := ([.int (1), .int (nI s), .ref 0] : List Value)) (w1 := (layM g h)) (by rfl) ?_
    refine bv_fV1 C rfl (ct_of hE _ _ s 1 (by omega) (by omega)) ml_X9_69 im_X9_of sel_X9_of ini_X9 cd_X9_of ok_X9_of rfl ⟨Nat.le_of_ble_eq_true rfl, Nat.le_of_ble_eq_true rfl⟩ ⟨Nat.zero_le _, Nat.zero_le _⟩ (by decide) rfl rfl rfl (rest := ([] : List Value)) rfl (Nat.le_of_ble_eq_true rfl) ?_
    refine bv_blk C frk_X9 csk_X9 4 26 rfl (L1 := ([(4, .int (((x - (g 1 (15 + 20 * s + 0))) - (x - (g 1 (15 + 20 * s + 0))) / (5) * (5)) - (2))), (3, .int (g 1 (15 + 20 * s + 0))), (0, .ref 0), (1, .int (nI s)), (2, .int x)] : Lc)) (st1 := ([.int x, .int (nI s), .ref 0, .int (64), .int (g 1 (15 + 20 * s + 1))] : List Value)) (w1 := (layM g h)) (by rfl) ?_
    refine bv_fV1 C rfl (ct_sectorOf hE _ _ s x (by omega)) ml_X9_73 im_X9_sectorOf sel_X9_sectorOf ini_X9 cd_X9_sectorOf ok_X9_sectorOf rfl ⟨Nat.le_of_ble_eq_true rfl, Nat.le_of_ble_eq_true rfl⟩ ⟨Nat.zero_le _, Nat.zero_le _⟩ (by decide) rfl rfl rfl (rest := ([.int (64), .int (g 1 (15 + 20 * s + 1))] : List Value)) rfl (Nat.le_of_ble_eq_true rfl) ?_
    refine bv_blk C frk_X9 csk_X9 2 29 rfl (L1 := ([(4, .int (((x - (g 1 (15 + 20 * s + 0))) - (x - (g 1 (15 + 20 * s + 0))) / (5) * (5)) - (2))), (3, .int (g 1 (15 + 20 * s + 0))), (0, .ref 0), (1, .int (nI s)), (2, .int x)] : Lc)) (st1 := ([.int (g 1 (15 + 20 * s + 0)), .int ((64) * (secI (g 1 (15 + 20 * s + 0)) x)), .int (g 1 (15 + 20 * s + 1))] : List Value)) (w1 := (layM g h)) (by rfl) ?_
    refine bv_idiv C rfl hm ?_
    refine bv_blk C frk_X9 csk_X9 4 34 rfl (L1 := ([(4, .int (((x - (g 1 (15 + 20 * s + 0))) - (x - (g 1 (15 + 20 * s + 0))) / (5) * (5)) - (2))), (3, .int (g 1 (15 + 20 * s + 0))), (0, .ref 0), (1, .int (nI s)), (2, .int x)] : Lc)) (st1 := ([.int (64), .int (((g 1 (15 + 20 * s + 1)) + (((64) * (secI (g 1 (15 + 20 * s + 0)) x)) / (g 1 (15 + 20 * s + 0)))) + (((x - (g 1 (15 + 20 * s + 0))) - (x - (g 1 (15 + 20 * s + 0))) / (5) * (5)) - (2)))] : List Value)) (w1 := (layM g h)) (by rfl) ?_
    refine bv_fS1 C rfl (ct_around hE _ (((g 1 (15 + 20 * s + 1)) + (((64) * (secI (g 1 (15 + 20 * s + 0)) x)) / (g 1 (15 + 20 * s + 0)))) + (((x - (g 1 (15 + 20 * s + 0))) - (x - (g 1 (15 + 20 * s + 0))) / (5) * (5)) - (2))) (64) (by decide)) ml_X9_76 st_X9_around ini_X9 cd_X9_around ok_X9_around rfl ⟨Nat.le_of_ble_eq_true rfl, Nat.le_of_ble_eq_true rfl⟩ ⟨Nat.zero_le _, Nat.zero_le _⟩ (rest := ([] : List Value)) rfl (Nat.le_of_ble_eq_true rfl) ?_
    exact bv_iret C rfl hr rfl ⟨by (simp only [ptI, finI, remI, c1, if_true, if_false, ↓reduceIte]), by (rfl)⟩
  · refine bv_blk C frk_X9 csk_X9 1 9 rfl (L1 := ([(3, .int (g 1 (15 + 20 * s + 0))), (0, .ref 0), (1, .int (nI s)), (2, .int x)] : Lc)) (st1 := ([.int (0)] : List Value)) (w1 := (layM g h)) (by rfl) ?_
    refine bv_goto (j := 17) C rfl rfl ?_
    refine bv_blk C frk_X9 csk_X9 4 21 rfl (L1 := ([(4, .int (0)), (3, .int (g 1 (15 + 20 * s + 0))), (0, .ref 0), (1, .int (nI s)), (2, .int x)] : Lc)) (st1 := ([.int (1), .int (nI s), .ref 0] : List Value)) (w1 := (layM g h)) (by rfl) ?_
    refine bv_fV1 C rfl (ct_of hE _ _ s 1 (by omega) (by omega)) ml_X9_69 im_X9_of sel_X9_of ini_X9 cd_X9_of ok_X9_of rfl ⟨Nat.le_of_ble_eq_true rfl, Nat.le_of_ble_eq_true rfl⟩ ⟨Nat.zero_le _, Nat.zero_le _⟩ (by decide) rfl rfl rfl (rest := ([] : List Value)) rfl (Nat.le_of_ble_eq_true rfl) ?_
    refine bv_blk C frk_X9 csk_X9 4 26 rfl (L1 := ([(4, .int (0)), (3, .int (g 1 (15 + 20 * s + 0))), (0, .ref 0), (1, .int (nI s)), (2, .int x)] : Lc)) (st1 := ([.int x, .int (nI s), .ref 0, .int (64), .int (g 1 (15 + 20 * s + 1))] : List Value)) (w1 := (layM g h)) (by rfl) ?_
    refine bv_fV1 C rfl (ct_sectorOf hE _ _ s x (by omega)) ml_X9_73 im_X9_sectorOf sel_X9_sectorOf ini_X9 cd_X9_sectorOf ok_X9_sectorOf rfl ⟨Nat.le_of_ble_eq_true rfl, Nat.le_of_ble_eq_true rfl⟩ ⟨Nat.zero_le _, Nat.zero_le _⟩ (by decide) rfl rfl rfl (rest := ([.int (64), .int (g 1 (15 + 20 * s + 1))] : List Value)) rfl (Nat.le_of_ble_eq_true rfl) ?_
    refine bv_blk C frk_X9 csk_X9 2 29 rfl (L1 := ([(4, .int (0)), (3, .int (g 1 (15 + 20 * s + 0))), (0, .ref 0), (1, .int (nI s)), (2, .int x)] : Lc)) (st1 := ([.int (g 1 (15 + 20 * s + 0)), .int ((64) * (secI (g 1 (15 + 20 * s + 0)) x)), .int (g 1 (15 + 20 * s + 1))] : List Value)) (w1 := (layM g h)) (by rfl) ?_
    refine bv_idiv C rfl hm ?_
    refine bv_blk C frk_X9 csk_X9 4 34 rfl (L1 := ([(4, .int (0)), (3, .int (g 1 (15 + 20 * s + 0))), (0, .ref 0), (1, .int (nI s)), (2, .int x)] : Lc)) (st1 := ([.int (64), .int (((g 1 (15 + 20 * s + 1)) + (((64) * (secI (g 1 (15 + 20 * s + 0)) x)) / (g 1 (15 + 20 * s + 0)))) + (0))] : List Value)) (w1 := (layM g h)) (by rfl) ?_
    refine bv_fS1 C rfl (ct_around hE _ (((g 1 (15 + 20 * s + 1)) + (((64) * (secI (g 1 (15 + 20 * s + 0)) x)) / (g 1 (15 + 20 * s + 0)))) + (0)) (64) (by decide)) ml_X9_76 st_X9_around ini_X9 cd_X9_around ok_X9_around rfl ⟨Nat.le_of_ble_eq_true rfl, Nat.le_of_ble_eq_true rfl⟩ ⟨Nat.zero_le _, Nat.zero_le _⟩ (rest := ([] : List Value)) rfl (Nat.le_of_ble_eq_true rfl) ?_
    exact bv_iret C rfl hr rfl ⟨by (simp only [ptI, finI, remI, c1, if_true, if_false, ↓reduceIte]), by (rfl)⟩
set_option maxRecDepth 100000 in
set_option maxHeartbeats 4000000 in
theorem ct_gainOf {l : Launch} {D : va_G} {cA : FieldType → ClassId} {z0 : Nat} {SK SV : Nat → Nat} {ad : Nat → Nat} (hE : aD (fun q => z0 ≤ q) ad 9) (g : Nat → Nat → Int32) (h : Int64) (s : Nat) (x t : Int32) (hs : s < 2) (hm : ¬ g 1 (15 + 20 * s + 0) = 0) : bF l D cA z0 SK SV ad shM 9 yX9_gainOf cX9_gainOf 6 (some .int) 3 [.ref 0, .int (nI s), .int x, .int t] (layM g h) (some (.int (gaI (g 1 (15 + 20 * s + 0)) (g 1 (15 + 20 * s + 1)) x t))) (layM g h) := by
  refine bCT_intro (tb := tb_X9_gainOf) (own := RX9) hE pn_X9 rfl tk_X9_gainOf rfl (Nat.le_of_ble_eq_true rfl) ?_
  intro p e s0 m args below meth c C hr
  refine bv_blk C frk_X9 csk_X9 2 2 rfl (L1 := ([(0, .ref 0), (1, .int (nI s)), (2, .int x), (3, .int t)] : Lc)) (st1 := ([.int (-1), .int x] : List Value)) (w1 := (layM g h)) (by rfl) ?_
  refine bv_icmp_ne (j := 5) C rfl rfl (fun c1 => ?_) (fun c1 => ?_)
  · refine bv_blk C frk_X9 csk_X9 3 8 rfl (L1 := ([(0, .ref 0), (1, .int (nI s)), (2, .int x), (3, .int t)] : Lc)) (st1 := ([.int x, .int (nI s), .ref 0] : List Value)) (w1 := (layM g h)) (by rfl) ?_
    refine bv_fV1 C rfl (ct_pointsTo hE _ _ s x (by omega) hm) ml_X9_79 im_X9_pointsTo sel_X9_pointsTo ini_X9 cd_X9_pointsTo ok_X9_pointsTo rfl ⟨Nat.le_of_ble_eq_true rfl, Nat.le_of_ble_eq_true rfl⟩ ⟨Nat.zero_le _, Nat.zero_le _⟩ (by decide) rfl rfl rfl (rest := ([] : List Value)) rfl (Nat.le_of_ble_eq_true rfl) ?_
    refine bv_blk C frk_X9 csk_X9 1 10 rfl (L1 := ([(0, .ref 0), (1, .int (nI s)), (2, .int x), (3, .int t)] : Lc)) (st1 := ([.int t, .int (ptI (g 1 (15 + 20 * s + 0)) (g 1 (15 + 20 * s + 1)) x)] : List Value)) (w1 := (layM g h)) (by rfl) ?_
    refine bv_fS1 C rfl (ct_angle hE _ (ptI (g 1 (15 + 20 * s + 0)) (g 1 (15 + 20 * s + 1)) x) t) ml_X9_82 st_X9_angle ini_X9 cd_X9_angle ok_X9_angle rfl ⟨Nat.le_of_ble_eq_true rfl, Nat.le_of_ble_eq_true rfl⟩ ⟨Nat.zero_le _, Nat.zero_le _⟩ (rest := ([] : List Value)) rfl (Nat.le_of_ble_eq_true rfl) ?_
    refine bv_blk C frk_X9 csk_X9 5 16 rfl (L1 := ([(4, .int (angI (ptI (g 1 (15 + 20 * s + 0)) (g 1 (15 + 20 * s + 1)) x) t)), (0, .ref 0), (1, .int (nI s)), (2, .int x), (3, .int t)] : Lc)) (st1 := ([.int (0), .int (nI s), .ref 0, .int x] : List Value)) (w1 := (layM g h)) (by rfl) ?_
    refine bv_fV1 C rfl (ct_of hE _ _ s 0 (by omega) (by omega)) ml_X9_69 im_X9_of sel_X9_of ini_X9 cd_X9_of ok_X9_of rfl ⟨Nat.le_of_ble_eq_true rfl, Nat.le_of_ble_eq_true rfl⟩ ⟨Nat.zero_le _, Nat.zero_le _⟩ (by decide) rfl rfl rfl (rest := ([.int x] : List Value)) rfl (Nat.le_of_ble_eq_true rfl) ?_
    refine bv_icmp_ge (j := 24) C rfl rfl (fun c2 => ?_) (fun c2 => ?_)
    · refine bv_blk C frk_X9 csk_X9 10 34 rfl (L1 := ([(5, .int ((48) - (((3) * (angI (ptI (g 1 (15 + 20 * s + 0)) (g 1 (15 + 20 * s + 1)) x) t)) * (angI (ptI (g 1 (15 + 20 * s + 0)) (g 1 (15 + 20 * s + 1)) x) t)))), (4, .int (angI (ptI (g 1 (15 + 20 * s + 0)) (g 1 (15 + 20 * s + 1)) x) t)), (0, .ref 0), (1, .int (nI s)), (2, .int x), (3, .int t)] : Lc)) (st1 := ([.int (-40), .int ((48) - (((3) * (angI (ptI (g 1 (15 + 20 * s + 0)) (g 1 (15 + 20 * s + 1)) x) t)) * (angI (ptI (g 1 (15 + 20 * s + 0)) (g 1 (15 + 20 * s + 1)) x) t)))] : List Value)) (w1 := (layM g h)) (by rfl) ?_
      refine bv_icmp_ge (j := 37) C rfl rfl (fun c3 => ?_) (fun c3 => ?_)
      · refine bv_blk C frk_X9 csk_X9 1 38 rfl (L1 := ([(5, .int ((48) - (((3) * (angI (ptI (g 1 (15 + 20 * s + 0)) (g 1 (15 + 20 * s + 1)) x) t)) * (angI (ptI (g 1 (15 + 20 * s + 0)) (g 1 (15 + 20 * s + 1)) x) t)))), (4, .int (angI (ptI (g 1 (15 + 20 * s + 0)) (g 1 (15 + 20 * s + 1)) x) t)), (0, .ref 0), (1, .int (nI s)), (2, .int x), (3, .int t)] : Lc)) (st1 := ([.int ((48) - (((3) * (angI (ptI (g 1 (15 + 20 * s + 0)) (g 1 (15 + 20 * s + 1)) x) t)) * (angI (ptI (g 1 (15 + 20 * s + 0)) (g 1 (15 + 20 * s + 1)) x) t)))] : List Value)) (w1 := (layM g h)) (by rfl) ?_
        exact bv_iret C rfl hr rfl ⟨by (simp only [gaI, c1, c2, c3, if_true, if_false, ↓reduceIte]), by (rfl)⟩
      · refine bv_blk C frk_X9 csk_X9 1 36 rfl (L1 := ([(5, .int ((48) - (((3) * (angI (ptI (g 1 (15 + 20 * s + 0)) (g 1 (15 + 20 * s + 1)) x) t)) * (angI (ptI (g 1 (15 + 20 * s + 0)) (g 1 (15 + 20 * s + 1)) x) t)))), (4, .int (angI (ptI (g 1 (15 + 20 * s + 0)) (g 1 (15 + 20 * s + 1)) x) t)), (0, .ref 0), (1, .int (nI s)), (2, .int x), (3, .int t)] : Lc)) (st1 := ([.int (-40)] : List Value)) (w1 := (layM g h)) (by rfl) ?_
        refine bv_goto (j := 38) C rfl rfl ?_
        exact bv_iret C rfl hr rfl ⟨by (simp only [gaI, c1, c2, c3, if_true, if_false, ↓reduceIte]), by (rfl)⟩
    · refine bv_blk C frk_X9 csk_X9 5 23 rfl (L1 := ([(4, .int (angI (ptI (g 1 (15 + 20 * s + 0)) (g 1 (15 + 20 * s + 1)) x) t)), (0, .ref 0), (1, .int (nI s)), (2, .int x), (3, .int t)] : Lc)) (st1 := ([.int ((36) - ((angI (ptI (g 1 (15 + 20 * s + 0)) (g 1 (15 + 20 * s + 1)) x) t) * (angI (ptI (g 1 (15 + 20 * s + 0)) (g 1 (15 + 20 * s + 1)) x) t)))] : List Value)) (w1 := (layM g h)) (by rfl) ?_
      refine bv_goto (j := 31) C rfl rfl ?_
      refine bv_blk C frk_X9 csk_X9 3 34 rfl (L1 := ([(5, .int ((36) - ((angI (ptI (g 1 (15 + 20 * s + 0)) (g 1 (15 + 20 * s + 1)) x) t) * (angI (ptI (g 1 (15 + 20 * s + 0)) (g 1 (15 + 20 * s + 1)) x) t)))), (4, .int (angI (ptI (g 1 (15 + 20 * s + 0)) (g 1 (15 + 20 * s + 1)) x) t)), (0, .ref 0), (1, .int (nI s)), (2, .int x), (3, .int t)] : Lc)) (st1 := ([.int (-40), .int ((36) - ((angI (ptI (g 1 (15 + 20 * s + 0)) (g 1 (15 + 20 * s + 1)) x) t) * (angI (ptI (g 1 (15 + 20 * s + 0)) (g 1 (15 + 20 * s + 1)) x) t)))] : List Value)) (w1 := (layM g h)) (by rfl) ?_
      refine bv_icmp_ge (j := 37) C rfl rfl (fun c4 => ?_) (fun c4 => ?_)
      · refine bv_blk C frk_X9 csk_X9 1 38 rfl (L1 := ([(5, .int ((36) - ((angI (ptI (g 1 (15 + 20 * s + 0)) (g 1 (15 + 20 * s + 1)) x) t) * (angI (ptI (g 1 (15 + 20 * s + 0)) (g 1 (15 + 20 * s + 1)) x) t)))), (4, .int (angI (ptI (g 1 (15 + 20 * s + 0)) (g 1 (15 + 20 * s + 1)) x) t)), (0, .ref 0), (1, .int (nI s)), (2, .int x), (3, .int t)] : Lc)) (st1 := ([.int ((36) - ((angI (ptI (g 1 (15 + 20 * s + 0)) (g 1 (15 + 20 * s + 1)) x) t) * (angI (ptI (g 1 (15 + 20 * s + 0)) (g 1 (15 + 20 * s + 1)) x) t)))] : List Value)) (w1 := (layM g h)) (by rfl) ?_
        exact bv_iret C rfl hr rfl ⟨by (simp only [gaI, c1, c2, c4, if_true, if_false, ↓reduceIte]), by (rfl)⟩
      · refine bv_blk C frk_X9 csk_X9 1 36 rfl (L1 := ([(5, .int ((36) - ((angI (ptI (g 1 (15 + 20 * s + 0)) (g 1 (15 + 20 * s + 1)) x) t) * (angI (ptI (g 1 (15 + 20 * s + 0)) (g 1 (15 + 20 * s + 1)) x) t)))), (4, .int (angI (ptI (g 1 (15 + 20 * s + 0)) (g 1 (15 + 20 * s + 1)) x) t)), (0, .ref 0), (1, .int (nI s)), (2, .int x), (3, .int t)] : Lc)) (st1 := ([.int (-40)] : List Value)) (w1 := (layM g h)) (by rfl) ?_
        refine bv_goto (j := 38) C rfl rfl ?_
        exact bv_iret C rfl hr rfl ⟨by (simp only [gaI, c1, c2, c4, if_true, if_false, ↓reduceIte]), by (rfl)⟩
  · refine bv_blk C frk_X9 csk_X9 1 4 rfl (L1 := ([(0, .ref 0), (1, .int (nI s)), (2, .int x), (3, .int t)] : Lc)) (st1 := ([.int (0)] : List Value)) (w1 := (layM g h)) (by rfl) ?_
    exact bv_iret C rfl hr rfl ⟨by (simp only [gaI, c1, if_true, if_false, ↓reduceIte]), by (rfl)⟩
