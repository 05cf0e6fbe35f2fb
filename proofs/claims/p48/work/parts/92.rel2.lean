section RL2
variable {n : Nat} {a0 b0 a b : Nat → Nat → Int32} {S : Nat → Nat}
theorem rl_ph1 (h : rlG n a0 b0 a b) {f : Nat} (hf : f < 2) (hS : S f ≤ 16) : rlG n a0 b0 (phg1 f n S a) (phg1 f n S b) := rl_swpG hf _ hS (rl_fill h (by omega))
theorem rl_pa1 (h : rlG n a0 b0 a b) {f : Nat} (hf : f < 2) (hS : S f ≤ 16) : pha1 f n S b = pha1 f n S a := rl_swpA hf _ hS (rl_fill h (by omega))
theorem rl_ph2 (h : rlG n a0 b0 a b) {f : Nat} (hf : f < 2) (hS : S f ≤ 16) (hS2 : S (1 - f) ≤ 16) : rlG n a0 b0 (phg2 f n S a) (phg2 f n S b) := rl_swpG (by omega) _ hS2 (rl_fill (rl_ph1 h hf hS) (by omega))
theorem rl_pa2 (h : rlG n a0 b0 a b) {f : Nat} (hf : f < 2) (hS : S f ≤ 16) (hS2 : S (1 - f) ≤ 16) : pha2 f n S b = pha2 f n S a := rl_swpA (by omega) _ hS2 (rl_fill (rl_ph1 h hf hS) (by omega))
theorem bstS_eq {t u : Nat → Int32} {z : Nat} (h : ∀ j, j < z → u j = t j) {k : Nat} (hk : k < z) {o : Option Nat} (ho : ∀ b, o = some b → b < z) : bstS u k o = bstS t k o ∧ ∀ b, bstS t k o = some b → b < z := by
  unfold bstS
  rw [h k hk]
  split
  · exact ⟨rfl, ho⟩
  · cases o with
    | none => exact ⟨rfl, fun b e => by cases e; exact hk⟩
    | some x =>
      have hx := ho x rfl
      refine ⟨by simp only [h x hx], fun b e => ?_⟩
      by_cases c2 : t k < t x
      · simp only [if_pos c2] at e
        cases e; exact hx
      · simp only [if_neg c2] at e
        cases e; exact hk
theorem bstF_eq {t u : Nat → Int32} {z : Nat} (h : ∀ j, j < z → u j = t j) : ∀ (m k : Nat) (o : Option Nat), k + m ≤ z → (∀ b, o = some b → b < z) → bstF u m k o = bstF t m k o
  | 0, _, _, _, _ => rfl
  | m + 1, k, o, hk, ho => by
    have e := bstS_eq h (k := k) (by omega) ho
    unfold bstF
    rw [e.1]
    exact bstF_eq h m (k + 1) _ (by omega) e.2
theorem rl_pb3 (h : rlG n a0 b0 a b) {f : Nat} (hf : f < 2) (hS : S f ≤ 16) (hS2 : S (1 - f) ≤ 16) : phb3 f n S b = phb3 f n S a := by
  unfold phb3
  rw [bstF_eq (z := 16) (t := fun k => phg2 f n S a 1 (15 + 20 * (1 - f) + (4 + k))) (fun j hj => (rl_ph2 h hf hS hS2).sc (by omega)) (S f) 0 none (by omega) (fun b e => by cases e)]
theorem rl_ph3 (h : rlG n a0 b0 a b) {f : Nat} (hf : f < 2) (hS : S f ≤ 16) (hS2 : S (1 - f) ≤ 16) : rlG n a0 b0 (phg3 f n S a) (phg3 f n S b) := rl_ug (rl_ph2 h hf hS hS2) (by omega) (by omega) (by omega) (rl_pb3 h hf hS hS2)
theorem rl_pc3 (h : rlG n a0 b0 a b) {f : Nat} (hf : f < 2) (hS : S f ≤ 16) (hS2 : S (1 - f) ≤ 16) : phh3 f n S b = phh3 f n S a := by
  unfold phh3
  rw [rl_pb3 h hf hS hS2, rl_hrd (rl_ph3 h hf hS hS2) hf]
theorem rl_ph4 (h : rlG n a0 b0 a b) {f : Nat} (hf : f < 2) (hS : S f ≤ 16) (hS2 : S (1 - f) ≤ 16) : rlG n a0 b0 (phg4 f n S a) (phg4 f n S b) := by
  unfold phg4
  rw [rl_pb3 h hf hS hS2]
  exact rl_snt (rl_ph3 h hf hS hS2)
theorem rl_pb5 (h : rlG n a0 b0 a b) {f : Nat} (hf : f < 2) (hS : S f ≤ 16) (hS2 : S (1 - f) ≤ 16) : phb5 f n S b = phb5 f n S a := by
  unfold phb5
  rw [bstF_eq (z := 16) (t := fun k => phg4 f n S a 1 (15 + 20 * f + (4 + k))) (fun j hj => (rl_ph4 h hf hS hS2).sc (by omega)) (S (1 - f)) 0 none (by omega) (fun b e => by cases e)]
theorem rl_ph5 (h : rlG n a0 b0 a b) {f : Nat} (hf : f < 2) (hS : S f ≤ 16) (hS2 : S (1 - f) ≤ 16) : rlG n a0 b0 (phg5 f n S a) (phg5 f n S b) := rl_ug (rl_ph4 h hf hS hS2) (by omega) (by omega) (by omega) (rl_pb5 h hf hS hS2)
theorem rl_pc5 (h : rlG n a0 b0 a b) {f : Nat} (hf : f < 2) (hS : S f ≤ 16) (hS2 : S (1 - f) ≤ 16) : phh5 f n S b = phh5 f n S a := by
  unfold phh5
  rw [rl_pb5 h hf hS hS2, rl_hrd (rl_ph5 h hf hS hS2) (by omega)]
theorem rl_ph6 (h : rlG n a0 b0 a b) {f : Nat} (hf : f < 2) (hS : S f ≤ 16) (hS2 : S (1 - f) ≤ 16) : rlG n a0 b0 (phg6 f n S a) (phg6 f n S b) := by
  unfold phg6
  rw [rl_pb5 h hf hS hS2]
  exact rl_snt (rl_ph5 h hf hS hS2)
theorem rl_phR (h : rlG n a0 b0 a b) {f : Nat} (hf : f < 2) (hS : S f ≤ 16) (hS2 : S (1 - f) ≤ 16) : phR f n S b = phR f n S a := by
  unfold phR
  rw [rl_pa1 h hf hS, rl_pa2 h hf hS hS2, rl_pc3 h hf hS hS2, rl_pc5 h hf hS hS2]
theorem rl_phW (h : rlG n a0 b0 a b) {f : Nat} (hf : f < 2) (hS : S f ≤ 16) (hS2 : S (1 - f) ≤ 16) : rlG n a0 b0 (phW f n S a) (phW f n S b) := by
  unfold phW
  rw [rl_pa1 h hf hS, rl_pa2 h hf hS hS2, rl_pc3 h hf hS hS2]
  split
  · exact rl_ph1 h hf hS
  split
  · exact rl_ph2 h hf hS hS2
  split
  · exact rl_ph4 h hf hS hS2
  · exact rl_ph6 h hf hS hS2
theorem rl_dsw (h : rlG n a0 b0 a b) {f : Nat} (hf : f < 2) (hS : S f ≤ 16) (hS2 : S (1 - f) ≤ 16) : rlG n a0 b0 (dswG f n S a) (dswG f n S b) := by
  unfold dswG
  rw [rl_phR h hf hS hS2]
  split
  · exact rl_nte (rl_ug (rl_ug (rl_phW h hf hS hS2) (by omega) (by omega) (by omega) rfl) (by omega) (by omega) (by omega) rfl)
  · exact rl_nte (rl_ug (rl_ug (rl_phW h hf hS hS2) (by omega) (by omega) (by omega) rfl) (by omega) (by omega) (by omega) rfl)
/-! tracking -/
theorem rl_tro (h : rlG n a0 b0 a b) {s : Nat} : tro s b = tro s a := h.sc (by omega)
theorem rl_trlo (h : rlG n a0 b0 a b) {s : Nat} {x : Int32} (hs : s < 2) : trlo s S b x = trlo s S a x := by
  unfold trlo
  rw [h.sc (k := 18 + 20 * s) (by omega)]
theorem rl_tr1 (h : rlG n a0 b0 a b) {s : Nat} (hs : s < 2) : rlG n a0 b0 (tr1 s n a) (tr1 s n b) := by
  unfold tr1 trg
  rw [rl_tro h, h.sc (k := 18 + 20 * s) (by omega)]
  exact rl_snt h
theorem rl_tr2 (h : rlG n a0 b0 a b) {s : Nat} (hs : s < 2) : rlG n a0 b0 (tr2 s n S a) (tr2 s n S b) := by
  unfold tr2 trg
  rw [rl_tro h, rl_trlo h hs]
  exact rl_snt (rl_tr1 h hs)
theorem rl_tr3 (h : rlG n a0 b0 a b) {s : Nat} (hs : s < 2) : rlG n a0 b0 (tr3 s n S a) (tr3 s n S b) := by
  unfold tr3 trg
  rw [rl_tro h, rl_trlo h hs]
  exact rl_snt (rl_tr2 h hs)
theorem rl_t15 (h : rlG n a0 b0 a b) {s : Nat} (hs : s < 2) : tr1 s n b 0 5 = tr1 s n a 0 5 := by
  unfold tr1 trg
  rw [rl_tro h, h.sc (k := 18 + 20 * s) (by omega)]
  exact rl_snt5 h hs
theorem rl_t25 (h : rlG n a0 b0 a b) {s : Nat} (hs : s < 2) : tr2 s n S b 0 5 = tr2 s n S a 0 5 := by
  unfold tr2 trg
  rw [rl_tro h, rl_trlo h hs]
  exact rl_snt5 (rl_tr1 h hs) hs
theorem rl_t35 (h : rlG n a0 b0 a b) {s : Nat} (hs : s < 2) : tr3 s n S b 0 5 = tr3 s n S a 0 5 := by
  unfold tr3 trg
  rw [rl_tro h, rl_trlo h hs]
  exact rl_snt5 (rl_tr2 h hs) hs
theorem rl_th1 (h : rlG n a0 b0 a b) {s : Nat} (hs : s < 2) : trh1 s n b = trh1 s n a := by
  unfold trh1 trh
  rw [rl_tro h, h.sc (k := 18 + 20 * s) (by omega), rl_hrd h hs]
theorem rl_th2 (h : rlG n a0 b0 a b) {s : Nat} (hs : s < 2) : trh2 s n S b = trh2 s n S a := by
  unfold trh2 trh
  rw [rl_tro h, rl_trlo h hs, rl_hrd (rl_tr1 h hs) hs]
theorem rl_th3 (h : rlG n a0 b0 a b) {s : Nat} (hs : s < 2) : trh3 s n S b = trh3 s n S a := by
  unfold trh3 trh
  rw [rl_tro h, rl_trlo h hs, rl_hrd (rl_tr2 h hs) hs]
theorem rl_trk (h : rlG n a0 b0 a b) {s : Nat} (hs : s < 2) : rlG n a0 b0 (trkG s n S a) (trkG s n S b) := by
  have h3 := rl_tr3 (S := S) h hs
  unfold trkG
  rw [rl_th1 h hs, rl_th2 h hs, rl_th3 h hs, rl_t15 h hs, rl_t25 h hs, rl_t35 h hs, h3.sc (k := 9) (by omega), rl_trlo h hs, rl_trlo h hs]
  split
  · exact h3
  split
  · split
    · exact rl_nte (rl_ug h3 (by omega) (by omega) (by omega) rfl)
    · exact h3
  · split
    · exact rl_nte (rl_ug h3 (by omega) (by omega) (by omega) rfl)
    · exact h3
/-! recovery -/
theorem rl_rcS (h : rlG n a0 b0 a b) {q B : Nat} (hB : a 1 13 = nI B) (hB3 : B ≤ 3) (hq : q < B) : rlG n a0 b0 (rcS n q a) (rcS n q b) := by
  unfold rcS
  rw [rl_bk h hB hB3 hq (r := 1) (by omega), show b 1 (103 + 3 * q) = a 1 (103 + 3 * q) from rl_bk h hB hB3 hq (r := 0) (by omega)]
  exact rl_snt h
theorem rcS_13 {y : Nat → Nat → Int32} {q : Nat} : rcS n q y 1 13 = y 1 13 := by
  unfold rcS sntG
  rw [ug_ne (by omega), ug_ne (by omega), ug_ne (by omega), ug_ne (by omega)]
theorem rl_rcT (h : rlG n a0 b0 a b) {q B : Nat} (hB : a 1 13 = nI B) (hB3 : B ≤ 3) (hq : q < B) : rlG n a0 b0 (rcT n q a) (rcT n q b) := by
  have h1 := rl_rcS h hB hB3 hq
  have hB1 : rcS n q a 1 13 = nI B := rcS_13.trans hB
  unfold rcT
  rw [ug_ne (g := rcS n q a) (by omega), ug_ne (g := rcS n q b) (by omega)]
  refine rl_ug (rl_ug h1 (by omega) (by omega) (by omega) ?_) (by omega) (by omega) (by omega) ?_
  · exact rl_bk h1 hB1 hB3 hq (r := 0) (by omega)
  · exact rl_bk h1 hB1 hB3 hq (r := 1) (by omega)
theorem rcT_13 {y : Nat → Nat → Int32} {q : Nat} : rcT n q y 1 13 = y 1 13 := by
  unfold rcT
  rw [ug_ne (by omega), ug_ne (by omega)]
  exact rcS_13
theorem rl_rcF {B : Nat} (hB3 : B ≤ 3) : ∀ (z q : Nat) {a b : Nat → Nat → Int32}, q + z ≤ B → a 1 13 = nI B → rlG n a0 b0 a b → rlG n a0 b0 (rcF n z q a) (rcF n z q b)
  | 0, _, _, _, _, _, h => rl_nte (rl_ug h (by omega) (by omega) (by omega) rfl)
  | z + 1, q, a, b, hq, hB, h => by
    unfold rcF
    rw [rl_bk h hB hB3 (q := q) (by omega) (r := 1) (by omega), show b 1 (103 + 3 * q) = a 1 (103 + 3 * q) from rl_bk h hB hB3 (q := q) (by omega) (r := 0) (by omega), rl_hrd h (by omega)]
    split
    · exact rl_nte (rl_rb (rl_rcT h hB hB3 (by omega)) (rcT_13.trans hB) hB3 (by omega))
    · exact rl_rcF hB3 z (q + 1) (by omega) (rcS_13.trans hB) (rl_rcS h hB hB3 (by omega))
/-! an interval -/
theorem rl_tk1 (h : rlG n a0 b0 a b) : rlG n a0 b0 (tk1 n a) (tk1 n b) := by
  unfold tk1
  rw [h.sc (k := 18) (by omega), h.sc (k := 38) (by omega)]
  exact rl_snt h
theorem rl_tk2 (h : rlG n a0 b0 a b) : rlG n a0 b0 (tk2 n a) (tk2 n b) := by
  have h1 := rl_tk1 h
  unfold tk2
  rw [h1.sc (k := 18) (by omega), h1.sc (k := 38) (by omega)]
  exact rl_snt h1
theorem rl_tka (h : rlG n a0 b0 a b) : tka n b = tka n a := by
  unfold tka
  rw [h.sc (k := 18) (by omega), h.sc (k := 38) (by omega), rl_hrd h (by omega)]
theorem rl_tkb (h : rlG n a0 b0 a b) : tkb n b = tkb n a := by
  have h1 := rl_tk1 h
  unfold tkb
  rw [h1.sc (k := 18) (by omega), h1.sc (k := 38) (by omega), rl_hrd h1 (by omega)]
theorem rl_tkR (h : rlG n a0 b0 a b) : rlG n a0 b0 (tkR n a) (tkR n b) := by
  have h2 := rl_tk2 h
  have e1 := h2.sc (k := 1) (by omega)
  have h3 := rl_ug (k := 1) (x := tk2 n a 1 1 + 1) (y := tk2 n b 1 1 + 1) h2 (by omega) (by omega) (by omega) (by rw [e1])
  unfold tkR
  rw [e1, h2.sc (k := 10) (by omega)]
  rw [e1] at h3
  split
  · exact h3
  · rw [h3.sc (k := 13) (by omega)]
    obtain ⟨B, hB, hB3⟩ := h3.bk
    rw [hB, nI_clamp (by omega)]
    exact rl_rcF hB3 B 0 (by omega) ((ug_ne (by omega)).trans hB) (rl_ug h3 (by omega) (by omega) (by omega) rfl)
theorem rl_tlk (h : rlG n a0 b0 a b) : rlG n a0 b0 (tlkG n a) (tlkG n b) := by
  unfold tlkG
  rw [rl_tka h, rl_tkb h]
  split
  · exact rl_ug (rl_tk2 h) (by omega) (by omega) (by omega) rfl
  · exact rl_tkR h
theorem rl_drf (h : rlG n a0 b0 a b) : rlG n a0 b0 (drfG a n) (drfG b n) := by
  have h8 := h.n8
  have lo : ∀ {y : Nat → Nat → Int32} {k : Nat}, (k < 55 ∨ 103 ≤ k) → drfG y n 1 k = y 1 k := fun {y k} h0 => by
    unfold drfG
    exact if_neg (by omega)
  have hk : ∀ {x y : Nat → Nat → Int32}, keG x y → keG x (drfG y n) := fun {x y} h0 => keG_tr h0 fun i k h1 _ => by
    unfold drfG
    exact if_neg fun ⟨e, _, h3, _⟩ => by have := h1 e; omega
  refine ⟨h8, ⟨fun j hj => ?_, fun j h1 h2 => ?_, fun j h1 h2 => ?_⟩, hk h.ka, hk h.kb, evK_at h.ev (lo (by omega)), bkK_at h.bk (lo (by omega))⟩
  · unfold drfG
    split
    · next c =>
      rw [h.at_ (k := j) (by omega), h.at_ (k := j + 4) (by omega)]
    · exact h.le.1 j hj
  · rw [lo (by omega)] at h2
    rw [lo (by omega), lo (by omega)]; exact h.le.2.1 j h1 h2
  · rw [lo (by omega)] at h2
    rw [lo (by omega), lo (by omega)]; exact h.le.2.2 j h1 h2
theorem rl_ps1 (h : rlG n a0 b0 a b) : rlG n a0 b0 (ps1 n a) (ps1 n b) := by
  unfold ps1
  exact rl_drf (rl_ug h (by omega) (by omega) (by omega) (by rw [h.sc (k := 2) (by omega)]))
theorem rl_psA (h : rlG n a0 b0 a b) : rlG n a0 b0 (psA n S a) (psA n S b) := by
  have h1 := rl_ps1 h
  unfold psA
  rw [h1.sc (k := 0) (by omega), h1.sc (k := 8) (by omega)]
  split
  · exact rl_trk (rl_trk h1 (by omega)) (by omega)
  · exact h1
theorem rl_psB (h : rlG n a0 b0 a b) : rlG n a0 b0 (psB n S a) (psB n S b) := by
  have h1 := rl_psA (S := S) h
  unfold psB
  rw [h1.sc (k := 0) (by omega)]
  split
  · exact rl_tlk h1
  · exact h1
theorem rl_pas (h : rlG n a0 b0 a b) (hS : S 0 ≤ 16) (hS2 : S 1 ≤ 16) : rlG n a0 b0 (pasG n S a) (pasG n S b) := by
  have h1 := rl_psB (S := S) h
  unfold pasG
  rw [h1.sc (k := 0) (by omega), h1.sc (k := 11) (by omega)]
  split
  · exact rl_dsw h1 (by omega) hS hS2
  · exact h1
theorem rl_pasN (h : rlG n a0 b0 a b) (hS : S 0 ≤ 16) (hS2 : S 1 ≤ 16) : ∀ k, rlG n a0 b0 (pasN n S a k) (pasN n S b k)
  | 0 => h
  | k + 1 => by
    unfold pasN
    exact rl_pas (rl_pasN h hS hS2 k) hS hS2
end RL2
