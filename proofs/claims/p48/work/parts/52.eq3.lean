theorem thr_ssS {fr n k : Nat} {g : Nat → Nat → Int32} (hf : fr < 2) (hk : k < 16) (h : thrK g) : thrK (ssS fr n g k) := thr_at h (kf_6 (kf_ssS hf hk))
theorem sw_any {fr n : Nat} (hf : fr < 2) : ∀ (m : Nat) (g : Nat → Nat → Int32) (a : Bool), m ≤ 16 → thrK g → (swpA fr n m (fillG g (19 + 20 * (1 - fr)) m (-100000)) a = false ↔ a = false ∧ ∀ k, k < m → ssG fr n m g 1 (19 + 20 * (1 - fr) + k) = -100000)
  | 0, g, a, _, _ => ⟨fun h => ⟨h, fun k hk => absurd hk (by omega)⟩, fun h => h.1⟩
  | m + 1, g, a, hm, hT => by
    have ht : tbP (19 + 20 * (1 - fr)) (m + 1) := by unfold tbP; omega
    have e := ss_tab (n := n) hf (show m < 16 by omega) g
    unfold swpA
    rw [sw_step hf (by omega), hrd_fill ht hf, sw_any hf m _ _ (by omega) (thr_ssS hf (by omega) hT), Bool.or_eq_false_iff, ← trn_none hT, ← e]
    constructor
    · rintro ⟨⟨h1, h2⟩, h3⟩
      refine ⟨h2, fun k hk => ?_⟩
      rcases Nat.lt_or_ge k m with z | z
      · exact h3 k z
      · rw [show k = m by omega]; exact h1
    · rintro ⟨h1, h2⟩
      exact ⟨⟨h2 m (by omega), h1⟩, fun k hk => h2 k (by omega)⟩
theorem trn_ge {g : Nat → Nat → Int32} {fr n : Nat} {b0 b1 : Int32} (hT : thrK g) : -100000 ≤ trnG g fr b0 b1 n := by
  cases h : hrdG g fr b0 b1 n
  · rw [trn_f h]; exact Int32.le_refl _
  · rw [trn_t h]; exact Int32.le_of_lt (trn_gt hT h)
theorem ss_gt {fr n : Nat} (hf : fr < 2) : ∀ (m : Nat) (g : Nat → Nat → Int32), m ≤ 16 → thrK g → gtN (fun k => ssG fr n m g 1 (19 + 20 * (1 - fr) + k)) m
  | 0, _, _, _ => fun k hk => absurd hk (by omega)
  | m + 1, g, hm, hT => fun k hk => by
    rcases Nat.lt_or_ge k m with z | z
    · exact ss_gt hf m (ssS fr n g m) (by omega) (thr_ssS hf (by omega) hT) k z
    · rw [show k = m by omega]
      show -100000 ≤ ssG fr n (m + 1) g 1 (19 + 20 * (1 - fr) + m)
      rw [ss_tab hf (by omega) g]
      exact trn_ge hT
theorem ss_else {fr n : Nat} {q : Nat} (hq : q ≠ 3 ∧ q ≠ 4 ∧ q ≠ 5 ∧ (q < 19 + 20 * (1 - fr) ∨ 19 + 20 * (1 - fr) + 16 ≤ q)) : ∀ (m : Nat) (g : Nat → Nat → Int32), m ≤ 16 → ssG fr n m g 1 q = g 1 q
  | 0, _, _ => rfl
  | m + 1, g, hm => by
    unfold ssG
    rw [ss_else hq m _ (by omega)]
    unfold ssS sntG
    rw [ug_ne (by omega), ug_ne (by omega), ug_ne (by omega), ug_ne (by omega), ug_ne (by omega)]
theorem bst_cong {t t' : Nat → Int32} : ∀ (n k : Nat) (o : Option Nat), (∀ q, q < k + n → t q = t' q) → (∀ b, o = some b → b < k) → bstF t n k o = bstF t' n k o
  | 0, _, _, _, _ => rfl
  | n + 1, k, o, h, ho => by
    have e : bstS t k o = bstS t' k o := by
      unfold bstS
      rw [h k (by omega)]
      cases o with
      | none => rfl
      | some b =>
        have hb := ho b rfl
        simp only
        rw [h b (by omega)]
    unfold bstF
    rw [e]
    refine bst_cong n (k + 1) _ (fun q hq => h q (by omega)) (fun b hb => ?_)
    unfold bstS at hb
    split at hb
    · exact Nat.lt_succ_of_lt (ho b hb)
    · cases o with
      | none => cases hb; omega
      | some c =>
        simp only at hb
        split at hb
        · cases hb; exact Nat.lt_succ_of_lt (ho b rfl)
        · cases hb; omega
/-- one sweep of the class beside one of the reference -/
theorem sw_one {fr n s : Nat} {g : Nat → Nat → Int32} (hf : fr < 2) (hs : s ≤ 16) (hT : thrK g) (ht : ∀ k, s ≤ k → k < 16 → g 1 (19 + 20 * (1 - fr) + k) = -100000) :
    swpG fr n s (fillG g (19 + 20 * (1 - fr)) 16 (-100000)) = ssG fr n s g ∧
    ((swpA fr n s (fillG g (19 + 20 * (1 - fr)) 16 (-100000)) false = false ∧ ssB fr n s g (-100000) (-100000) = -100000) ∨
     (swpA fr n s (fillG g (19 + 20 * (1 - fr)) 16 (-100000)) false = true ∧ ∃ b : Nat, b < s ∧ ssB fr n s g (-100000) (-100000) = nI b ∧ bi (bstF (fun k => ssG fr n s g 1 (19 + 20 * (1 - fr) + k)) s 0 none) = nI b)) := by
  rw [fill_tab hs ht]
  refine ⟨sw_all hf s g hs, ?_⟩
  have ha := sw_any (n := n) hf s g false hs hT
  have hb := ss_best (n := n) hf s g (-100000) (-100000) hs
  obtain ⟨h1, h2⟩ := dn_bst (ss_gt (n := n) hf s g hs hT)
  rw [hb]
  cases ho : bstF (fun k => ssG fr n s g 1 (19 + 20 * (1 - fr) + k)) s 0 none with
  | none =>
    rw [ho] at h1 h2
    exact Or.inl ⟨ha.mpr ⟨rfl, h2⟩, h1⟩
  | some b =>
    rw [ho] at h1 h2
    refine Or.inr ⟨?_, b, h2.1, h1, rfl⟩
    cases hc : swpA fr n s (fillG g (19 + 20 * (1 - fr)) s (-100000)) false with
    | true => rfl
    | false => exact absurd ((ha.mp hc).2 b h2.1) h2.2.1
theorem nI_nn {b : Nat} (h : b < 2 ^ 31) : ¬ nI b = -100000 := fun e => by
  have h1 : (nI b).toInt = (-100000 : Int32).toInt := by rw [e]
  rw [nI_toInt h, show (-100000 : Int32).toInt = -100000 from rfl] at h1
  omega
theorem rs_all {f n : Nat} {S : Nat → Nat} {g : Nat → Nat → Int32} {B1 B2 : Int32} {g1 g2 g3 g4 : Nat → Nat → Int32} (hf : f < 2) (hS : S f ≤ 16) (hS1 : S (1 - f) ≤ 16) (hT : thrK g) (ht : tbK g S)
    (e1 : g1 = ssG f n (S f) g) (e2 : g2 = ssG (1 - f) n (S (1 - f)) g1) (eB1 : B1 = ssB f n (S f) g (-100000) (-100000)) (eB2 : B2 = ssB (1 - f) n (S (1 - f)) g1 (-100000) (-100000))
    (e3 : g3 = sntG (ug g2 1 (18 + 20 * f) B1) f (b0W f B1 (-1)) (b1W f B1 (-1)) 9 n) (e4 : g4 = sntG (ug g3 1 (18 + 20 * (1 - f)) B2) (1 - f) (b0W (1 - f) B2 (-1)) (b1W (1 - f) B2 (-1)) 9 n) :
    (if B1 = -100000 then (1 : Int32) else if B2 = -100000 then 2 else if trnG (ug g2 1 (18 + 20 * f) B1) f (b0W f B1 (-1)) (b1W f B1 (-1)) n = -100000 then 3 else if trnG (ug g3 1 (18 + 20 * (1 - f)) B2) (1 - f) (b0W (1 - f) B2 (-1)) (b1W (1 - f) B2 (-1)) n = -100000 then 4 else 0) = phR f n S g ∧
    (if B1 = -100000 then esG f 1 g1 else if B2 = -100000 then esG f 2 g2 else if trnG (ug g2 1 (18 + 20 * f) B1) f (b0W f B1 (-1)) (b1W f B1 (-1)) n = -100000 then esG f 3 g3 else if trnG (ug g3 1 (18 + 20 * (1 - f)) B2) (1 - f) (b0W (1 - f) B2 (-1)) (b1W (1 - f) B2 (-1)) n = -100000 then esG f 4 g4 else esG f 0 g4) = dswG f n S g := by
  have hff : 1 - (1 - f) = f := by omega
  obtain ⟨p1, p2⟩ := sw_one (n := n) (s := S f) hf hS hT (fun k h1 h2 => ht f hf k h1 h2)
  have T1 : thrK g1 := by rw [e1]; exact thr_at hT (kf_6 (kf_ssG hf _ _ hS (kf_rf g)))
  have ht1 : ∀ k, S (1 - f) ≤ k → k < 16 → g1 1 (19 + 20 * (1 - (1 - f)) + k) = -100000 := fun k h1 h2 => by
    rw [e1, hff, ss_else (by omega) _ _ hS]
    have := ht (1 - f) (by omega) k h1 h2
    rw [hff] at this
    exact this
  obtain ⟨r1, r2⟩ := sw_one (n := n) (s := S (1 - f)) (show 1 - f < 2 by omega) hS1 T1 ht1
  have q1 : phg1 f n S g = g1 := p1.trans e1.symm
  have q2 : phg2 f n S g = g2 := by
    unfold phg2
    rw [q1, e2, ← r1, hff]
  have a1 : pha1 f n S g = swpA f n (S f) (fillG g (19 + 20 * (1 - f)) 16 (-100000)) false := rfl
  have a2 : pha2 f n S g = swpA (1 - f) n (S (1 - f)) (fillG g1 (19 + 20 * (1 - (1 - f))) 16 (-100000)) false := by
    unfold pha2
    rw [q1, hff]
  have T2 : thrK g2 := by rw [e2]; exact thr_at T1 (kf_6 (kf_ssG (by omega) _ _ hS1 (kf_rf g1)))
  unfold dswG phR phW
  rw [a1, a2, q1, q2]
  rcases p2 with ⟨h1, h2⟩ | ⟨h1, b, hb, h2, h3⟩
  · rw [h1, eB1, h2]
    simp only [if_true]
    refine ⟨trivial, ?_⟩
    rw [if_neg (by decide)]
    unfold esG
    rw [if_neg (by decide)]
  · have n1 : ¬ B1 = -100000 := by rw [eB1, h2]; exact nI_nn (by omega)
    rw [h1, if_neg n1, if_neg n1]
    rcases r2 with ⟨u1, u2⟩ | ⟨u1, d, hd, u2, u3⟩
    · rw [u1, eB2, u2]
      simp only [if_true, Bool.true_eq_false, if_false]
      refine ⟨trivial, ?_⟩
      rw [if_neg (by decide)]
      unfold esG
      rw [if_neg (by decide)]
    · have n2 : ¬ B2 = -100000 := by rw [eB2, u2]; exact nI_nn (by omega)
      have b3 : phb3 f n S g = B1 := by
        unfold phb3
        rw [q2, eB1, h2, ← h3]
        congr 1
        refine bst_cong _ _ _ (fun q hq => ?_) (fun b hb => by cases hb)
        rw [show 15 + 20 * (1 - f) + (4 + q) = 19 + 20 * (1 - f) + q by omega, e2, ss_else (by omega) _ _ hS1, e1]
      have q3 : phg3 f n S g = ug g2 1 (18 + 20 * f) B1 := by
        unfold phg3
        rw [q2, b3]
      have T3 : thrK (ug g2 1 (18 + 20 * f) B1) := thr_at T2 (ug_ne (by omega))
      have H3 : phh3 f n S g = hrdG (ug g2 1 (18 + 20 * f) B1) f (b0W f B1 (-1)) (b1W f B1 (-1)) n := by
        unfold phh3
        rw [q3, b3]
      have q4 : phg4 f n S g = g3 := by
        unfold phg4
        rw [q3, b3, e3]
      have b5 : phb5 f n S g = B2 := by
        unfold phb5
        rw [q4, eB2, u2, ← u3]
        congr 1
        refine bst_cong _ _ _ (fun q hq => ?_) (fun b hb => by cases hb)
        rw [show 15 + 20 * f + (4 + q) = 19 + 20 * f + q by omega, e3, hff, ← e2]
        unfold sntG
        rw [ug_ne (by omega), ug_ne (by omega), ug_ne (by omega), ug_ne (by omega), ug_ne (by omega)]
      have q5 : phg5 f n S g = ug g3 1 (18 + 20 * (1 - f)) B2 := by
        unfold phg5
        rw [q4, b5]
      have T4 : thrK (ug g3 1 (18 + 20 * (1 - f)) B2) := thr_at (show thrK g3 by rw [e3]; exact thr_snt T3) (ug_ne (by omega))
      have H5 : phh5 f n S g = hrdG (ug g3 1 (18 + 20 * (1 - f)) B2) (1 - f) (b0W (1 - f) B2 (-1)) (b1W (1 - f) B2 (-1)) n := by
        unfold phh5
        rw [q5, b5]
      have q6 : phg6 f n S g = g4 := by
        unfold phg6
        rw [q5, b5, e4]
      rw [u1, if_neg n2, if_neg n2, H3, H5, q4, q6]
      simp only [Bool.true_eq_false, if_false, ← trn_none T3, ← trn_none T4]
      by_cases c3 : trnG (ug g2 1 (18 + 20 * f) B1) f (b0W f B1 (-1)) (b1W f B1 (-1)) n = -100000
      · simp only [c3, if_true]
        refine ⟨trivial, ?_⟩
        rw [if_neg (by decide)]
        unfold esG
        rw [if_neg (by decide)]
      · simp only [c3, if_false]
        by_cases c4 : trnG (ug g3 1 (18 + 20 * (1 - f)) B2) (1 - f) (b0W (1 - f) B2 (-1)) (b1W (1 - f) B2 (-1)) n = -100000
        · simp only [c4, if_true]
          refine ⟨trivial, ?_⟩
          rw [if_neg (by decide)]
          unfold esG
          rw [if_neg (by decide)]
        · simp only [c4, if_false]
          refine ⟨trivial, ?_⟩
          rw [if_pos trivial]
          unfold esG
          rw [if_pos rfl]
theorem rs_C0 {n : Nat} {S : Nat → Nat} {g : Nat → Nat → Int32} (hS : secK g S) (hT : thrK g) (ht : tbK g S) : cs_runSweep0_r n S g = phR 0 n S g ∧ cs_runSweep0_w n S g = dswG 0 n S g :=
  rs_all (f := 0) (by omega) hS.2.2.2.1 hS.2.2.2.2.2 hT ht rfl rfl rfl rfl rfl rfl
theorem rs_C1 {n : Nat} {S : Nat → Nat} {g : Nat → Nat → Int32} (hS : secK g S) (hT : thrK g) (ht : tbK g S) : cs_runSweep1_r n S g = phR 1 n S g ∧ cs_runSweep1_w n S g = dswG 1 n S g :=
  rs_all (f := 1) (by omega) hS.2.2.2.2.2 hS.2.2.2.1 hT ht rfl rfl rfl rfl rfl rfl
