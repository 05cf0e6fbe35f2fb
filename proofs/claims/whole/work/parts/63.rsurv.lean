theorem ug_at {g : Nat → Nat → Int32} {i k b : Nat} {x : Int32} : ug g i k x i b = if b = k then x else g i b := by
  unfold ug
  rw [if_pos rfl]
def cntN (t : Nat → Int32) : Nat → Nat
  | 0 => 0
  | m + 1 => cntN t m + if t m = -100000 then 0 else 1
theorem cnt_le {t : Nat → Int32} : ∀ m, cntN t m ≤ m := by
  intro m
  induction m with
  | zero => exact Nat.le_refl _
  | succ m ih =>
    unfold cntN
    split <;> omega
theorem cnt_0 {t : Nat → Int32} : ∀ m, cntN t m = 0 → ∀ k, k < m → t k = -100000 := by
  intro m
  induction m with
  | zero => intro _ k hk; omega
  | succ m ih =>
    intro h k hk
    unfold cntN at h
    by_cases c : t m = -100000
    · by_cases e : k = m
      · rw [e]; exact c
      · exact ih (by omega) k (by omega)
    · rw [if_neg c] at h
      omega
theorem cnt_up {t t' : Nat → Int32} {k : Nat} (h : ∀ j, t' j = if j = k then -100000 else t j) (hk : ¬ t k = -100000) : ∀ m, (m ≤ k → cntN t' m = cntN t m) ∧ (k < m → cntN t' m + 1 = cntN t m) := by
  intro m
  induction m with
  | zero => exact ⟨fun _ => rfl, fun z => by omega⟩
  | succ m ih =>
    refine ⟨fun z => ?_, fun z => ?_⟩
    · unfold cntN
      rw [ih.1 (by omega), h m, if_neg (show ¬ m = k by omega)]
    · unfold cntN
      by_cases e : m = k
      · rw [ih.1 (by omega), h m, if_pos e, if_pos rfl, e, if_neg hk]
      · have z1 := ih.2 (by omega)
        rw [h m, if_neg e]
        omega
theorem blF_some {t : Nat → Int32} {r : Nat} : ∀ n k o, k + n = 256 → (∀ b, o = some b → b < 256 ∧ ¬ t b = -100000) → blF t n k o = some r → r < 256 ∧ ¬ t r = -100000 := by
  intro n
  induction n with
  | zero => intro k o _ ho h; exact ho r h
  | succ n ih =>
    intro k o hk ho h
    refine ih (k + 1) (blS t k o) (by omega) ?_ h
    intro b hb
    unfold blS at hb
    by_cases c : t k = -100000
    · rw [if_pos c] at hb
      exact ho b hb
    · rw [if_neg c] at hb
      cases o with
      | none => cases hb; exact ⟨by omega, c⟩
      | some q =>
        by_cases c2 : t k ≤ t q
        · simp only [c2, if_true, ↓reduceIte] at hb
          exact ho b hb
        · simp only [c2, if_false, ↓reduceIte] at hb
          cases hb
          exact ⟨by omega, c⟩
def gdA (k b : Nat) (g : Nat → Nat → Int32) : Nat → Nat → Int32 := ug (ug (ug (ug g 1 (103 + 3 * b) (nI k / 16)) 1 (103 + 3 * b + 1) (nI k - nI k / 16 * 16)) 1 (103 + 3 * b + 2) (g 4 k)) 1 13 (nI (b + 1))
def gdF (sep : Int32) (k b : Nat) (g : Nat → Nat → Int32) : Bool := frF g (nI k / 16) (nI k - nI k / 16 * 16) sep b 0 (frA g (nI k / 16) (nI k - nI k / 16 * 16) sep (g 1 18) (g 1 38))
def gdL (sep : Int32) : Nat → (Nat → Nat → Int32) → Nat → Nat → Int32
  | 0, g => g
  | f + 1, g => match blF (g 4) 256 0 none with
    | none => g
    | some k => if g 1 13 < 3 then gdL sep f (ug (if gdF sep k (g 1 13).toNatClampNeg g = true then gdA k (g 1 13).toNatClampNeg g else g) 4 k (-100000)) else g
theorem gd_n {sep : Int32} {f : Nat} {g : Nat → Nat → Int32} (h : blF (g 4) 256 0 none = none) : gdL sep (f + 1) g = g := by
  unfold gdL
  rw [h]
theorem gd_f {sep : Int32} {f k b : Nat} {g : Nat → Nat → Int32} (h : blF (g 4) 256 0 none = some k) (hb : g 1 13 = nI b) (h3 : b = 3) : gdL sep (f + 1) g = g := by
  unfold gdL
  rw [h]
  dsimp only
  rw [hb, h3, if_neg (by decide)]
theorem gd_s {sep : Int32} {f k b : Nat} {g : Nat → Nat → Int32} (h : blF (g 4) 256 0 none = some k) (hb : g 1 13 = nI b) (h3 : b < 3) : gdL sep (f + 1) g = gdL sep f (ug (if gdF sep k b g = true then gdA k b g else g) 4 k (-100000)) := by
  rw [gdL]
  rw [h]
  dsimp only
  rw [hb, if_pos (show nI b < 3 from nI_lt (a := b) (b := 3) h3 (by omega)), nI_clamp (by omega)]
def flP (g : Nat → Nat → Int32) (k : Nat) : Nat → Nat → Int32 := fun a b => if a = 4 ∧ b < k then -100000 else g a b
theorem flP_0 {g : Nat → Nat → Int32} : flP g 0 = g := by
  funext a b
  exact if_neg (by omega)
theorem flP_s {g : Nat → Nat → Int32} {k : Nat} : flP g (k + 1) = ug (flP g k) 4 k (-100000) := by
  funext a b
  show (if a = 4 ∧ b < k + 1 then (-100000 : Int32) else g a b) = (if a = 4 then (if b = k then (-100000 : Int32) else (if a = 4 ∧ b < k then (-100000 : Int32) else g a b)) else (if a = 4 ∧ b < k then (-100000 : Int32) else g a b))
  by_cases h1 : a = 4
  · rw [if_pos h1]
    by_cases h2 : b = k
    · rw [if_pos h2, if_pos (show a = 4 ∧ b < k + 1 from ⟨h1, by omega⟩)]
    · rw [if_neg h2]
      by_cases h3 : b < k
      · rw [if_pos (show a = 4 ∧ b < k from ⟨h1, h3⟩), if_pos (show a = 4 ∧ b < k + 1 from ⟨h1, by omega⟩)]
      · rw [if_neg (show ¬ (a = 4 ∧ b < k) by omega), if_neg (show ¬ (a = 4 ∧ b < k + 1) by omega)]
  · rw [if_neg h1, if_neg (show ¬ (a = 4 ∧ b < k) by omega), if_neg (show ¬ (a = 4 ∧ b < k + 1) by omega)]
theorem kp_flP {g : Nat → Nat → Int32} {k : Nat} : kept g (flP g k) := fun j _ => if_neg (by omega)
def svyI (n S0 S1 : Nat) (g : Nat → Nat → Int32) : Nat → Nat → Int32 := ug (fbO n S1 S0 0 (flP (svG g) 256)) 1 13 0
def svyW (n S0 S1 : Nat) (sep : Int32) (g : Nat → Nat → Int32) : Nat → Nat → Int32 := gdL sep 257 (svyI n S0 S1 g)
set_option maxRecDepth 100000 in
set_option maxHeartbeats 8000000 in
theorem ct_survey {l : Launch} {D : va_G} {cA : FieldType → ClassId} {z0 : Nat} {SK SV : Nat → Nat} {ad : Nat → Nat} (hE : aD (fun q => z0 ≤ q) ad 9) (g : Nat → Nat → Int32) (h : Int64) (n S0 S1 : Nat) (sep : Int32) (hs : statR g n) (hv : svK g) (hS0 : g 1 15 = nI S0) (hS1 : g 1 35 = nI S1) (hA : S0 ≤ 16) (hC : S1 ≤ 16) : bF l D cA z0 SK SV ad shM 9 yX9_survey cX9_survey 5 (some .int) 7 [.ref 0, .int sep] (layM g h) (some (.int (if (1 : Int32) ≤ sep ∧ sep ≤ 32 then (svyW n S0 S1 sep g) 1 13 else (-100002)))) (layM (if (1 : Int32) ≤ sep ∧ sep ≤ 32 then (svyW n S0 S1 sep g) else g) h) := by
  refine bCT_intro (tb := tb_X9_survey) (own := RX9) hE pn_X9 rfl tk_X9_survey rfl (Nat.le_of_ble_eq_true rfl) ?_
  intro p e s0 m args below meth c C hr
  refine bv_blk C frk_X9 csk_X9 4 4 rfl (L1 := ([(0, .ref 0), (1, .int sep)] : Lc)) (st1 := ([.long (32), .long (1), .long (Int32.toInt64 sep)] : List Value)) (w1 := (layM g h)) (by rfl) ?_
  by_cases c1 : ((1) ≤ sep ∧ sep ≤ (32))
  · refine bv_fS1 C rfl (ct_in_t hE _ (x := sep) (lo := (1)) (hi := (32)) c1) ml_X9_65 st_X9_in ini_X9 cd_X9_in ok_X9_in rfl ⟨Nat.le_of_ble_eq_true rfl, Nat.le_of_ble_eq_true rfl⟩ ⟨Nat.zero_le _, Nat.zero_le _⟩ (rest := ([] : List Value)) rfl (Nat.le_of_ble_eq_true rfl) ?_
    refine bv_if_ne (j := 8) C rfl rfl (fun _ => ?_) (fun h => absurd h (by decide))
    refine bv_blk C frk_X9 csk_X9 1 9 rfl (L1 := ([(0, .ref 0), (1, .int sep)] : Lc)) (st1 := ([.ref 0] : List Value)) (w1 := (layM g h)) (by rfl) ?_
    refine bv_fV0 C rfl (ct_savesA hE g _ hv) ml_X9_134 im_X9_saves sel_X9_saves ini_X9 cd_X9_saves ok_X9_saves rfl ⟨Nat.le_of_ble_eq_true rfl, Nat.le_of_ble_eq_true rfl⟩ ⟨Nat.zero_le _, Nat.zero_le _⟩ (by decide) rfl rfl rfl (rest := ([] : List Value)) rfl (Nat.le_of_ble_eq_true rfl) ?_
    obtain ⟨v1, ev1⟩ : ∃ x : Nat → Nat → Int32, x = (svG g) := ⟨_, rfl⟩
    have kp_v1 : kept g v1 := by rw [ev1]; exact (kp_sv (kp_rf _))
    refine bv_weq (show (layM (svG g) h) = (layM v1 h) from by rw [ev1]) ?_
    have hv0 : v1 1 15 = nI S0 := by rw [ev1]; exact (kp_sv (kp_rf g) 15 (by unfold stK; omega)).trans hS0
    have hv1 : v1 1 35 = nI S1 := by rw [ev1]; exact (kp_sv (kp_rf g) 35 (by unfold stK; omega)).trans hS1
    refine bv_blk C frk_X9 csk_X9 2 12 rfl (L1 := ([(2, .int (0)), (0, .ref 0), (1, .int sep)] : Lc)) (st1 := ([] : List Value)) (w1 := (layM v1 h)) (by rfl) ?_
    have lp_f : ∀ (n_f k_f : Nat), 0 ≤ k_f → k_f + n_f = 256 → bV p l e (bR 7) s0 m args below meth c D cA shM (adA ad 9) 5 tb_X9_survey (MQ below (bQ D cA ad shM 9 (fun r w1 => r = (some (.int (if (1 : Int32) ≤ sep ∧ sep ≤ 32 then (svyW n S0 S1 sep g) 1 13 else (-100002)))) ∧ w1 = (layM (if (1 : Int32) ≤ sep ∧ sep ≤ 32 then (svyW n S0 S1 sep g) else g) h))) args s0 0 0 (adA ad 9)) ad 9 0 0 (layM (flP v1 k_f) h) 12 ([(2, .int (nI k_f)), (0, .ref 0), (1, .int sep)] : Lc) ([] : List Value) := by
      intro n_f
      induction n_f with
      | zero =>
        intro k_f hs_f hk_f
        have hkB_f : k_f = 256 := by omega
        rw [hkB_f]
        refine bv_blk C frk_X9 csk_X9 2 14 rfl (L1 := ([(2, .int (nI 256)), (0, .ref 0), (1, .int sep)] : Lc)) (st1 := ([.int (256), .int (nI 256)] : List Value)) (w1 := (layM (flP v1 256) h)) (by rfl) ?_
        refine bv_icmp_ge (j := 22) C rfl rfl (fun _ => ?_) (fun h => absurd (nI_le (a := 256) (b := 256) (by omega) (by omega)) h)
        refine bv_blk C frk_X9 csk_X9 2 24 rfl (L1 := ([(2, .int (0)), (0, .ref 0), (1, .int sep)] : Lc)) (st1 := ([] : List Value)) (w1 := (layM (flP v1 256) h)) (by rfl) ?_
        have lpO : ∀ (r9 i9 : Nat) (gg : Nat → Nat → Int32) , i9 + r9 = S0 → statR gg n → gg 1 15 = nI S0 → gg 1 35 = nI S1 → fbO n S1 r9 i9 gg = fbO n S1 S0 0 (flP v1 256) → bV p l e (bR 7) s0 m args below meth c D cA shM (adA ad 9) 5 tb_X9_survey (MQ below (bQ D cA ad shM 9 (fun r w1 => r = (some (.int (if (1 : Int32) ≤ sep ∧ sep ≤ 32 then (svyW n S0 S1 sep g) 1 13 else (-100002)))) ∧ w1 = (layM (if (1 : Int32) ≤ sep ∧ sep ≤ 32 then (svyW n S0 S1 sep g) else g) h))) args s0 0 0 (adA ad 9)) ad 9 0 0 (layM gg h) 24 ([(2, .int (nI i9)), (0, .ref 0), (1, .int sep)] : Lc) ([] : List Value) := by
          intro r9
          induction r9 with
          | zero =>
            intro i9 gg hi9 hs hg0 hg1 heq
            rw [fbO_0] at heq
            refine bv_blk C frk_X9 csk_X9 4 28 rfl (L1 := ([(2, .int (nI i9)), (0, .ref 0), (1, .int sep)] : Lc)) (st1 := ([.int (0), .int (0), .ref 0, .int (nI i9)] : List Value)) (w1 := (layM gg h)) (by rfl) ?_
            refine bv_fV1 C rfl (ct_of hE _ _ 0 0 (by omega) (by omega)) ml_X9_69 im_X9_of sel_X9_of ini_X9 cd_X9_of ok_X9_of rfl ⟨Nat.le_of_ble_eq_true rfl, Nat.le_of_ble_eq_true rfl⟩ ⟨Nat.zero_le _, Nat.zero_le _⟩ (by decide) rfl rfl rfl (rest := ([.int (nI i9)] : List Value)) rfl (Nat.le_of_ble_eq_true rfl) ?_
            refine bv_icmp_ge (j := 63) C rfl rfl (fun _ => ?_) (fun h => absurd (by rw [show (gg 1 15) = nI S0 from hg0]; exact (nI_le (a := S0) (b := i9) (by omega) (by omega))) h)
            refine bv_blk C frk_X9 csk_X9 4 67 rfl (L1 := ([(2, .int (nI i9)), (0, .ref 0), (1, .int sep)] : Lc)) (st1 := ([.int (0), .int (13), .ref 1] : List Value)) (w1 := (layM gg h)) (by rfl) ?_
            refine bv_iast C rfl rfl (by decide) (j := 13) (by exact rfl) (by first | decide | omega) (by decide) ?_
            rw [lm_up rfl]
            refine bv_blk C frk_X9 csk_X9 1 69 rfl (L1 := ([(2, .int (nI i9)), (0, .ref 0), (1, .int sep)] : Lc)) (st1 := ([.ref 0] : List Value)) (w1 := (layM (ug gg 1 13 (0)) h)) (by rfl) ?_
            refine bv_fV1 C rfl (ct_bestLeft hE _ _) ml_X9_156 im_X9_bestLeft sel_X9_bestLeft ini_X9 cd_X9_bestLeft ok_X9_bestLeft rfl ⟨Nat.le_of_ble_eq_true rfl, Nat.le_of_ble_eq_true rfl⟩ ⟨Nat.zero_le _, Nat.zero_le _⟩ (by decide) rfl rfl rfl (rest := ([] : List Value)) rfl (Nat.le_of_ble_eq_true rfl) ?_
            refine bv_blk C frk_X9 csk_X9 1 71 rfl (L1 := ([(2, .int (bi (blF ((ug gg 1 13 (0)) 4) 256 0 none))), (0, .ref 0), (1, .int sep)] : Lc)) (st1 := ([] : List Value)) (w1 := (layM (ug gg 1 13 (0)) h)) (by rfl) ?_
            have hi1 : (ug gg 1 13 (0)) = svyI n S0 S1 g := by rw [heq, ev1]; rfl
            have hsI : statR (ug gg 1 13 (0)) n := (st_same (kp_ug (i := 1) (k := 13) (x := (0)) (by omega) (kp_rf _)) hs)
            have lp : ∀ (f b : Nat) (vv : Nat → Nat → Int32), cntN (vv 4) 256 ≤ f → statR vv n → vv 1 13 = nI b → b ≤ 3 → gdL sep (f + 1) vv = (gdL sep 257 (svyI n S0 S1 g)) → bV p l e (bR 7) s0 m args below meth c D cA shM (adA ad 9) 5 tb_X9_survey (MQ below (bQ D cA ad shM 9 (fun r w1 => r = (some (.int (if (1 : Int32) ≤ sep ∧ sep ≤ 32 then (svyW n S0 S1 sep g) 1 13 else (-100002)))) ∧ w1 = (layM (if (1 : Int32) ≤ sep ∧ sep ≤ 32 then (svyW n S0 S1 sep g) else g) h))) args s0 0 0 (adA ad 9)) ad 9 0 0 (layM vv h) 71 ([(2, .int (bi (blF (vv 4) 256 0 none))), (0, .ref 0), (1, .int sep)] : Lc) ([] : List Value) := by
              intro f
              induction f with
              | zero =>
                intro b vv hc hs hb hb3 heq2
                cases hbl : blF (vv 4) 256 0 none with
                | none =>
                  rw [gd_n hbl] at heq2
                  refine bv_blk C frk_X9 csk_X9 1 72 rfl (L1 := ([(2, .int (-1)), (0, .ref 0), (1, .int sep)] : Lc)) (st1 := ([.int (-1)] : List Value)) (w1 := (layM vv h)) (by rfl) ?_
                  refine bv_if_lt (j := 141) C rfl rfl (fun _ => ?_) (fun h => absurd h (by decide))
                  refine bv_blk C frk_X9 csk_X9 3 144 rfl (L1 := ([(2, .int (-1)), (0, .ref 0), (1, .int sep)] : Lc)) (st1 := ([.int (13), .ref 1] : List Value)) (w1 := (layM vv h)) (by rfl) ?_
                  refine bv_iald C rfl rfl (by decide) (j := 13) (by exact rfl) (by first | decide | omega) (by decide) (y := (vv 1 13)) (by rfl) ?_
                  exact bv_iret C rfl hr rfl ⟨by (subst ev1; rw [if_pos c1, svyW, ← heq2]), by (subst ev1; rw [if_pos c1, svyW, ← heq2])⟩
                | some k =>
                  obtain ⟨hk, hkv⟩ := blF_some 256 0 none (by omega) (fun _ z => by cases z) hbl
                  exact absurd (cnt_0 256 (by omega) k hk) hkv
              | succ f ih =>
                intro b vv hc hs hb hb3 heq2
                cases hbl : blF (vv 4) 256 0 none with
                | none =>
                  rw [gd_n hbl] at heq2
                  refine bv_blk C frk_X9 csk_X9 1 72 rfl (L1 := ([(2, .int (-1)), (0, .ref 0), (1, .int sep)] : Lc)) (st1 := ([.int (-1)] : List Value)) (w1 := (layM vv h)) (by rfl) ?_
                  refine bv_if_lt (j := 141) C rfl rfl (fun _ => ?_) (fun h => absurd h (by decide))
                  refine bv_blk C frk_X9 csk_X9 3 144 rfl (L1 := ([(2, .int (-1)), (0, .ref 0), (1, .int sep)] : Lc)) (st1 := ([.int (13), .ref 1] : List Value)) (w1 := (layM vv h)) (by rfl) ?_
                  refine bv_iald C rfl rfl (by decide) (j := 13) (by exact rfl) (by first | decide | omega) (by decide) (y := (vv 1 13)) (by rfl) ?_
                  exact bv_iret C rfl hr rfl ⟨by (subst ev1; rw [if_pos c1, svyW, ← heq2]), by (subst ev1; rw [if_pos c1, svyW, ← heq2])⟩
                | some k =>
                  obtain ⟨hk, hkv⟩ := blF_some 256 0 none (by omega) (fun _ z => by cases z) hbl
                  rcases (by omega : b = 3 ∨ b < 3) with h3 | h3
                  · rw [gd_f hbl hb h3] at heq2
                    refine bv_blk C frk_X9 csk_X9 1 72 rfl (L1 := ([(2, .int (nI k)), (0, .ref 0), (1, .int sep)] : Lc)) (st1 := ([.int (nI k)] : List Value)) (w1 := (layM vv h)) (by rfl) ?_
                    refine bv_if_lt (j := 141) C rfl rfl (fun h => absurd h (nI_nlt (a := k) (b := 0) (by omega) (by omega))) (fun _ => ?_)
                    refine bv_blk C frk_X9 csk_X9 3 76 rfl (L1 := ([(2, .int (nI k)), (0, .ref 0), (1, .int sep)] : Lc)) (st1 := ([.int (13), .ref 1] : List Value)) (w1 := (layM vv h)) (by rfl) ?_
                    refine bv_iald C rfl rfl (by decide) (j := 13) (by exact rfl) (by first | decide | omega) (by decide) (y := (vv 1 13)) (by rfl) ?_
                    refine bv_blk C frk_X9 csk_X9 1 78 rfl (L1 := ([(2, .int (nI k)), (0, .ref 0), (1, .int sep)] : Lc)) (st1 := ([.int (3), .int (vv 1 13)] : List Value)) (w1 := (layM vv h)) (by rfl) ?_
                    refine bv_icmp_ge (j := 141) C rfl rfl (fun _ => ?_) (fun h => absurd (by rw [show (vv 1 13) = nI b from hb]; exact (nI_le (a := 3) (b := b) (by omega) (by omega))) h)
                    refine bv_blk C frk_X9 csk_X9 3 144 rfl (L1 := ([(2, .int (nI k)), (0, .ref 0), (1, .int sep)] : Lc)) (st1 := ([.int (13), .ref 1] : List Value)) (w1 := (layM vv h)) (by rfl) ?_
                    refine bv_iald C rfl rfl (by decide) (j := 13) (by exact rfl) (by first | decide | omega) (by decide) (y := (vv 1 13)) (by rfl) ?_
                    exact bv_iret C rfl hr rfl ⟨by (subst ev1; rw [if_pos c1, svyW, ← heq2]), by (subst ev1; rw [if_pos c1, svyW, ← heq2])⟩
                  · rw [gd_s hbl hb h3] at heq2
                    refine bv_blk C frk_X9 csk_X9 1 72 rfl (L1 := ([(2, .int (nI k)), (0, .ref 0), (1, .int sep)] : Lc)) (st1 := ([.int (nI k)] : List Value)) (w1 := (layM vv h)) (by rfl) ?_
                    refine bv_if_lt (j := 141) C rfl rfl (fun h => absurd h (nI_nlt (a := k) (b := 0) (by omega) (by omega))) (fun _ => ?_)
                    refine bv_blk C frk_X9 csk_X9 3 76 rfl (L1 := ([(2, .int (nI k)), (0, .ref 0), (1, .int sep)] : Lc)) (st1 := ([.int (13), .ref 1] : List Value)) (w1 := (layM vv h)) (by rfl) ?_
                    refine bv_iald C rfl rfl (by decide) (j := 13) (by exact rfl) (by first | decide | omega) (by decide) (y := (vv 1 13)) (by rfl) ?_
                    refine bv_blk C frk_X9 csk_X9 1 78 rfl (L1 := ([(2, .int (nI k)), (0, .ref 0), (1, .int sep)] : Lc)) (st1 := ([.int (3), .int (vv 1 13)] : List Value)) (w1 := (layM vv h)) (by rfl) ?_
                    refine bv_icmp_ge (j := 141) C rfl rfl (fun h => absurd h (by rw [show (vv 1 13) = nI b from hb]; exact (nI_ge (a := b) (b := 3) (by omega) (by omega)))) (fun _ => ?_)
                    refine bv_blk C frk_X9 csk_X9 3 82 rfl (L1 := ([(2, .int (nI k)), (0, .ref 0), (1, .int sep)] : Lc)) (st1 := ([.int (16), .int (nI k), .ref 0] : List Value)) (w1 := (layM vv h)) (by rfl) ?_
                    refine bv_idiv C rfl (by decide) ?_
                    refine bv_blk C frk_X9 csk_X9 2 85 rfl (L1 := ([(2, .int (nI k)), (0, .ref 0), (1, .int sep)] : Lc)) (st1 := ([.int (16), .int (nI k), .int ((nI k) / (16)), .ref 0] : List Value)) (w1 := (layM vv h)) (by rfl) ?_
                    refine bv_irem C rfl (by decide) ?_
                    refine bv_blk C frk_X9 csk_X9 1 87 rfl (L1 := ([(2, .int (nI k)), (0, .ref 0), (1, .int sep)] : Lc)) (st1 := ([.int sep, .int ((nI k) - (nI k) / (16) * (16)), .int ((nI k) / (16)), .ref 0] : List Value)) (w1 := (layM vv h)) (by rfl) ?_
                    refine bv_fV1 C rfl (ct_isFree hE vv _ n b ((nI k) / (16)) ((nI k) - (nI k) / (16) * (16)) sep hs hb hb3) ml_X9_160 im_X9_isFree sel_X9_isFree ini_X9 cd_X9_isFree ok_X9_isFree rfl ⟨Nat.le_of_ble_eq_true rfl, Nat.le_of_ble_eq_true rfl⟩ ⟨Nat.zero_le _, Nat.zero_le _⟩ (by decide) rfl rfl rfl (rest := ([] : List Value)) rfl (Nat.le_of_ble_eq_true rfl) ?_
                    refine bv_if_eq (j := 132) C rfl rfl (fun c11 => ?_) (fun c11 => ?_)
                    · refine bv_blk C frk_X9 csk_X9 4 136 rfl (L1 := ([(2, .int (nI k)), (0, .ref 0), (1, .int sep)] : Lc)) (st1 := ([.int (-100000), .int (nI k), .ref 4] : List Value)) (w1 := (layM vv h)) (by rfl) ?_
                      refine bv_iast C rfl rfl (by decide) (j := k) (by exact rfl) (by first | decide | omega) (by decide) ?_
                      rw [lm_up rfl]
                      refine bv_blk C frk_X9 csk_X9 1 138 rfl (L1 := ([(2, .int (nI k)), (0, .ref 0), (1, .int sep)] : Lc)) (st1 := ([.ref 0] : List Value)) (w1 := (layM (ug vv 4 k (-100000)) h)) (by rfl) ?_
                      refine bv_fV1 C rfl (ct_bestLeft hE _ _) ml_X9_156 im_X9_bestLeft sel_X9_bestLeft ini_X9 cd_X9_bestLeft ok_X9_bestLeft rfl ⟨Nat.le_of_ble_eq_true rfl, Nat.le_of_ble_eq_true rfl⟩ ⟨Nat.zero_le _, Nat.zero_le _⟩ (by decide) rfl rfl rfl (rest := ([] : List Value)) rfl (Nat.le_of_ble_eq_true rfl) ?_
                      refine bv_blk C frk_X9 csk_X9 1 140 rfl (L1 := ([(2, .int (bi (blF ((ug vv 4 k (-100000)) 4) 256 0 none))), (0, .ref 0), (1, .int sep)] : Lc)) (st1 := ([] : List Value)) (w1 := (layM (ug vv 4 k (-100000)) h)) (by rfl) ?_
                      refine bv_goto (j := 71) C rfl rfl ?_
                      refine bv_sub [0, 1, 2] (by rfl) ?_
                      rw [if_neg (show ¬ gdF sep k b vv = true from fun z => absurd (z.symm.trans (show gdF sep k b vv = false from b2i_0 c11)) Bool.noConfusion)] at heq2
                      exact ih b (ug vv 4 k (-100000)) (by have := (cnt_up (t := vv 4) (t' := ug vv 4 k (-100000) 4) (k := k) (fun j => ug_at) hkv 256).2 hk; omega) (st_same (kp_ug (by omega) (kp_rf _)) hs) (by rw [ug_ne (by omega)]; exact hb) hb3 heq2
                    · refine bv_blk C frk_X9 csk_X9 5 94 rfl (L1 := ([(2, .int (nI k)), (0, .ref 0), (1, .int sep)] : Lc)) (st1 := ([.int (13), .ref 1, .int (3), .int (103)] : List Value)) (w1 := (layM vv h)) (by rfl) ?_
                      refine bv_iald C rfl rfl (by decide) (j := 13) (by exact rfl) (by first | decide | omega) (by decide) (y := (vv 1 13)) (by rfl) ?_
                      refine bv_blk C frk_X9 csk_X9 8 103 rfl (L1 := ([(3, .int ((103) + ((3) * (vv 1 13)))), (2, .int (nI k)), (0, .ref 0), (1, .int sep)] : Lc)) (st1 := ([.int (16), .int (nI k), .int ((103) + ((3) * (vv 1 13))), .ref 1] : List Value)) (w1 := (layM vv h)) (by rfl) ?_
                      refine bv_idiv C rfl (by decide) ?_
                      refine bv_iast C rfl rfl (by decide) (j := (103 + (3 * b))) (by exact (nIa rfl (nIm rfl hb))) (by first | decide | omega) (by decide) ?_
                      rw [lm_up rfl]
                      refine bv_blk C frk_X9 csk_X9 7 112 rfl (L1 := ([(3, .int ((103) + ((3) * (vv 1 13)))), (2, .int (nI k)), (0, .ref 0), (1, .int sep)] : Lc)) (st1 := ([.int (16), .int (nI k), .int (((103) + ((3) * (vv 1 13))) + (1)), .ref 1] : List Value)) (w1 := (layM (ug vv 1 (103 + (3 * b)) ((nI k) / (16))) h)) (by rfl) ?_
                      refine bv_irem C rfl (by decide) ?_
                      refine bv_iast C rfl rfl (by decide) (j := ((103 + (3 * b)) + 1)) (by exact (nIa (nIa rfl (nIm rfl hb)) rfl)) (by first | decide | omega) (by decide) ?_
                      rw [lm_up rfl]
                      refine bv_blk C frk_X9 csk_X9 8 122 rfl (L1 := ([(3, .int ((103) + ((3) * (vv 1 13)))), (2, .int (nI k)), (0, .ref 0), (1, .int sep)] : Lc)) (st1 := ([.int (nI k), .ref 4, .int (((103) + ((3) * (vv 1 13))) + (2)), .ref 1] : List Value)) (w1 := (layM (ug (ug vv 1 (103 + (3 * b)) ((nI k) / (16))) 1 ((103 + (3 * b)) + 1) ((nI k) - (nI k) / (16) * (16))) h)) (by rfl) ?_
                      refine bv_iald C rfl rfl (by decide) (j := k) (by exact rfl) (by first | decide | omega) (by decide) (y := (vv 4 k)) (by rfl) ?_
                      refine bv_iast C rfl rfl (by decide) (j := ((103 + (3 * b)) + 2)) (by exact (nIa (nIa rfl (nIm rfl hb)) rfl)) (by first | decide | omega) (by decide) ?_
                      rw [lm_up rfl]
                      refine bv_blk C frk_X9 csk_X9 4 128 rfl (L1 := ([(3, .int ((103) + ((3) * (vv 1 13)))), (2, .int (nI k)), (0, .ref 0), (1, .int sep)] : Lc)) (st1 := ([.int (13), .ref 1, .int (13), .ref 1] : List Value)) (w1 := (layM (ug (ug (ug vv 1 (103 + (3 * b)) ((nI k) / (16))) 1 ((103 + (3 * b)) + 1) ((nI k) - (nI k) / (16) * (16))) 1 ((103 + (3 * b)) + 2) (vv 4 k)) h)) (by rfl) ?_
                      refine bv_iald C rfl rfl (by decide) (j := 13) (by exact rfl) (by first | decide | omega) (by decide) (y := ((ug (ug (ug vv 1 (103 + (3 * b)) ((nI k) / (16))) 1 ((103 + (3 * b)) + 1) ((nI k) - (nI k) / (16) * (16))) 1 ((103 + (3 * b)) + 2) (vv 4 k)) 1 13)) (by rfl) ?_
                      refine bv_blk C frk_X9 csk_X9 2 131 rfl (L1 := ([(3, .int ((103) + ((3) * (vv 1 13)))), (2, .int (nI k)), (0, .ref 0), (1, .int sep)] : Lc)) (st1 := ([.int (((ug (ug (ug vv 1 (103 + (3 * b)) ((nI k) / (16))) 1 ((103 + (3 * b)) + 1) ((nI k) - (nI k) / (16) * (16))) 1 ((103 + (3 * b)) + 2) (vv 4 k)) 1 13) + (1)), .int (13), .ref 1] : List Value)) (w1 := (layM (ug (ug (ug vv 1 (103 + (3 * b)) ((nI k) / (16))) 1 ((103 + (3 * b)) + 1) ((nI k) - (nI k) / (16) * (16))) 1 ((103 + (3 * b)) + 2) (vv 4 k)) h)) (by rfl) ?_
                      refine bv_iast C rfl rfl (by decide) (j := 13) (by exact rfl) (by first | decide | omega) (by decide) ?_
                      rw [lm_up rfl]
                      refine bv_blk C frk_X9 csk_X9 4 136 rfl (L1 := ([(3, .int ((103) + ((3) * (vv 1 13)))), (2, .int (nI k)), (0, .ref 0), (1, .int sep)] : Lc)) (st1 := ([.int (-100000), .int (nI k), .ref 4] : List Value)) (w1 := (layM (ug (ug (ug (ug vv 1 (103 + (3 * b)) ((nI k) / (16))) 1 ((103 + (3 * b)) + 1) ((nI k) - (nI k) / (16) * (16))) 1 ((103 + (3 * b)) + 2) (vv 4 k)) 1 13 (((ug (ug (ug vv 1 (103 + (3 * b)) ((nI k) / (16))) 1 ((103 + (3 * b)) + 1) ((nI k) - (nI k) / (16) * (16))) 1 ((103 + (3 * b)) + 2) (vv 4 k)) 1 13) + (1))) h)) (by rfl) ?_
                      refine bv_iast C rfl rfl (by decide) (j := k) (by exact rfl) (by first | decide | omega) (by decide) ?_
                      rw [lm_up rfl]
                      refine bv_blk C frk_X9 csk_X9 1 138 rfl (L1 := ([(3, .int ((103) + ((3) * (vv 1 13)))), (2, .int (nI k)), (0, .ref 0), (1, .int sep)] : Lc)) (st1 := ([.ref 0] : List Value)) (w1 := (layM (ug (ug (ug (ug (ug vv 1 (103 + (3 * b)) ((nI k) / (16))) 1 ((103 + (3 * b)) + 1) ((nI k) - (nI k) / (16) * (16))) 1 ((103 + (3 * b)) + 2) (vv 4 k)) 1 13 (((ug (ug (ug vv 1 (103 + (3 * b)) ((nI k) / (16))) 1 ((103 + (3 * b)) + 1) ((nI k) - (nI k) / (16) * (16))) 1 ((103 + (3 * b)) + 2) (vv 4 k)) 1 13) + (1))) 4 k (-100000)) h)) (by rfl) ?_
                      refine bv_fV1 C rfl (ct_bestLeft hE _ _) ml_X9_156 im_X9_bestLeft sel_X9_bestLeft ini_X9 cd_X9_bestLeft ok_X9_bestLeft rfl ⟨Nat.le_of_ble_eq_true rfl, Nat.le_of_ble_eq_true rfl⟩ ⟨Nat.zero_le _, Nat.zero_le _⟩ (by decide) rfl rfl rfl (rest := ([] : List Value)) rfl (Nat.le_of_ble_eq_true rfl) ?_
                      refine bv_blk C frk_X9 csk_X9 1 140 rfl (L1 := ([(2, .int (bi (blF ((ug (ug (ug (ug (ug vv 1 (103 + (3 * b)) ((nI k) / (16))) 1 ((103 + (3 * b)) + 1) ((nI k) - (nI k) / (16) * (16))) 1 ((103 + (3 * b)) + 2) (vv 4 k)) 1 13 (((ug (ug (ug vv 1 (103 + (3 * b)) ((nI k) / (16))) 1 ((103 + (3 * b)) + 1) ((nI k) - (nI k) / (16) * (16))) 1 ((103 + (3 * b)) + 2) (vv 4 k)) 1 13) + (1))) 4 k (-100000)) 4) 256 0 none))), (3, .int ((103) + ((3) * (vv 1 13)))), (0, .ref 0), (1, .int sep)] : Lc)) (st1 := ([] : List Value)) (w1 := (layM (ug (ug (ug (ug (ug vv 1 (103 + (3 * b)) ((nI k) / (16))) 1 ((103 + (3 * b)) + 1) ((nI k) - (nI k) / (16) * (16))) 1 ((103 + (3 * b)) + 2) (vv 4 k)) 1 13 (((ug (ug (ug vv 1 (103 + (3 * b)) ((nI k) / (16))) 1 ((103 + (3 * b)) + 1) ((nI k) - (nI k) / (16) * (16))) 1 ((103 + (3 * b)) + 2) (vv 4 k)) 1 13) + (1))) 4 k (-100000)) h)) (by rfl) ?_
                      refine bv_goto (j := 71) C rfl rfl ?_
                      refine bv_sub [0, 2, 3] (by rfl) ?_
                      have e13 : (((ug (ug (ug vv 1 (103 + (3 * b)) ((nI k) / (16))) 1 ((103 + (3 * b)) + 1) ((nI k) - (nI k) / (16) * (16))) 1 ((103 + (3 * b)) + 2) (vv 4 k)) 1 13) + (1)) = nI (b + 1) := by rw [ug_ne (by omega), ug_ne (by omega), ug_ne (by omega), hb, nI_1]
                      rw [e13]
                      rw [if_pos (show gdF sep k b vv = true from b2i_1 c11)] at heq2
                      exact ih (b + 1) (ug (gdA k b vv) 4 k (-100000)) (by have := (cnt_up (t := vv 4) (t' := ug (gdA k b vv) 4 k (-100000) 4) (k := k) (fun j => ug_at) hkv 256).2 hk; omega) (st_same (kp_ug (by omega) (kp_ug (by omega) (kp_ug (by omega) (kp_ug (by omega) (kp_ug (by omega) (kp_rf _)))))) hs) (by rw [ug_ne (by omega)]; exact ug_same) (by omega) heq2
            refine bv_sub [0, 1, 2] (by rfl) ?_
            exact lp 256 0 (ug gg 1 13 (0)) (cnt_le 256) hsI (by rw [ug_same]; rfl) (by omega) (by rw [hi1])
          | succ r9 ihO =>
            intro i9 gg hi9 hs hg0 hg1 heq
            rw [fbO_nx] at heq
            refine bv_blk C frk_X9 csk_X9 4 28 rfl (L1 := ([(2, .int (nI i9)), (0, .ref 0), (1, .int sep)] : Lc)) (st1 := ([.int (0), .int (0), .ref 0, .int (nI i9)] : List Value)) (w1 := (layM gg h)) (by rfl) ?_
            refine bv_fV1 C rfl (ct_of hE _ _ 0 0 (by omega) (by omega)) ml_X9_69 im_X9_of sel_X9_of ini_X9 cd_X9_of ok_X9_of rfl ⟨Nat.le_of_ble_eq_true rfl, Nat.le_of_ble_eq_true rfl⟩ ⟨Nat.zero_le _, Nat.zero_le _⟩ (by decide) rfl rfl rfl (rest := ([.int (nI i9)] : List Value)) rfl (Nat.le_of_ble_eq_true rfl) ?_
            refine bv_icmp_ge (j := 63) C rfl rfl (fun h => absurd h (by rw [show (gg 1 15) = nI S0 from hg0]; exact (nI_ge (a := i9) (b := S0) (by omega) (by omega)))) (fun _ => ?_)
            refine bv_blk C frk_X9 csk_X9 2 32 rfl (L1 := ([(3, .int (0)), (2, .int (nI i9)), (0, .ref 0), (1, .int sep)] : Lc)) (st1 := ([] : List Value)) (w1 := (layM gg h)) (by rfl) ?_
            have lpI : ∀ (q9 j9 : Nat) (gg : Nat → Nat → Int32) , j9 + q9 = S1 → statR gg n → gg 1 15 = nI S0 → gg 1 35 = nI S1 → fbO n S1 r9 (i9 + 1) (fbI n i9 q9 j9 gg) = fbO n S1 S0 0 (flP v1 256) → bV p l e (bR 7) s0 m args below meth c D cA shM (adA ad 9) 5 tb_X9_survey (MQ below (bQ D cA ad shM 9 (fun r w1 => r = (some (.int (if (1 : Int32) ≤ sep ∧ sep ≤ 32 then (svyW n S0 S1 sep g) 1 13 else (-100002)))) ∧ w1 = (layM (if (1 : Int32) ≤ sep ∧ sep ≤ 32 then (svyW n S0 S1 sep g) else g) h))) args s0 0 0 (adA ad 9)) ad 9 0 0 (layM gg h) 32 ([(3, .int (nI j9)), (2, .int (nI i9)), (0, .ref 0), (1, .int sep)] : Lc) ([] : List Value) := by
              intro q9
              induction q9 with
              | zero =>
                intro j9 gg hj9 hs hg0 hg1 heq
                rw [fbI_0] at heq
                refine bv_blk C frk_X9 csk_X9 4 36 rfl (L1 := ([(3, .int (nI j9)), (2, .int (nI i9)), (0, .ref 0), (1, .int sep)] : Lc)) (st1 := ([.int (0), .int (1), .ref 0, .int (nI j9)] : List Value)) (w1 := (layM gg h)) (by rfl) ?_
                refine bv_fV1 C rfl (ct_of hE _ _ 1 0 (by omega) (by omega)) ml_X9_69 im_X9_of sel_X9_of ini_X9 cd_X9_of ok_X9_of rfl ⟨Nat.le_of_ble_eq_true rfl, Nat.le_of_ble_eq_true rfl⟩ ⟨Nat.zero_le _, Nat.zero_le _⟩ (by decide) rfl rfl rfl (rest := ([.int (nI j9)] : List Value)) rfl (Nat.le_of_ble_eq_true rfl) ?_
                refine bv_icmp_ge (j := 61) C rfl rfl (fun _ => ?_) (fun h => absurd (by rw [show (gg 1 35) = nI S1 from hg1]; exact (nI_le (a := S1) (b := j9) (by omega) (by omega))) h)
                refine bv_blk C frk_X9 csk_X9 1 62 rfl (L1 := ([(2, .int ((nI i9) + Int32.ofInt 1)), (3, .int (nI j9)), (0, .ref 0), (1, .int sep)] : Lc)) (st1 := ([] : List Value)) (w1 := (layM gg h)) (by rfl) ?_
                rw [show ((nI i9) + Int32.ofInt 1) = nI (i9 + 1) from (nIi rfl)]
                refine bv_goto (j := 24) C rfl rfl ?_
                refine bv_sub [0, 2, 3] (by rfl) ?_
                exact ihO (i9 + 1) gg (by omega) hs hg0 hg1 heq
              | succ q9 ihI =>
                intro j9 gg hj9 hs hg0 hg1 heq
                refine bv_blk C frk_X9 csk_X9 4 36 rfl (L1 := ([(3, .int (nI j9)), (2, .int (nI i9)), (0, .ref 0), (1, .int sep)] : Lc)) (st1 := ([.int (0), .int (1), .ref 0, .int (nI j9)] : List Value)) (w1 := (layM gg h)) (by rfl) ?_
                refine bv_fV1 C rfl (ct_of hE _ _ 1 0 (by omega) (by omega)) ml_X9_69 im_X9_of sel_X9_of ini_X9 cd_X9_of ok_X9_of rfl ⟨Nat.le_of_ble_eq_true rfl, Nat.le_of_ble_eq_true rfl⟩ ⟨Nat.zero_le _, Nat.zero_le _⟩ (by decide) rfl rfl rfl (rest := ([.int (nI j9)] : List Value)) rfl (Nat.le_of_ble_eq_true rfl) ?_
                refine bv_icmp_ge (j := 61) C rfl rfl (fun h => absurd h (by rw [show (gg 1 35) = nI S1 from hg1]; exact (nI_ge (a := j9) (b := S1) (by omega) (by omega)))) (fun _ => ?_)
                refine bv_blk C frk_X9 csk_X9 5 43 rfl (L1 := ([(3, .int (nI j9)), (2, .int (nI i9)), (0, .ref 0), (1, .int sep)] : Lc)) (st1 := ([.int (4), .int (nI j9), .int (nI i9), .int (0), .ref 0] : List Value)) (w1 := (layM gg h)) (by rfl) ?_
                refine bv_fV1 C rfl (ct_sends hE gg _ 0 n (nI i9) (nI j9) (4) (by omega) (okQ_of hs 0 (by omega) _ _) (st_hA hs)) ml_X9_109 im_X9_sends sel_X9_sends ini_X9 cd_X9_sends ok_X9_sends rfl ⟨Nat.le_of_ble_eq_true rfl, Nat.le_of_ble_eq_true rfl⟩ ⟨Nat.zero_le _, Nat.zero_le _⟩ (by decide) rfl rfl rfl (rest := ([] : List Value)) rfl (Nat.le_of_ble_eq_true rfl) ?_
                refine bv_blk C frk_X9 csk_X9 9 53 rfl (L1 := ([(4, .int (b2i (hrdG gg 0 (nI i9) (nI j9) n))), (3, .int (nI j9)), (2, .int (nI i9)), (0, .ref 0), (1, .int sep)] : Lc)) (st1 := ([.int (b2i (hrdG gg 0 (nI i9) (nI j9) n)), .int (((16) * (nI i9)) + (nI j9)), .ref 4] : List Value)) (w1 := (layM (sntG gg 0 (nI i9) (nI j9) (4) n) h)) (by rfl) ?_
                refine bv_if_eq (j := 57) C rfl rfl (fun c15 => ?_) (fun c15 => ?_)
                · refine bv_blk C frk_X9 csk_X9 1 58 rfl (L1 := ([(4, .int (b2i (hrdG gg 0 (nI i9) (nI j9) n))), (3, .int (nI j9)), (2, .int (nI i9)), (0, .ref 0), (1, .int sep)] : Lc)) (st1 := ([.int (-100000), .int (((16) * (nI i9)) + (nI j9)), .ref 4] : List Value)) (w1 := (layM (sntG gg 0 (nI i9) (nI j9) (4) n) h)) (by rfl) ?_
                  refine bv_iast C rfl rfl (by decide) (j := ((16 * i9) + j9)) (by exact (nIa (nIm rfl rfl) rfl)) (by first | decide | omega) (by decide) ?_
                  rw [lm_up rfl]
                  refine bv_blk C frk_X9 csk_X9 1 60 rfl (L1 := ([(3, .int ((nI j9) + Int32.ofInt 1)), (4, .int (b2i (hrdG gg 0 (nI i9) (nI j9) n))), (2, .int (nI i9)), (0, .ref 0), (1, .int sep)] : Lc)) (st1 := ([] : List Value)) (w1 := (layM (ug (sntG gg 0 (nI i9) (nI j9) (4) n) 4 ((16 * i9) + j9) (-100000)) h)) (by rfl) ?_
                  rw [show ((nI j9) + Int32.ofInt 1) = nI (j9 + 1) from (nIi rfl)]
                  refine bv_goto (j := 32) C rfl rfl ?_
                  refine bv_sub [0, 2, 3, 4] (by rfl) ?_
                  refine ihI (j9 + 1) (ug (sntG gg 0 (nI i9) (nI j9) (4) n) 4 ((16 * i9) + j9) (-100000)) (by omega) (st_same (kp_ug (i := 4) (k := ((16 * i9) + j9)) (x := (-100000)) (by omega) (kp_snt (kp_rf _))) hs) (((kp_ug (i := 4) (k := ((16 * i9) + j9)) (x := (-100000)) (by omega) (kp_snt (kp_rf _))) 15 (by unfold stK; omega)).trans hg0) (((kp_ug (i := 4) (k := ((16 * i9) + j9)) (x := (-100000)) (by omega) (kp_snt (kp_rf _))) 35 (by unfold stK; omega)).trans hg1) ?_
                  rw [← heq, fbI_s]; unfold fbS; rw [trn_f (b2i_0 c15)]
                · refine bv_blk C frk_X9 csk_X9 2 56 rfl (L1 := ([(4, .int (b2i (hrdG gg 0 (nI i9) (nI j9) n))), (3, .int (nI j9)), (2, .int (nI i9)), (0, .ref 0), (1, .int sep)] : Lc)) (st1 := ([.int ((sntG gg 0 (nI i9) (nI j9) (4) n) 0 5), .int (((16) * (nI i9)) + (nI j9)), .ref 4] : List Value)) (w1 := (layM (sntG gg 0 (nI i9) (nI j9) (4) n) h)) (by rfl) ?_
                  refine bv_goto (j := 58) C rfl rfl ?_
                  refine bv_iast C rfl rfl (by decide) (j := ((16 * i9) + j9)) (by exact (nIa (nIm rfl rfl) rfl)) (by first | decide | omega) (by decide) ?_
                  rw [lm_up rfl]
                  refine bv_blk C frk_X9 csk_X9 1 60 rfl (L1 := ([(3, .int ((nI j9) + Int32.ofInt 1)), (4, .int (b2i (hrdG gg 0 (nI i9) (nI j9) n))), (2, .int (nI i9)), (0, .ref 0), (1, .int sep)] : Lc)) (st1 := ([] : List Value)) (w1 := (layM (ug (sntG gg 0 (nI i9) (nI j9) (4) n) 4 ((16 * i9) + j9) ((sntG gg 0 (nI i9) (nI j9) (4) n) 0 5)) h)) (by rfl) ?_
                  rw [show ((nI j9) + Int32.ofInt 1) = nI (j9 + 1) from (nIi rfl)]
                  refine bv_goto (j := 32) C rfl rfl ?_
                  refine bv_sub [0, 2, 3, 4] (by rfl) ?_
                  refine ihI (j9 + 1) (ug (sntG gg 0 (nI i9) (nI j9) (4) n) 4 ((16 * i9) + j9) ((sntG gg 0 (nI i9) (nI j9) (4) n) 0 5)) (by omega) (st_same (kp_ug (i := 4) (k := ((16 * i9) + j9)) (x := ((sntG gg 0 (nI i9) (nI j9) (4) n) 0 5)) (by omega) (kp_snt (kp_rf _))) hs) (((kp_ug (i := 4) (k := ((16 * i9) + j9)) (x := ((sntG gg 0 (nI i9) (nI j9) (4) n) 0 5)) (by omega) (kp_snt (kp_rf _))) 15 (by unfold stK; omega)).trans hg0) (((kp_ug (i := 4) (k := ((16 * i9) + j9)) (x := ((sntG gg 0 (nI i9) (nI j9) (4) n) 0 5)) (by omega) (kp_snt (kp_rf _))) 35 (by unfold stK; omega)).trans hg1) ?_
                  rw [← heq, fbI_s]; unfold fbS; rw [trn_t (b2i_1 c15)]; rw [show sntG gg 0 (nI i9) (nI j9) 4 n 0 5 = msrG gg 0 (nI i9) (nI j9) n from ug_same]
            refine bv_sub [0, 1, 2, 3] (by rfl) ?_
            exact lpI S1 0 gg (by omega) hs hg0 hg1 heq
        refine bv_sub [0, 1, 2] (by rfl) ?_
        exact lpO S0 0 (flP v1 256) (by omega) (st_same (kp_tr kp_v1 kp_flP) hs) ((kp_flP 15 (by unfold stK; omega)).trans hv0) ((kp_flP 35 (by unfold stK; omega)).trans hv1) rfl
      | succ n_f ih =>
        intro k_f hs_f hk_f
        refine bv_blk C frk_X9 csk_X9 2 14 rfl (L1 := ([(2, .int (nI k_f)), (0, .ref 0), (1, .int sep)] : Lc)) (st1 := ([.int (256), .int (nI k_f)] : List Value)) (w1 := (layM (flP v1 k_f) h)) (by rfl) ?_
        refine bv_icmp_ge (j := 22) C rfl rfl (fun h => absurd h (nI_ge (a := k_f) (b := 256) (by omega) (by omega))) (fun _ => ?_)
        refine bv_blk C frk_X9 csk_X9 4 19 rfl (L1 := ([(2, .int (nI k_f)), (0, .ref 0), (1, .int sep)] : Lc)) (st1 := ([.int (-100000), .int (nI k_f), .ref 4] : List Value)) (w1 := (layM (flP v1 k_f) h)) (by rfl) ?_
        refine bv_iast C rfl rfl (by decide) (j := k_f) (by exact rfl) (by first | decide | omega) (by decide) ?_
        rw [lm_up rfl]
        refine bv_blk C frk_X9 csk_X9 1 21 rfl (L1 := ([(2, .int ((nI k_f) + Int32.ofInt 1)), (0, .ref 0), (1, .int sep)] : Lc)) (st1 := ([] : List Value)) (w1 := (layM (ug (flP v1 k_f) 4 k_f (-100000)) h)) (by rfl) ?_
        rw [show ((nI k_f) + Int32.ofInt 1) = nI (k_f + 1) from (nIi rfl)]
        refine bv_goto (j := 12) C rfl rfl ?_
        refine bv_weq (show (layM (ug (flP v1 k_f) 4 k_f (-100000)) h) = (layM (flP v1 (k_f + 1)) h) from by exact congrArg (fun x => layM x h) flP_s.symm) ?_
        refine bv_sub [0, 1, 2] (by rfl) ?_
        exact ih (k_f + 1) (by omega) (by omega)
    refine bv_weq (show (layM v1 h) = (layM (flP v1 0) h) from by exact congrArg (fun x => layM x h) flP_0.symm) ?_
    refine bv_sub [0, 1, 2] (by rfl) ?_
    exact lp_f (256 - 0) 0 (Nat.le_refl _) (by omega)
  · refine bv_fS1 C rfl (ct_in_f hE _ (x := sep) (lo := (1)) (hi := (32)) c1) ml_X9_65 st_X9_in ini_X9 cd_X9_in ok_X9_in rfl ⟨Nat.le_of_ble_eq_true rfl, Nat.le_of_ble_eq_true rfl⟩ ⟨Nat.zero_le _, Nat.zero_le _⟩ (rest := ([] : List Value)) rfl (Nat.le_of_ble_eq_true rfl) ?_
    refine bv_if_ne (j := 8) C rfl rfl (fun h => absurd h (by decide)) (fun _ => ?_)
    refine bv_blk C frk_X9 csk_X9 1 7 rfl (L1 := ([(0, .ref 0), (1, .int sep)] : Lc)) (st1 := ([.int (-100002)] : List Value)) (w1 := (layM g h)) (by rfl) ?_
    exact bv_iret C rfl hr rfl ⟨by (rw [if_neg c1]), by (rw [if_neg c1])⟩
