/-! THE TEXT ALIKE: tokens and words -/
def tkJ (g : Nat → Nat → Int32) : Prop := tkI g ∧ cl (g 0 10) = ntB (g 3) (cl (g 0 4)) (cl (g 0 9))
theorem nx_v {g : Nat → Nat → Int32} (h : tkI g) : cl ((nxW g) 0 9) = ntF (g 3) (cl (g 0 4)) (cl (g 0 10)) ∧ cl ((nxW g) 0 10) = ntB (g 3) (cl (g 0 4)) (ntF (g 3) (cl (g 0 4)) (cl (g 0 10))) := by
  have z := tk_cl h
  have hL := z.2.1
  have h1 := ntF_b (t := g 3) z.2.2.2.2.2.1
  have h2 := ntB_b (t := g 3) h1.2
  unfold nxW ntG
  rw [ug_same, ug_ne (by omega), ug_same]
  exact ⟨nI_clamp (by omega), nI_clamp (by omega)⟩
theorem tkJ_nx {g : Nat → Nat → Int32} (h : tkI g) : tkJ (nxW g) := by
  refine ⟨tk_nx h, ?_⟩
  have z := nx_v h
  have e3 : nxW g 3 = g 3 := funext fun k => kq_nx 3 k (by omega)
  rw [z.2, z.1, e3, show nxW g 0 4 = g 0 4 from kq_nx 0 4 (by omega)]
def pairK (w k : Nat) : Prop := bgN (w + 1) - bgN w = sLen.getD k 0 ∧ ∀ j, j < sLen.getD k 0 → letT (bgN w + j) = (sByt.getD k []).getD j 0
theorem pr_00 : pairK 0 0 := ⟨by decide, by decide⟩
theorem pr_11 : pairK 1 1 := ⟨by decide, by decide⟩
theorem pr_25 : pairK 2 5 := ⟨by decide, by decide⟩
theorem pr_32 : pairK 3 2 := ⟨by decide, by decide⟩
theorem pr_43 : pairK 4 3 := ⟨by decide, by decide⟩
theorem pr_54 : pairK 5 4 := ⟨by decide, by decide⟩
theorem wdL_ws {t : Nat → Int32} {f w k : Nat} (hp : pairK w k) : ∀ q j, j + q ≤ sLen.getD k 0 → wdL t f (bgN w) q j = wsL k t f q j
  | 0, _, _ => rfl
  | q + 1, j, h => by
    unfold wdL wsL
    rw [hp.2 j (by omega), wdL_ws hp q (j + 1) (by omega)]
theorem wd_ws {t : Nat → Int32} {f b w k : Nat} (hp : pairK w k) : wdB t w f b = wsB k t f b := by
  unfold wdB wsB
  rw [hp.1]
  by_cases c : b - f = sLen.getD k 0
  · rw [if_pos c, if_pos c, c, wdL_ws hp _ 0 (by omega)]
  · rw [if_neg c, if_neg c]
theorem one_ws {t : Nat → Int32} {Ln f b k : Nat} {x : Int32} (hl : sLen.getD k 0 = 1) (hx : (sByt.getD k []).getD 0 0 = x) (hs : smB x = false) (hd : dgB x = false) (hb : b = ntB t Ln f) (hb2 : b ≤ Ln) : (wsB k t f b = true) = (f < Ln ∧ t f = x) := by
  apply propext
  unfold wsB
  rw [hl]
  constructor
  · intro h
    by_cases c : b - f = 1
    · rw [if_pos c] at h
      refine ⟨by omega, ?_⟩
      unfold wsL at h
      rw [hx] at h
      by_cases c2 : t (f + 0) = x
      · exact c2
      · rw [if_neg c2] at h; cases h
    · rw [if_neg c] at h; cases h
  · rintro ⟨h1, h2⟩
    have hb9 : b = f + 1 := by
      rw [hb]
      unfold ntB
      rw [if_pos h1]
      cases q : Ln - (f + 1) with
      | zero => rfl
      | succ q9 =>
        refine exF_f ?_
        unfold exC
        rw [h2, hs, hd, Bool.false_and, Bool.false_and]
        rfl
    rw [if_pos (by omega)]
    unfold wsL
    rw [hx, show t (f + 0) = x from h2, if_pos rfl]
    rfl
/-! the relation -/
def frsh (g : Nat → Nat → Int32) : Prop := g 1 0 = 0 ∧ g 1 13 = 0 ∧ g 1 14 = 0 ∧ (∀ k, 18 ≤ k → k < 35 → g 1 k = -100000) ∧ ∀ k, 38 ≤ k → k < 55 → g 1 k = -100000
def TR (d : Int32) (c r : Nat → Nat → Int32) : Prop := c 0 20 = -100000 ∧ tkJ c ∧ (∀ k, (k = 4 ∨ k = 9 ∨ k = 10) → r 0 k = c 0 k) ∧ (∀ k, r 3 k = c 3 k) ∧ r 0 12 = d ∧ ∃ (n : Nat) (S : Nat → Nat), invK c n S ∧ r 0 11 = nI n ∧ (d ≠ 0 → leG n c r) ∧ frsh c
def TF (c r : Nat → Nat → Int32) : Prop := c 0 20 = r 0 9 ∧ ¬ c 0 20 = -100000
def OUT (d s : Int32) (c r : Nat → Nat → Int32) : Prop := (¬ s = 0 ∧ TR d c r) ∨ (s = 0 ∧ TF c r)
section TX
variable {d : Int32} {c r c' r' : Nat → Nat → Int32}
theorem TR.t3 (h : TR d c r) : r 3 = c 3 := funext h.2.2.2.1
/-- new places of the text alone -/
theorem TR_mv (h : TR d c r) (hc : ∀ a k, ¬ (a = 0 ∧ (k = 9 ∨ k = 10)) → c' a k = c a k) (hr : ∀ a k, ¬ (a = 0 ∧ (k = 9 ∨ k = 10 ∨ k = 16)) → a ≠ 8 → r' a k = r a k) (hj : tkJ c') (e9 : r' 0 9 = c' 0 9) (e10 : r' 0 10 = c' 0 10) : TR d c' r' := by
  obtain ⟨h1, h2, h3, h4, h5, n, S, h6, h7, h8, h9⟩ := h
  have e1 : ∀ k, c' 1 k = c 1 k := fun k => hc 1 k (by omega)
  have f1 : ∀ k, r' 1 k = r 1 k := fun k => hr 1 k (by omega) (by omega)
  refine ⟨(hc 0 20 (by omega)).trans h1, hj, fun k hk => ?_, fun k => ?_, (hr 0 12 (by omega) (by omega)).trans h5, n, S, inv_le h6 (fun k _ => e1 k), (hr 0 11 (by omega) (by omega)).trans h7, fun hd => ?_, ?_⟩
  · rcases hk with rfl | rfl | rfl
    · rw [hr 0 4 (by omega) (by omega), hc 0 4 (by omega)]; exact h3 4 (by omega)
    · exact e9
    · exact e10
  · rw [hr 3 k (by omega) (by omega), hc 3 k (by omega)]; exact h4 k
  · exact le_cg (inv_n8 h6) (inv_ev h6) (inv_bk h6) (h8 hd) (fun k _ => e1 k) (fun k _ => f1 k)
  · obtain ⟨f1, f2, f3, f4, f5⟩ := h9
    exact ⟨(e1 0).trans f1, (e1 13).trans f2, (e1 14).trans f3, fun k a b => (e1 k).trans (f4 k a b), fun k a b => (e1 k).trans (f5 k a b)⟩
/-- a new row -/
theorem TR_row (h : TR d c r) {n' : Nat} {S' : Nat → Nat} (hc : ∀ a k, a ≠ 1 → c' a k = c a k) (hr : ∀ a k, a ≠ 1 → ¬ (a = 0 ∧ k = 11) → r' a k = r a k) (hi : invK c' n' S') (h11 : r' 0 11 = nI n') (hle : d ≠ 0 → leG n' c' r') (hf : frsh c') : TR d c' r' := by
  obtain ⟨h1, ⟨h2, h2b⟩, h3, h4, h5, -⟩ := h
  have e3 : c' 3 = c 3 := funext fun k => hc 3 k (by omega)
  refine ⟨(hc 0 20 (by omega)).trans h1, ⟨tk_of (fun k => hc 0 k (by omega)) h2, by rw [hc 0 10 (by omega), hc 0 4 (by omega), hc 0 9 (by omega), e3]; exact h2b⟩, fun k hk => ?_, fun k => ?_, (hr 0 12 (by omega) (by omega)).trans h5, n', S', hi, h11, hle, hf⟩
  · rw [hr 0 k (by omega) (by omega), hc 0 k (by omega)]; exact h3 k hk
  · rw [hr 3 k (by omega) (by omega), hc 3 k (by omega)]; exact h4 k
theorem tk_of' (h : TR d c r) : tkI r := by
  obtain ⟨Ln, f, b, z⟩ := h.2.1.1
  exact ⟨Ln, f, b, (h.2.2.1 4 (by omega)).trans z.1, z.2.1, (h.2.2.1 9 (by omega)).trans z.2.2.1, (h.2.2.1 10 (by omega)).trans z.2.2.2.1, z.2.2.2.2⟩
theorem TR_8 (h : TR d c r) {k : Nat} {x : Int32} : TR d c (ug r 8 k x) :=
  TR_mv h (fun _ _ _ => rfl) (fun a b _ h8 => ug_ne (by omega)) h.2.1 ((ug_ne (by omega)).trans (h.2.2.1 9 (by omega))) ((ug_ne (by omega)).trans (h.2.2.1 10 (by omega)))
theorem TR_16 (h : TR d c r) {x : Int32} : TR d c (ug r 0 16 x) :=
  TR_mv h (fun _ _ _ => rfl) (fun a b h9 _ => ug_ne (by omega)) h.2.1 ((ug_ne (by omega)).trans (h.2.2.1 9 (by omega))) ((ug_ne (by omega)).trans (h.2.2.1 10 (by omega)))
theorem TR_nx (h : TR d c r) : TR d (nxW c) (nxW r) := by
  have e4 := h.2.2.1 4 (by omega)
  have e10 := h.2.2.1 10 (by omega)
  refine TR_mv h (fun a k hk => (show nxW c a k = c a k from (ug_ne (by omega)).trans (ug_ne (by omega)))) (fun a k hk _ => kq_nx a k (by omega)) (tkJ_nx h.2.1.1) ?_ ?_
  · unfold nxW ntG
    rw [ug_ne (by omega), ug_same, ug_ne (by omega), ug_same, h.t3, e4, e10]
  · unfold nxW ntG
    rw [ug_same, ug_same, h.t3, e4, e10]
theorem TF_20 (e : c' 0 20 = c 0 20) (h : TF c r) : TF c' r := ⟨e.trans h.1, by rw [e]; exact h.2⟩
theorem tvw_id {lo hi sg : Int32} {g : Nat → Nat → Int32} (h : ¬ g 0 20 = -100000) : tvw lo hi sg g = g := if_neg h
theorem tww_id {k : Nat} {g : Nat → Nat → Int32} (h : ¬ g 0 20 = -100000) : sc_takeWord_w k g = g := if_neg h
theorem twr_id {k : Nat} {g : Nat → Nat → Int32} (h : ¬ g 0 20 = -100000) : sc_takeWord_r k g = 0 := if_neg h
theorem tsw_id {lo hi : Int32} {g : Nat → Nat → Int32} (h : ¬ g 0 20 = -100000) : sc_takeSigned_w lo hi g = g := by
  unfold sc_takeSigned_w sc_takeSigned_v2 sc_takeSigned_v1
  rw [if_pos (twr_id h), tww_id h, tvw_id h]
theorem rj_id {g : Nat → Nat → Int32} (h : ¬ g 0 20 = -100000) : sc_reject_w g = g := if_neg h
theorem nI_nn9 {n : Nat} (h : n < 2 ^ 30) : ¬ nI n = -100000 := by
  intro z
  have h9 := congrArg Int32.toInt z
  rw [nI_toInt (by omega)] at h9
  have e0 : (-100000 : Int32).toInt = -100000 := by decide
  omega
theorem TR.f9 (h : TR d c r) : ¬ c 0 9 = -100000 := by
  have z := tk_cl h.2.1.1
  rw [z.2.2.1]
  exact nI_nn9 (by have := z.2.1; have := z.2.2.2.2.1; have := z.2.2.2.2.2.1; omega)
/-- the class's rejecting -/
theorem TF_rj (h : TR d c r) : TF (ug c 0 20 (c 0 9)) r := by
  have e : ug c 0 20 (c 0 9) 0 20 = c 0 9 := ug_same
  exact ⟨e.trans (h.2.2.1 9 (by omega)).symm, by rw [e]; exact h.f9⟩
/-- a number -/
theorem num {lo hi sg : Int32} (h : TR d c r) : (rdb lo hi sg r = true ∧ TR d (tvw lo hi sg c) (rdw lo hi sg r) ∧ rdw lo hi sg r 0 16 = tvr lo hi sg c ∧ lo ≤ tvr lo hi sg c ∧ tvr lo hi sg c ≤ hi) ∨ (rdb lo hi sg r = false ∧ TF (tvw lo hi sg c) (rdw lo hi sg r)) := by
  have e4 := h.2.2.1 4 (by omega)
  have e9 := h.2.2.1 9 (by omega)
  have e10 := h.2.2.1 10 (by omega)
  have e3 := h.t3
  have eb : rdb lo hi sg r = rdB (c 3) lo hi sg (cl (c 0 4)) (cl (c 0 9)) (cl (c 0 10)) := by
    unfold rdb
    rw [e4, e9, e10, e3]
  by_cases q : rdB (c 3) lo hi sg (cl (c 0 4)) (cl (c 0 9)) (cl (c 0 10)) = true
  · left
    obtain ⟨v, hv⟩ : ∃ v, v = sg * nmF (c 3) (cl (c 0 10) - cl (c 0 9)) (cl (c 0 9)) 0 := ⟨_, rfl⟩
    have eR : tvr lo hi sg c = v := by
      unfold tvr tvR
      rw [if_pos h.1, if_pos q, hv]
    have eW : tvw lo hi sg c = nxW c := by
      unfold tvw tvW
      rw [if_pos h.1, if_pos q]
      rfl
    have eD : rdw lo hi sg r = nxW (ug r 0 16 v) := by
      unfold rdw rdG
      rw [e4, e9, e10, e3, if_pos q, ← hv]
      unfold nxW
      rw [ug_ne (by omega), ug_ne (by omega), e4, e10]
    have ei := rdB_in q
    rw [← hv] at ei
    refine ⟨eb.trans q, by rw [eW, eD]; exact TR_nx (TR_16 h), ?_, by rw [eR]; exact ei.1, by rw [eR]; exact ei.2⟩
    rw [eD, eR]
    unfold nxW ntG
    rw [ug_ne (by omega), ug_ne (by omega), ug_same]
  · right
    have q2 : rdB (c 3) lo hi sg (cl (c 0 4)) (cl (c 0 9)) (cl (c 0 10)) = false := by
      cases z : rdB (c 3) lo hi sg (cl (c 0 4)) (cl (c 0 9)) (cl (c 0 10))
      · rfl
      · exact absurd z q
    have eW : tvw lo hi sg c = ug c 0 20 (c 0 9) := by
      unfold tvw tvW
      rw [if_pos h.1, if_neg q]
    have eD : rdw lo hi sg r = r := by
      unfold rdw rdG
      rw [e4, e9, e10, e3, if_neg q]
    refine ⟨eb.trans q2, ?_⟩
    rw [eW, eD]
    exact TF_rj h
theorem twr_0 {k : Nat} (h : TR d c r) : (sc_takeWord_r k c = 0) = (iwS k c = false) := by
  unfold sc_takeWord_r
  rw [if_pos h.1]
  cases iwS k c
  · exact propext ⟨fun _ => rfl, fun _ => rfl⟩
  · exact propext ⟨fun z => absurd z (by decide), fun z => by cases z⟩
theorem tww_t {k : Nat} (h : TR d c r) (q : iwS k c = true) : sc_takeWord_w k c = nxW c := by
  unfold sc_takeWord_w
  rw [if_pos h.1, q]
  rfl
theorem tww_f {k : Nat} (h : TR d c r) (q : iwS k c = false) : sc_takeWord_w k c = c := by
  unfold sc_takeWord_w
  rw [if_pos h.1, q]
  rfl
theorem iw_eq {w k : Nat} (hp : pairK w k) (h : TR d c r) : iwB w r = iwS k c := by
  unfold iwB iwS
  rw [h.t3, h.2.2.1 9 (by omega), h.2.2.1 10 (by omega)]
  exact wd_ws hp
theorem iw_one {k : Nat} {x : Int32} (hl : sLen.getD k 0 = 1) (hx : (sByt.getD k []).getD 0 0 = x) (hs : smB x = false) (hd : dgB x = false) (h : TR d c r) : (iwS k c = true) = (cl (c 0 9) < cl (c 0 4) ∧ c 3 (cl (c 0 9)) = x) := by
  have z := tk_cl h.2.1.1
  exact one_ws hl hx hs hd h.2.1.2 z.2.2.2.2.2.1
/-- a number with a sign -/
theorem snum {lo hi : Int32} (h : TR d c r) : (rsb lo hi r = true ∧ TR d (sc_takeSigned_w lo hi c) (rsw lo hi r) ∧ rsw lo hi r 0 16 = sc_takeSigned_r lo hi c ∧ lo ≤ sc_takeSigned_r lo hi c ∧ sc_takeSigned_r lo hi c ≤ hi) ∨ (rsb lo hi r = false ∧ TF (sc_takeSigned_w lo hi c) (rsw lo hi r)) := by
  have e4 := h.2.2.1 4 (by omega)
  have e9 := h.2.2.1 9 (by omega)
  have e10 := h.2.2.1 10 (by omega)
  have e3 := h.t3
  have q := iw_one (k := 7) (x := 45) (by decide) (by decide) (by decide) (by decide) h
  by_cases c7 : iwS 7 c = true
  · have c8 : cl (r 0 9) < cl (r 0 4) ∧ r 3 (cl (r 0 9)) = 45 := by
      rw [e4, e9, e3, ← q]; exact c7
    have hn := TR_nx h
    have z := nx_v (g := r) (tk_of' h)
    have eb : rsb lo hi r = rdb lo hi (-1) (nxW r) := by
      unfold rsb rsB rdb
      rw [if_pos c8, z.1, z.2, show nxW r 0 4 = r 0 4 from kq_nx 0 4 (by omega), show nxW r 3 = r 3 from funext fun k => kq_nx 3 k (by omega)]
    have ew : rsw lo hi r = rdw lo hi (-1) (nxW r) := by
      unfold rsw rsG rdw
      rw [if_pos c8, z.1, z.2, show nxW r 0 4 = r 0 4 from kq_nx 0 4 (by omega)]
      rfl
    have er : ¬ sc_takeWord_r 7 c = 0 := by
      rw [show (sc_takeWord_r 7 c = 0) = (iwS 7 c = false) from twr_0 h, c7]
      decide
    have eR : sc_takeSigned_r lo hi c = tvr lo hi (-1) (nxW c) := by
      unfold sc_takeSigned_r sc_takeSigned_v1
      rw [if_neg er, tww_t h c7]
    have eW : sc_takeSigned_w lo hi c = tvw lo hi (-1) (nxW c) := by
      unfold sc_takeSigned_w sc_takeSigned_v3 sc_takeSigned_v1
      rw [if_neg er, tww_t h c7]
    rw [eb, ew, eR, eW]
    exact num hn
  · have c9 : iwS 7 c = false := by
      cases z : iwS 7 c
      · rfl
      · exact absurd z c7
    have c8 : ¬ (cl (r 0 9) < cl (r 0 4) ∧ r 3 (cl (r 0 9)) = 45) := by
      rw [e4, e9, e3, ← q]; exact c7
    have eb : rsb lo hi r = rdb lo hi 1 r := by
      unfold rsb rsB rdb
      rw [if_neg c8]
    have ew : rsw lo hi r = rdw lo hi 1 r := by
      unfold rsw rsG rdw
      rw [if_neg c8]
    have er : sc_takeWord_r 7 c = 0 := by
      rw [show (sc_takeWord_r 7 c = 0) = (iwS 7 c = false) from twr_0 h]; exact c9
    have eR : sc_takeSigned_r lo hi c = tvr lo hi 1 c := by
      unfold sc_takeSigned_r sc_takeSigned_v1
      rw [if_pos er, tww_f h c9]
    have eW : sc_takeSigned_w lo hi c = tvw lo hi 1 c := by
      unfold sc_takeSigned_w sc_takeSigned_v2 sc_takeSigned_v1
      rw [if_pos er, tww_f h c9]
    rw [eb, ew, eR, eW]
    exact num h
end TX
