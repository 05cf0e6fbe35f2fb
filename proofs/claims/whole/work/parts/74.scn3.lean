def kqS (g g' : Nat → Nat → Int32) : Prop := ∀ a k, ¬ (a = 0 ∧ (k = 9 ∨ k = 10 ∨ k = 20)) → g' a k = g a k
theorem kqS_rf {g : Nat → Nat → Int32} : kqS g g := fun _ _ _ => rfl
theorem kqS_tr {g g1 g2 : Nat → Nat → Int32} (h1 : kqS g g1) (h2 : kqS g1 g2) : kqS g g2 := fun a k h => (h2 a k h).trans (h1 a k h)
theorem kqS_nx {g : Nat → Nat → Int32} : kqS g (nxW g) := fun a k h => (ug_ne (by omega)).trans (ug_ne (by omega))
theorem kqS_rj {g : Nat → Nat → Int32} : kqS g (sc_reject_w g) := by
  intro a k h
  unfold sc_reject_w
  split
  · exact ug_ne (by omega)
  · rfl
theorem kqS_tw {j : Nat} {g : Nat → Nat → Int32} : kqS g (sc_takeWord_w j g) := by
  unfold sc_takeWord_w
  repeat' split
  all_goals first | exact kqS_nx | exact kqS_rf
theorem kqS_tv {lo hi sg : Int32} {g : Nat → Nat → Int32} : kqS g (tvw lo hi sg g) := by
  unfold tvw tvW
  split
  · split
    · exact kqS_nx
    · exact fun a k h => ug_ne (by omega)
  · exact kqS_rf
theorem kqS_ts {lo hi : Int32} {g : Nat → Nat → Int32} : kqS g (sc_takeSigned_w lo hi g) := by
  unfold sc_takeSigned_w
  split
  · exact kqS_tr (kqS_tw (j := 7)) kqS_tv
  · exact kqS_tr (kqS_tw (j := 7)) kqS_tv
theorem tv_in {lo hi sg : Int32} {g : Nat → Nat → Int32} (h : lo ≤ hi) : lo ≤ tvr lo hi sg g ∧ tvr lo hi sg g ≤ hi := by
  unfold tvr tvR
  split
  · split
    · rename_i h9
      exact rdB_in h9
    · exact ⟨Int32.le_refl _, h⟩
  · exact ⟨Int32.le_refl _, h⟩
theorem tv01 {g : Nat → Nat → Int32} (h : ¬ tvr (0) (1) (1) g = 0) : tvr (0) (1) (1) g = 1 := by
  obtain ⟨s, hs, h1⟩ := stat_of (tv_in (lo := 0) (hi := 1) (sg := 1) (g := g) (by decide))
  rw [h1] at h ⊢
  rcases (by omega : s = 0 ∨ s = 1) with rfl | rfl
  · exact absurd rfl h
  · rfl
theorem tw_f {k : Nat} {g : Nat → Nat → Int32} (h : b2i (iwS k g) = 0) : sc_takeWord_r k g = 0 := by
  unfold sc_takeWord_r
  repeat' split
  all_goals first | rfl | (rename_i h1; exact absurd h h1)
def sc_takePath_v1  (g : Nat → Nat → Int32) : Nat → Nat → Int32 := (tvw (0) (63) 1 g)
def sc_takePath_v2  (g : Nat → Nat → Int32) : Nat → Nat → Int32 := (tvw (0) (63) 1 (sc_takePath_v1  g))
def sc_takePath_v3  (g : Nat → Nat → Int32) : Nat → Nat → Int32 := (tvw (0) (300) 1 (sc_takePath_v2  g))
def sc_takePath_v4  (g : Nat → Nat → Int32) : Nat → Nat → Int32 := (sc_takeWord_w 5 (sc_takePath_v3  g))
def sc_takePath_v5  (g : Nat → Nat → Int32) : Nat → Nat → Int32 := (appG (cl (g 1 12)) (tvr (0) (63) 1 g) (tvr (0) (63) 1 (sc_takePath_v1  g)) (tvr (0) (300) 1 (sc_takePath_v2  g)) (0) (0) (sc_takePath_v4  g))
def sc_takePath_v6  (g : Nat → Nat → Int32) : Nat → Nat → Int32 := (sc_takeSigned_w (-3) (3) (sc_takePath_v4  g))
def sc_takePath_v7  (g : Nat → Nat → Int32) : Nat → Nat → Int32 := (sc_takeSigned_w (-3) (3) (sc_takePath_v6  g))
def sc_takePath_v8  (g : Nat → Nat → Int32) : Nat → Nat → Int32 := (appG (cl (g 1 12)) (tvr (0) (63) 1 g) (tvr (0) (63) 1 (sc_takePath_v1  g)) (tvr (0) (300) 1 (sc_takePath_v2  g)) (sc_takeSigned_r (-3) (3) (sc_takePath_v4  g)) (sc_takeSigned_r (-3) (3) (sc_takePath_v6  g)) (sc_takePath_v7  g))
def sc_takePath_w  (g : Nat → Nat → Int32) : Nat → Nat → Int32 := (if (sc_takeWord_r 5 (sc_takePath_v3  g)) = 0 then (sc_takePath_v5  g) else (sc_takePath_v8  g))
set_option maxRecDepth 100000 in
set_option maxHeartbeats 8000000 in
theorem sc_takePath {l : Launch} {D : va_G} {cA : FieldType → ClassId} {z0 : Nat} {SK SV : Nat → Nat} {ad : Nat → Nat} (hE : aD (fun q => z0 ≤ q) ad 26) (g : Nat → Nat → Int32) (σ τ : Nat → Nat) (hσ : pmK σ τ)  (ht : tkI g) (hK : adK ad SK SV) (hn : g 1 12 = nI (cl (g 1 12))) (hn7 : cl (g 1 12) < 8) : bF l D cA z0 SK SV ad shB 26 yX5_takePath cX5_takePath 8 none 8 [.ref 24, .ref 0] (layB g σ τ) none (layB (sc_takePath_w  g) σ τ) := by
  refine bCT_intro (tb := tb_X5_takePath) (own := RX5) hE pn_X5 rfl tk_X5_takePath rfl (Nat.le_of_ble_eq_true rfl) ?_
  intro p e s0 m args below meth c C hr
  refine bv_blk C frk_X5 csk_X5 3 3 rfl (L1 := ([(0, .ref 24), (1, .ref 0)] : Lc)) (st1 := ([.int (63), .int (0), .ref 24] : List Value)) (w1 := (layB g σ τ)) (by rfl) ?_
  refine bv_fV1 C rfl (sc_takeNumber hE g σ τ hσ (0) (63) ht) ml_X5_114 im_X5_takeNumber sel_X5_takeNumber ini_X5 cd_X5_takeNumber ok_X5_takeNumber rfl ⟨Nat.le_of_ble_eq_true rfl, Nat.le_of_ble_eq_true rfl⟩ ⟨Nat.zero_le _, Nat.zero_le _⟩ (by decide) rfl rfl rfl (rest := ([] : List Value)) rfl (Nat.le_of_ble_eq_true rfl) ?_
  obtain ⟨v1, ev1⟩ : ∃ x : Nat → Nat → Int32, x = (sc_takePath_v1  g) := ⟨_, rfl⟩
  have eq_v1 : (tvw (0) (63) 1 g) = v1 := by rw [ev1, show (sc_takePath_v1  g) = (tvw (0) (63) 1 g) from rfl]
  refine bv_weq (show (layB (tvw (0) (63) 1 g) σ τ) = (layB v1 σ τ) from by rw [eq_v1]) ?_
  have ht_v1 : tkI v1 := by rw [← eq_v1]; exact (tk_tv ht)
  have hk12_v1 : v1 1 12 = g 1 12 := by rw [← eq_v1]; exact (kqS_tv 1 12 (by omega)).trans rfl
  refine bv_blk C frk_X5 csk_X5 4 8 rfl (L1 := ([(2, .int (tvr (0) (63) 1 g)), (0, .ref 24), (1, .ref 0)] : Lc)) (st1 := ([.int (63), .int (0), .ref 24] : List Value)) (w1 := (layB v1 σ τ)) (by rfl) ?_
  refine bv_fV1 C rfl (sc_takeNumber hE v1 σ τ hσ (0) (63) ht_v1) ml_X5_114 im_X5_takeNumber sel_X5_takeNumber ini_X5 cd_X5_takeNumber ok_X5_takeNumber rfl ⟨Nat.le_of_ble_eq_true rfl, Nat.le_of_ble_eq_true rfl⟩ ⟨Nat.zero_le _, Nat.zero_le _⟩ (by decide) rfl rfl rfl (rest := ([] : List Value)) rfl (Nat.le_of_ble_eq_true rfl) ?_
  obtain ⟨v2, ev2⟩ : ∃ x : Nat → Nat → Int32, x = (sc_takePath_v2  g) := ⟨_, rfl⟩
  have eq_v2 : (tvw (0) (63) 1 v1) = v2 := by rw [ev2, show (sc_takePath_v2  g) = (tvw (0) (63) 1 (sc_takePath_v1  g)) from rfl, ← ev1]
  refine bv_weq (show (layB (tvw (0) (63) 1 v1) σ τ) = (layB v2 σ τ) from by rw [eq_v2]) ?_
  have ht_v2 : tkI v2 := by rw [← eq_v2]; exact (tk_tv ht_v1)
  have hk12_v2 : v2 1 12 = g 1 12 := by rw [← eq_v2]; exact (kqS_tv 1 12 (by omega)).trans hk12_v1
  refine bv_blk C frk_X5 csk_X5 4 13 rfl (L1 := ([(3, .int (tvr (0) (63) 1 v1)), (2, .int (tvr (0) (63) 1 g)), (0, .ref 24), (1, .ref 0)] : Lc)) (st1 := ([.int (300), .int (0), .ref 24] : List Value)) (w1 := (layB v2 σ τ)) (by rfl) ?_
  refine bv_fV1 C rfl (sc_takeNumber hE v2 σ τ hσ (0) (300) ht_v2) ml_X5_114 im_X5_takeNumber sel_X5_takeNumber ini_X5 cd_X5_takeNumber ok_X5_takeNumber rfl ⟨Nat.le_of_ble_eq_true rfl, Nat.le_of_ble_eq_true rfl⟩ ⟨Nat.zero_le _, Nat.zero_le _⟩ (by decide) rfl rfl rfl (rest := ([] : List Value)) rfl (Nat.le_of_ble_eq_true rfl) ?_
  obtain ⟨v3, ev3⟩ : ∃ x : Nat → Nat → Int32, x = (sc_takePath_v3  g) := ⟨_, rfl⟩
  have eq_v3 : (tvw (0) (300) 1 v2) = v3 := by rw [ev3, show (sc_takePath_v3  g) = (tvw (0) (300) 1 (sc_takePath_v2  g)) from rfl, ← ev2]
  refine bv_weq (show (layB (tvw (0) (300) 1 v2) σ τ) = (layB v3 σ τ) from by rw [eq_v3]) ?_
  have ht_v3 : tkI v3 := by rw [← eq_v3]; exact (tk_tv ht_v2)
  have hk12_v3 : v3 1 12 = g 1 12 := by rw [← eq_v3]; exact (kqS_tv 1 12 (by omega)).trans hk12_v2
  refine bv_blk C frk_X5 csk_X5 2 16 rfl (L1 := ([(4, .int (tvr (0) (300) 1 v2)), (3, .int (tvr (0) (63) 1 v1)), (2, .int (tvr (0) (63) 1 g)), (0, .ref 24), (1, .ref 0)] : Lc)) (st1 := ([.ref 24] : List Value)) (w1 := (layB v3 σ τ)) (by rfl) ?_
  refine bv_ldcS (k := 5) (q := 200 + 5) C rfl rfl (by decide) (hK.1 5 (by decide)) ?_
  refine bv_fV1 C rfl (sc_takeWord hE v3 σ τ hσ 5 ht_v3 (by decide) hK) ml_X5_75 im_X5_takeWord sel_X5_takeWord ini_X5 cd_X5_takeWord ok_X5_takeWord rfl ⟨Nat.le_of_ble_eq_true rfl, Nat.le_of_ble_eq_true rfl⟩ ⟨Nat.zero_le _, Nat.zero_le _⟩ (by decide) rfl rfl rfl (rest := ([] : List Value)) rfl (Nat.le_of_ble_eq_true rfl) ?_
  obtain ⟨v4, ev4⟩ : ∃ x : Nat → Nat → Int32, x = (sc_takePath_v4  g) := ⟨_, rfl⟩
  have eq_v4 : (sc_takeWord_w 5 v3) = v4 := by rw [ev4, show (sc_takePath_v4  g) = (sc_takeWord_w 5 (sc_takePath_v3  g)) from rfl, ← ev3]
  refine bv_weq (show (layB (sc_takeWord_w 5 v3) σ τ) = (layB v4 σ τ) from by rw [eq_v4]) ?_
  have ht_v4 : tkI v4 := by rw [← eq_v4]; exact (tk_tw ht_v3)
  have hk12_v4 : v4 1 12 = g 1 12 := by rw [← eq_v4]; exact (kqS_tw 1 12 (by omega)).trans hk12_v3
  refine bv_blk C frk_X5 csk_X5 2 20 rfl (L1 := ([(5, .int (sc_takeWord_r 5 v3)), (4, .int (tvr (0) (300) 1 v2)), (3, .int (tvr (0) (63) 1 v1)), (2, .int (tvr (0) (63) 1 g)), (0, .ref 24), (1, .ref 0)] : Lc)) (st1 := ([.int (sc_takeWord_r 5 v3)] : List Value)) (w1 := (layB v4 σ τ)) (by rfl) ?_
  refine bv_if_eq (j := 26) C rfl rfl (fun c1 => ?_) (fun c1 => ?_)
  · refine bv_blk C frk_X5 csk_X5 3 29 rfl (L1 := ([(6, .int (0)), (5, .int (sc_takeWord_r 5 v3)), (4, .int (tvr (0) (300) 1 v2)), (3, .int (tvr (0) (63) 1 v1)), (2, .int (tvr (0) (63) 1 g)), (0, .ref 24), (1, .ref 0)] : Lc)) (st1 := ([.int (sc_takeWord_r 5 v3)] : List Value)) (w1 := (layB v4 σ τ)) (by rfl) ?_
    refine bv_if_eq (j := 35) C rfl rfl (fun _ => ?_) (fun h => absurd (c1) h)
    refine bv_blk C frk_X5 csk_X5 8 43 rfl (L1 := ([(7, .int (0)), (6, .int (0)), (5, .int (sc_takeWord_r 5 v3)), (4, .int (tvr (0) (300) 1 v2)), (3, .int (tvr (0) (63) 1 v1)), (2, .int (tvr (0) (63) 1 g)), (0, .ref 24), (1, .ref 0)] : Lc)) (st1 := ([.int (0), .int (0), .int (tvr (0) (300) 1 v2), .int (tvr (0) (63) 1 v1), .int (tvr (0) (63) 1 g), .ref 0] : List Value)) (w1 := (layB v4 σ τ)) (by rfl) ?_
    refine bv_fV0 C rfl (cs_appendPath hE v4 σ τ hσ (cl (g 1 12)) (tvr (0) (63) 1 g) (tvr (0) (63) 1 v1) (tvr (0) (300) 1 v2) (0) (0) (hk12_v4.trans hn) hn7) ml_X5_125 im_X6_appendPath sel_X6_appendPath ini_X6 cd_X6_appendPath ok_X6_appendPath rfl ⟨Nat.le_of_ble_eq_true rfl, Nat.le_of_ble_eq_true rfl⟩ ⟨Nat.zero_le _, Nat.zero_le _⟩ (by decide) rfl rfl rfl (rest := ([] : List Value)) rfl (Nat.le_of_ble_eq_true rfl) ?_
    obtain ⟨v5, ev5⟩ : ∃ x : Nat → Nat → Int32, x = (sc_takePath_v5  g) := ⟨_, rfl⟩
    have eq_v5 : (appG (cl (g 1 12)) (tvr (0) (63) 1 g) (tvr (0) (63) 1 v1) (tvr (0) (300) 1 v2) (0) (0) v4) = v5 := by rw [ev5, show (sc_takePath_v5  g) = (appG (cl (g 1 12)) (tvr (0) (63) 1 g) (tvr (0) (63) 1 (sc_takePath_v1  g)) (tvr (0) (300) 1 (sc_takePath_v2  g)) (0) (0) (sc_takePath_v4  g)) from rfl, ← ev1, ← ev2, ← ev4]
    refine bv_weq (show (layB (appG (cl (g 1 12)) (tvr (0) (63) 1 g) (tvr (0) (63) 1 v1) (tvr (0) (300) 1 v2) (0) (0) v4) σ τ) = (layB v5 σ τ) from by rw [eq_v5]) ?_
    exact bv_vret C rfl hr ⟨by (rfl), by (replace ev1 := ev1.symm; subst ev1; replace ev2 := ev2.symm; subst ev2; replace ev3 := ev3.symm; subst ev3; replace ev4 := ev4.symm; subst ev4; replace ev5 := ev5.symm; subst ev5; exact congrArg (fun x => (layB x σ τ)) (((if_pos c1).trans rfl)).symm)⟩
  · refine bv_blk C frk_X5 csk_X5 3 24 rfl (L1 := ([(5, .int (sc_takeWord_r 5 v3)), (4, .int (tvr (0) (300) 1 v2)), (3, .int (tvr (0) (63) 1 v1)), (2, .int (tvr (0) (63) 1 g)), (0, .ref 24), (1, .ref 0)] : Lc)) (st1 := ([.int (3), .int (-3), .ref 24] : List Value)) (w1 := (layB v4 σ τ)) (by rfl) ?_
    refine bv_fV1 C rfl (sc_takeSigned hE v4 σ τ hσ (-3) (3) ht_v4 hK) ml_X5_106 im_X5_takeSigned sel_X5_takeSigned ini_X5 cd_X5_takeSigned ok_X5_takeSigned rfl ⟨Nat.le_of_ble_eq_true rfl, Nat.le_of_ble_eq_true rfl⟩ ⟨Nat.zero_le _, Nat.zero_le _⟩ (by decide) rfl rfl rfl (rest := ([] : List Value)) rfl (Nat.le_of_ble_eq_true rfl) ?_
    obtain ⟨v6, ev6⟩ : ∃ x : Nat → Nat → Int32, x = (sc_takePath_v6  g) := ⟨_, rfl⟩
    have eq_v6 : (sc_takeSigned_w (-3) (3) v4) = v6 := by rw [ev6, show (sc_takePath_v6  g) = (sc_takeSigned_w (-3) (3) (sc_takePath_v4  g)) from rfl, ← ev4]
    refine bv_weq (show (layB (sc_takeSigned_w (-3) (3) v4) σ τ) = (layB v6 σ τ) from by rw [eq_v6]) ?_
    have ht_v6 : tkI v6 := by rw [← eq_v6]; exact (tk_ts ht_v4)
    have hk12_v6 : v6 1 12 = g 1 12 := by rw [← eq_v6]; exact (kqS_ts 1 12 (by omega)).trans hk12_v4
    refine bv_goto (j := 27) C rfl rfl ?_
    refine bv_blk C frk_X5 csk_X5 2 29 rfl (L1 := ([(6, .int (sc_takeSigned_r (-3) (3) v4)), (5, .int (sc_takeWord_r 5 v3)), (4, .int (tvr (0) (300) 1 v2)), (3, .int (tvr (0) (63) 1 v1)), (2, .int (tvr (0) (63) 1 g)), (0, .ref 24), (1, .ref 0)] : Lc)) (st1 := ([.int (sc_takeWord_r 5 v3)] : List Value)) (w1 := (layB v6 σ τ)) (by rfl) ?_
    refine bv_if_eq (j := 35) C rfl rfl (fun h => absurd h (c1)) (fun _ => ?_)
    refine bv_blk C frk_X5 csk_X5 3 33 rfl (L1 := ([(6, .int (sc_takeSigned_r (-3) (3) v4)), (5, .int (sc_takeWord_r 5 v3)), (4, .int (tvr (0) (300) 1 v2)), (3, .int (tvr (0) (63) 1 v1)), (2, .int (tvr (0) (63) 1 g)), (0, .ref 24), (1, .ref 0)] : Lc)) (st1 := ([.int (3), .int (-3), .ref 24] : List Value)) (w1 := (layB v6 σ τ)) (by rfl) ?_
    refine bv_fV1 C rfl (sc_takeSigned hE v6 σ τ hσ (-3) (3) ht_v6 hK) ml_X5_106 im_X5_takeSigned sel_X5_takeSigned ini_X5 cd_X5_takeSigned ok_X5_takeSigned rfl ⟨Nat.le_of_ble_eq_true rfl, Nat.le_of_ble_eq_true rfl⟩ ⟨Nat.zero_le _, Nat.zero_le _⟩ (by decide) rfl rfl rfl (rest := ([] : List Value)) rfl (Nat.le_of_ble_eq_true rfl) ?_
    obtain ⟨v7, ev7⟩ : ∃ x : Nat → Nat → Int32, x = (sc_takePath_v7  g) := ⟨_, rfl⟩
    have eq_v7 : (sc_takeSigned_w (-3) (3) v6) = v7 := by rw [ev7, show (sc_takePath_v7  g) = (sc_takeSigned_w (-3) (3) (sc_takePath_v6  g)) from rfl, ← ev6]
    refine bv_weq (show (layB (sc_takeSigned_w (-3) (3) v6) σ τ) = (layB v7 σ τ) from by rw [eq_v7]) ?_
    have ht_v7 : tkI v7 := by rw [← eq_v7]; exact (tk_ts ht_v6)
    have hk12_v7 : v7 1 12 = g 1 12 := by rw [← eq_v7]; exact (kqS_ts 1 12 (by omega)).trans hk12_v6
    refine bv_goto (j := 36) C rfl rfl ?_
    refine bv_blk C frk_X5 csk_X5 7 43 rfl (L1 := ([(7, .int (sc_takeSigned_r (-3) (3) v6)), (6, .int (sc_takeSigned_r (-3) (3) v4)), (5, .int (sc_takeWord_r 5 v3)), (4, .int (tvr (0) (300) 1 v2)), (3, .int (tvr (0) (63) 1 v1)), (2, .int (tvr (0) (63) 1 g)), (0, .ref 24), (1, .ref 0)] : Lc)) (st1 := ([.int (sc_takeSigned_r (-3) (3) v6), .int (sc_takeSigned_r (-3) (3) v4), .int (tvr (0) (300) 1 v2), .int (tvr (0) (63) 1 v1), .int (tvr (0) (63) 1 g), .ref 0] : List Value)) (w1 := (layB v7 σ τ)) (by rfl) ?_
    refine bv_fV0 C rfl (cs_appendPath hE v7 σ τ hσ (cl (g 1 12)) (tvr (0) (63) 1 g) (tvr (0) (63) 1 v1) (tvr (0) (300) 1 v2) (sc_takeSigned_r (-3) (3) v4) (sc_takeSigned_r (-3) (3) v6) (hk12_v7.trans hn) hn7) ml_X5_125 im_X6_appendPath sel_X6_appendPath ini_X6 cd_X6_appendPath ok_X6_appendPath rfl ⟨Nat.le_of_ble_eq_true rfl, Nat.le_of_ble_eq_true rfl⟩ ⟨Nat.zero_le _, Nat.zero_le _⟩ (by decide) rfl rfl rfl (rest := ([] : List Value)) rfl (Nat.le_of_ble_eq_true rfl) ?_
    obtain ⟨v8, ev8⟩ : ∃ x : Nat → Nat → Int32, x = (sc_takePath_v8  g) := ⟨_, rfl⟩
    have eq_v8 : (appG (cl (g 1 12)) (tvr (0) (63) 1 g) (tvr (0) (63) 1 v1) (tvr (0) (300) 1 v2) (sc_takeSigned_r (-3) (3) v4) (sc_takeSigned_r (-3) (3) v6) v7) = v8 := by rw [ev8, show (sc_takePath_v8  g) = (appG (cl (g 1 12)) (tvr (0) (63) 1 g) (tvr (0) (63) 1 (sc_takePath_v1  g)) (tvr (0) (300) 1 (sc_takePath_v2  g)) (sc_takeSigned_r (-3) (3) (sc_takePath_v4  g)) (sc_takeSigned_r (-3) (3) (sc_takePath_v6  g)) (sc_takePath_v7  g)) from rfl, ← ev1, ← ev2, ← ev4, ← ev6, ← ev7]
    refine bv_weq (show (layB (appG (cl (g 1 12)) (tvr (0) (63) 1 g) (tvr (0) (63) 1 v1) (tvr (0) (300) 1 v2) (sc_takeSigned_r (-3) (3) v4) (sc_takeSigned_r (-3) (3) v6) v7) σ τ) = (layB v8 σ τ) from by rw [eq_v8]) ?_
    exact bv_vret C rfl hr ⟨by (rfl), by (replace ev1 := ev1.symm; subst ev1; replace ev2 := ev2.symm; subst ev2; replace ev3 := ev3.symm; subst ev3; replace ev4 := ev4.symm; subst ev4; replace ev6 := ev6.symm; subst ev6; replace ev7 := ev7.symm; subst ev7; replace ev8 := ev8.symm; subst ev8; exact congrArg (fun x => (layB x σ τ)) (((if_neg c1).trans rfl)).symm)⟩
def sc_takeStation_v1  (g : Nat → Nat → Int32) : Nat → Nat → Int32 := (tvw (0) (1) 1 g)
def sc_takeStation_v2  (g : Nat → Nat → Int32) : Nat → Nat → Int32 := (tvw (2) (16) 1 (sc_takeStation_v1  g))
def sc_takeStation_v3  (g : Nat → Nat → Int32) : Nat → Nat → Int32 := (tvw (0) (63) 1 (sc_takeStation_v2  g))
def sc_takeStation_v4  (g : Nat → Nat → Int32) : Nat → Nat → Int32 := (tvw (0) (100) 1 (sc_takeStation_v3  g))
def sc_takeStation_v5  (g : Nat → Nat → Int32) : Nat → Nat → Int32 := (setG0 (tvr (2) (16) 1 (sc_takeStation_v1  g)) (tvr (0) (63) 1 (sc_takeStation_v2  g)) (tvr (0) (100) 1 (sc_takeStation_v3  g)) (sc_takeStation_v4  g))
def sc_takeStation_v6  (g : Nat → Nat → Int32) : Nat → Nat → Int32 := (setG1 (tvr (2) (16) 1 (sc_takeStation_v1  g)) (tvr (0) (63) 1 (sc_takeStation_v2  g)) (tvr (0) (100) 1 (sc_takeStation_v3  g)) (sc_takeStation_v4  g))
def sc_takeStation_w  (g : Nat → Nat → Int32) : Nat → Nat → Int32 := (if (tvr (0) (1) 1 g) = 0 then (sc_takeStation_v5  g) else (sc_takeStation_v6  g))
set_option maxRecDepth 100000 in
set_option maxHeartbeats 8000000 in
theorem sc_takeStation {l : Launch} {D : va_G} {cA : FieldType → ClassId} {z0 : Nat} {SK SV : Nat → Nat} {ad : Nat → Nat} (hE : aD (fun q => z0 ≤ q) ad 26) (g : Nat → Nat → Int32) (σ τ : Nat → Nat) (hσ : pmK σ τ)  (ht : tkI g) : bF l D cA z0 SK SV ad shB 26 yX5_takeStation cX5_takeStation 6 none 4 [.ref 24, .ref 0] (layB g σ τ) none (layB (sc_takeStation_w  g) σ τ) := by
  refine bCT_intro (tb := tb_X5_takeStation) (own := RX5) hE pn_X5 rfl tk_X5_takeStation rfl (Nat.le_of_ble_eq_true rfl) ?_
  intro p e s0 m args below meth c C hr
  refine bv_blk C frk_X5 csk_X5 3 3 rfl (L1 := ([(0, .ref 24), (1, .ref 0)] : Lc)) (st1 := ([.int (1), .int (0), .ref 24] : List Value)) (w1 := (layB g σ τ)) (by rfl) ?_
  refine bv_fV1 C rfl (sc_takeNumber hE g σ τ hσ (0) (1) ht) ml_X5_114 im_X5_takeNumber sel_X5_takeNumber ini_X5 cd_X5_takeNumber ok_X5_takeNumber rfl ⟨Nat.le_of_ble_eq_true rfl, Nat.le_of_ble_eq_true rfl⟩ ⟨Nat.zero_le _, Nat.zero_le _⟩ (by decide) rfl rfl rfl (rest := ([] : List Value)) rfl (Nat.le_of_ble_eq_true rfl) ?_
  obtain ⟨v1, ev1⟩ : ∃ x : Nat → Nat → Int32, x = (sc_takeStation_v1  g) := ⟨_, rfl⟩
  have eq_v1 : (tvw (0) (1) 1 g) = v1 := by rw [ev1, show (sc_takeStation_v1  g) = (tvw (0) (1) 1 g) from rfl]
  refine bv_weq (show (layB (tvw (0) (1) 1 g) σ τ) = (layB v1 σ τ) from by rw [eq_v1]) ?_
  have ht_v1 : tkI v1 := by rw [← eq_v1]; exact (tk_tv ht)
  have hk12_v1 : v1 1 12 = g 1 12 := by rw [← eq_v1]; exact (kqS_tv 1 12 (by omega)).trans rfl
  refine bv_blk C frk_X5 csk_X5 4 8 rfl (L1 := ([(2, .int (tvr (0) (1) 1 g)), (0, .ref 24), (1, .ref 0)] : Lc)) (st1 := ([.int (16), .int (2), .ref 24] : List Value)) (w1 := (layB v1 σ τ)) (by rfl) ?_
  refine bv_fV1 C rfl (sc_takeNumber hE v1 σ τ hσ (2) (16) ht_v1) ml_X5_114 im_X5_takeNumber sel_X5_takeNumber ini_X5 cd_X5_takeNumber ok_X5_takeNumber rfl ⟨Nat.le_of_ble_eq_true rfl, Nat.le_of_ble_eq_true rfl⟩ ⟨Nat.zero_le _, Nat.zero_le _⟩ (by decide) rfl rfl rfl (rest := ([] : List Value)) rfl (Nat.le_of_ble_eq_true rfl) ?_
  obtain ⟨v2, ev2⟩ : ∃ x : Nat → Nat → Int32, x = (sc_takeStation_v2  g) := ⟨_, rfl⟩
  have eq_v2 : (tvw (2) (16) 1 v1) = v2 := by rw [ev2, show (sc_takeStation_v2  g) = (tvw (2) (16) 1 (sc_takeStation_v1  g)) from rfl, ← ev1]
  refine bv_weq (show (layB (tvw (2) (16) 1 v1) σ τ) = (layB v2 σ τ) from by rw [eq_v2]) ?_
  have ht_v2 : tkI v2 := by rw [← eq_v2]; exact (tk_tv ht_v1)
  have hk12_v2 : v2 1 12 = g 1 12 := by rw [← eq_v2]; exact (kqS_tv 1 12 (by omega)).trans hk12_v1
  refine bv_blk C frk_X5 csk_X5 4 13 rfl (L1 := ([(3, .int (tvr (2) (16) 1 v1)), (2, .int (tvr (0) (1) 1 g)), (0, .ref 24), (1, .ref 0)] : Lc)) (st1 := ([.int (63), .int (0), .ref 24] : List Value)) (w1 := (layB v2 σ τ)) (by rfl) ?_
  refine bv_fV1 C rfl (sc_takeNumber hE v2 σ τ hσ (0) (63) ht_v2) ml_X5_114 im_X5_takeNumber sel_X5_takeNumber ini_X5 cd_X5_takeNumber ok_X5_takeNumber rfl ⟨Nat.le_of_ble_eq_true rfl, Nat.le_of_ble_eq_true rfl⟩ ⟨Nat.zero_le _, Nat.zero_le _⟩ (by decide) rfl rfl rfl (rest := ([] : List Value)) rfl (Nat.le_of_ble_eq_true rfl) ?_
  obtain ⟨v3, ev3⟩ : ∃ x : Nat → Nat → Int32, x = (sc_takeStation_v3  g) := ⟨_, rfl⟩
  have eq_v3 : (tvw (0) (63) 1 v2) = v3 := by rw [ev3, show (sc_takeStation_v3  g) = (tvw (0) (63) 1 (sc_takeStation_v2  g)) from rfl, ← ev2]
  refine bv_weq (show (layB (tvw (0) (63) 1 v2) σ τ) = (layB v3 σ τ) from by rw [eq_v3]) ?_
  have ht_v3 : tkI v3 := by rw [← eq_v3]; exact (tk_tv ht_v2)
  have hk12_v3 : v3 1 12 = g 1 12 := by rw [← eq_v3]; exact (kqS_tv 1 12 (by omega)).trans hk12_v2
  refine bv_blk C frk_X5 csk_X5 4 18 rfl (L1 := ([(4, .int (tvr (0) (63) 1 v2)), (3, .int (tvr (2) (16) 1 v1)), (2, .int (tvr (0) (1) 1 g)), (0, .ref 24), (1, .ref 0)] : Lc)) (st1 := ([.int (100), .int (0), .ref 24] : List Value)) (w1 := (layB v3 σ τ)) (by rfl) ?_
  refine bv_fV1 C rfl (sc_takeNumber hE v3 σ τ hσ (0) (100) ht_v3) ml_X5_114 im_X5_takeNumber sel_X5_takeNumber ini_X5 cd_X5_takeNumber ok_X5_takeNumber rfl ⟨Nat.le_of_ble_eq_true rfl, Nat.le_of_ble_eq_true rfl⟩ ⟨Nat.zero_le _, Nat.zero_le _⟩ (by decide) rfl rfl rfl (rest := ([] : List Value)) rfl (Nat.le_of_ble_eq_true rfl) ?_
  obtain ⟨v4, ev4⟩ : ∃ x : Nat → Nat → Int32, x = (sc_takeStation_v4  g) := ⟨_, rfl⟩
  have eq_v4 : (tvw (0) (100) 1 v3) = v4 := by rw [ev4, show (sc_takeStation_v4  g) = (tvw (0) (100) 1 (sc_takeStation_v3  g)) from rfl, ← ev3]
  refine bv_weq (show (layB (tvw (0) (100) 1 v3) σ τ) = (layB v4 σ τ) from by rw [eq_v4]) ?_
  have ht_v4 : tkI v4 := by rw [← eq_v4]; exact (tk_tv ht_v3)
  have hk12_v4 : v4 1 12 = g 1 12 := by rw [← eq_v4]; exact (kqS_tv 1 12 (by omega)).trans hk12_v3
  refine bv_blk C frk_X5 csk_X5 6 25 rfl (L1 := ([(5, .int (tvr (0) (100) 1 v3)), (4, .int (tvr (0) (63) 1 v2)), (3, .int (tvr (2) (16) 1 v1)), (2, .int (tvr (0) (1) 1 g)), (0, .ref 24), (1, .ref 0)] : Lc)) (st1 := ([.int (tvr (0) (100) 1 v3), .int (tvr (0) (63) 1 v2), .int (tvr (2) (16) 1 v1), .int (tvr (0) (1) 1 g), .ref 0] : List Value)) (w1 := (layB v4 σ τ)) (by rfl) ?_
  by_cases c1 : (tvr (0) (1) 1 g) = 0
  · rw [c1]
    refine bv_fV0 C rfl (cs_setUpStation0 hE v4 σ τ hσ (tvr (2) (16) 1 v1) (tvr (0) (63) 1 v2) (tvr (0) (100) 1 v3)) ml_X5_129 im_X6_setUpStation sel_X6_setUpStation ini_X6 cd_X6_setUpStation ok_X6_setUpStation rfl ⟨Nat.le_of_ble_eq_true rfl, Nat.le_of_ble_eq_true rfl⟩ ⟨Nat.zero_le _, Nat.zero_le _⟩ (by decide) rfl rfl rfl (rest := ([] : List Value)) rfl (Nat.le_of_ble_eq_true rfl) ?_
    obtain ⟨v5, ev5⟩ : ∃ x : Nat → Nat → Int32, x = (sc_takeStation_v5  g) := ⟨_, rfl⟩
    have eq_v5 : (setG0 (tvr (2) (16) 1 v1) (tvr (0) (63) 1 v2) (tvr (0) (100) 1 v3) v4) = v5 := by rw [ev5, show (sc_takeStation_v5  g) = (setG0 (tvr (2) (16) 1 (sc_takeStation_v1  g)) (tvr (0) (63) 1 (sc_takeStation_v2  g)) (tvr (0) (100) 1 (sc_takeStation_v3  g)) (sc_takeStation_v4  g)) from rfl, ← ev1, ← ev2, ← ev3, ← ev4]
    refine bv_weq (show (layB (setG0 (tvr (2) (16) 1 v1) (tvr (0) (63) 1 v2) (tvr (0) (100) 1 v3) v4) σ τ) = (layB v5 σ τ) from by rw [eq_v5]) ?_
    exact bv_vret C rfl hr ⟨by (rfl), by (replace ev1 := ev1.symm; subst ev1; replace ev2 := ev2.symm; subst ev2; replace ev3 := ev3.symm; subst ev3; replace ev4 := ev4.symm; subst ev4; replace ev5 := ev5.symm; subst ev5; exact congrArg (fun x => (layB x σ τ)) (((if_pos c1).trans rfl)).symm)⟩
  · rw [tv01 c1]
    refine bv_fV0 C rfl (cs_setUpStation1 hE v4 σ τ hσ (tvr (2) (16) 1 v1) (tvr (0) (63) 1 v2) (tvr (0) (100) 1 v3)) ml_X5_129 im_X6_setUpStation sel_X6_setUpStation ini_X6 cd_X6_setUpStation ok_X6_setUpStation rfl ⟨Nat.le_of_ble_eq_true rfl, Nat.le_of_ble_eq_true rfl⟩ ⟨Nat.zero_le _, Nat.zero_le _⟩ (by decide) rfl rfl rfl (rest := ([] : List Value)) rfl (Nat.le_of_ble_eq_true rfl) ?_
    obtain ⟨v6, ev6⟩ : ∃ x : Nat → Nat → Int32, x = (sc_takeStation_v6  g) := ⟨_, rfl⟩
    have eq_v6 : (setG1 (tvr (2) (16) 1 v1) (tvr (0) (63) 1 v2) (tvr (0) (100) 1 v3) v4) = v6 := by rw [ev6, show (sc_takeStation_v6  g) = (setG1 (tvr (2) (16) 1 (sc_takeStation_v1  g)) (tvr (0) (63) 1 (sc_takeStation_v2  g)) (tvr (0) (100) 1 (sc_takeStation_v3  g)) (sc_takeStation_v4  g)) from rfl, ← ev1, ← ev2, ← ev3, ← ev4]
    refine bv_weq (show (layB (setG1 (tvr (2) (16) 1 v1) (tvr (0) (63) 1 v2) (tvr (0) (100) 1 v3) v4) σ τ) = (layB v6 σ τ) from by rw [eq_v6]) ?_
    exact bv_vret C rfl hr ⟨by (rfl), by (replace ev1 := ev1.symm; subst ev1; replace ev2 := ev2.symm; subst ev2; replace ev3 := ev3.symm; subst ev3; replace ev4 := ev4.symm; subst ev4; replace ev6 := ev6.symm; subst ev6; exact congrArg (fun x => (layB x σ τ)) (((if_neg c1).trans rfl)).symm)⟩
theorem tk_of {g g' : Nat → Nat → Int32} (hk : ∀ k, g' 0 k = g 0 k) (h : tkI g) : tkI g' := by
  obtain ⟨Ln, f, b, h1, h2, h3, h4, h5⟩ := h
  exact ⟨Ln, f, b, (hk 4).trans h1, h2, (hk 9).trans h3, (hk 10).trans h4, h5⟩
theorem app_0 {n k : Nat} {x y z u v : Int32} {g : Nat → Nat → Int32} : appG n x y z u v g 0 k = g 0 k := rfl
theorem set0_0 {k : Nat} {x y z : Int32} {g : Nat → Nat → Int32} : setG0 x y z g 0 k = g 0 k := rfl
theorem set1_0 {k : Nat} {x y z : Int32} {g : Nat → Nat → Int32} : setG1 x y z g 0 k = g 0 k := rfl
theorem set0_12 {x y z : Int32} {g : Nat → Nat → Int32} : setG0 x y z g 1 12 = g 1 12 := rfl
theorem set1_12 {x y z : Int32} {g : Nat → Nat → Int32} : setG1 x y z g 1 12 = g 1 12 := rfl
theorem app_12 {n : Nat} {x y z u v : Int32} {g : Nat → Nat → Int32} : appG n x y z u v g 1 12 = g 1 12 + 1 := ug_same.trans (congrArg (fun q : Int32 => q + 1) ((ug_ne (by omega)).trans ((ug_ne (by omega)).trans ((ug_ne (by omega)).trans ((ug_ne (by omega)).trans ((ug_ne (by omega)).trans (ug_ne (by omega))))))))
def nK (g : Nat → Nat → Int32) : Prop := g 1 12 = nI (cl (g 1 12)) ∧ cl (g 1 12) ≤ 8
theorem nK_of {g g' : Nat → Nat → Int32} (e : g' 1 12 = g 1 12) (h : nK g) : nK g' := by
  unfold nK
  rw [e]
  exact h
theorem nK_kq {g g' : Nat → Nat → Int32} (e : kqS g g') (h : nK g) : nK g' := nK_of (e 1 12 (by omega)) h
theorem tp4 {g : Nat → Nat → Int32} : kqS g (sc_takePath_v4 g) := kqS_tr (kqS_tr (kqS_tr kqS_tv kqS_tv) kqS_tv) (kqS_tw (j := 5))
theorem tp7 {g : Nat → Nat → Int32} : kqS g (sc_takePath_v7 g) := kqS_tr (kqS_tr tp4 kqS_ts) kqS_ts
theorem ts4 {g : Nat → Nat → Int32} : kqS g (sc_takeStation_v4 g) := kqS_tr (kqS_tr (kqS_tr kqS_tv kqS_tv) kqS_tv) kqS_tv
theorem tk_tp {g : Nat → Nat → Int32} (h : tkI g) : tkI (sc_takePath_w g) := by
  have h4 : tkI (sc_takePath_v4 g) := tk_tw (k := 5) (tk_tv (tk_tv (tk_tv h)))
  have h7 : tkI (sc_takePath_v7 g) := tk_ts (tk_ts h4)
  unfold sc_takePath_w
  split
  · exact tk_of (fun k => app_0) h4
  · exact tk_of (fun k => app_0) h7
theorem tk_tst {g : Nat → Nat → Int32} (h : tkI g) : tkI (sc_takeStation_w g) := by
  have h4 : tkI (sc_takeStation_v4 g) := tk_tv (tk_tv (tk_tv (tk_tv h)))
  unfold sc_takeStation_w
  split
  · exact tk_of (fun k => set0_0) h4
  · exact tk_of (fun k => set1_0) h4
theorem nK_up {g X g' : Nat → Nat → Int32} (h : nK g) (h7 : cl (g 1 12) < 8) (e : X 1 12 = g 1 12) (e2 : g' 1 12 = X 1 12 + 1) : nK g' := by
  have e3 : g' 1 12 = nI (cl (g 1 12) + 1) := by rw [e2, e]; exact nIi h.1
  unfold nK
  rw [e3, cl_nI (by omega)]
  exact ⟨rfl, by omega⟩
theorem nK_tp {g : Nat → Nat → Int32} (h : nK g) (h7 : cl (g 1 12) < 8) : nK (sc_takePath_w g) := by
  unfold sc_takePath_w
  split
  · exact nK_up h h7 (tp4 1 12 (by omega)) app_12
  · exact nK_up h h7 (tp7 1 12 (by omega)) app_12
theorem nK_tst {g : Nat → Nat → Int32} (h : nK g) : nK (sc_takeStation_w g) := by
  unfold sc_takeStation_w
  split
  · exact nK_of (set0_12.trans (ts4 1 12 (by omega))) h
  · exact nK_of (set1_12.trans (ts4 1 12 (by omega))) h
theorem tw_g {k : Nat} {g : Nat → Nat → Int32} (h : sc_takeWord_r k g = 0) : sc_takeWord_w k g = g := by
  unfold sc_takeWord_r at h
  unfold sc_takeWord_w
  by_cases c1 : g 0 20 = -100000
  · rw [if_pos c1] at h ⊢
    by_cases c2 : b2i (iwS k g) = 0
    · rw [if_pos c2]
    · rw [if_neg c2] at h; cases h
  · rw [if_neg c1]
theorem tw_n {k : Nat} {g : Nat → Nat → Int32} (h : ¬ sc_takeWord_r k g = 0) : sc_takeWord_w k g = nxW g ∧ g 0 20 = -100000 ∧ iwS k g = true := by
  unfold sc_takeWord_r at h
  unfold sc_takeWord_w
  by_cases c1 : g 0 20 = -100000
  · rw [if_pos c1] at h ⊢
    by_cases c2 : b2i (iwS k g) = 0
    · rw [if_pos c2] at h; exact absurd rfl h
    · rw [if_neg c2]
      exact ⟨rfl, c1, b2i_1 c2⟩
  · rw [if_neg c1] at h; exact absurd rfl h
theorem nxn {g : Nat → Nat → Int32} (h : g 1 12 = nI (cl (g 1 12))) : nxW g 1 12 = nI (cl (nxW g 1 12)) := by
  rw [show nxW g 1 12 = g 1 12 from kqS_nx 1 12 (by omega)]
  exact h
theorem nxl {g : Nat → Nat → Int32} (h : cl (g 1 12) < 8) : cl (nxW g 1 12) < 8 := by
  rw [show nxW g 1 12 = g 1 12 from kqS_nx 1 12 (by omega)]
  exact h
def sc_takeItem_w  (g : Nat → Nat → Int32) : Nat → Nat → Int32 := (if (b2i (iwS 1 g)) = 0 then (if (sc_takeWord_r 0 g) = 0 then (if (sc_takeWord_r 2 g) = 0 then (if (sc_takeWord_r 3 g) = 0 then (if (sc_takeWord_r 4 g) = 0 then (sc_reject_w g) else (ug (tvw (1) (9) 1 (nxW g)) 1 10 (tvr (1) (9) 1 (nxW g)))) else (ug (tvw (0) (60) 1 (nxW g)) 1 7 (tvr (0) (60) 1 (nxW g)))) else (ug (sc_takeSigned_w (-200) (200) (nxW g)) 1 6 (sc_takeSigned_r (-200) (200) (nxW g)))) else (sc_takeStation_w (nxW g))) else (if cl (g 1 12) < 8 then (if (sc_takeWord_r 1 g) = 0 then (if (sc_takeWord_r 0 g) = 0 then (if (sc_takeWord_r 2 g) = 0 then (if (sc_takeWord_r 3 g) = 0 then (if (sc_takeWord_r 4 g) = 0 then (sc_reject_w g) else (ug (tvw (1) (9) 1 (nxW g)) 1 10 (tvr (1) (9) 1 (nxW g)))) else (ug (tvw (0) (60) 1 (nxW g)) 1 7 (tvr (0) (60) 1 (nxW g)))) else (ug (sc_takeSigned_w (-200) (200) (nxW g)) 1 6 (sc_takeSigned_r (-200) (200) (nxW g)))) else (sc_takeStation_w (nxW g))) else (sc_takePath_w (nxW g))) else (sc_reject_w g)))
set_option maxRecDepth 100000 in
set_option maxHeartbeats 8000000 in
theorem sc_takeItem {l : Launch} {D : va_G} {cA : FieldType → ClassId} {z0 : Nat} {SK SV : Nat → Nat} {ad : Nat → Nat} (hE : aD (fun q => z0 ≤ q) ad 26) (g : Nat → Nat → Int32) (σ τ : Nat → Nat) (hσ : pmK σ τ)  (ht : tkI g) (hK : adK ad SK SV) (hn : g 1 12 = nI (cl (g 1 12))) (hn8 : cl (g 1 12) ≤ 8) : bF l D cA z0 SK SV ad shB 26 yX5_takeItem cX5_takeItem 2 none 9 [.ref 24, .ref 0] (layB g σ τ) none (layB (sc_takeItem_w  g) σ τ) := by
  refine bCT_intro (tb := tb_X5_takeItem) (own := RX5) hE pn_X5 rfl tk_X5_takeItem rfl (Nat.le_of_ble_eq_true rfl) ?_
  intro p e s0 m args below meth c C hr
  refine bv_blk C frk_X5 csk_X5 1 1 rfl (L1 := ([(0, .ref 24), (1, .ref 0)] : Lc)) (st1 := ([.ref 24] : List Value)) (w1 := (layB g σ τ)) (by rfl) ?_
  refine bv_ldcS (k := 1) (q := 200 + 1) C rfl rfl (by decide) (hK.1 1 (by decide)) ?_
  refine bv_fV1 C rfl (sd_word hE g σ τ hσ 1 ht (by decide) hK) ml_X5_69 im_X5_isWord sel_X5_isWord ini_X5 cd_X5_isWord ok_X5_isWord rfl ⟨Nat.le_of_ble_eq_true rfl, Nat.le_of_ble_eq_true rfl⟩ ⟨Nat.zero_le _, Nat.zero_le _⟩ (by decide) rfl rfl rfl (rest := ([] : List Value)) rfl (Nat.le_of_ble_eq_true rfl) ?_
  refine bv_if_eq (j := 11) C rfl rfl (fun c1 => ?_) (fun c1 => ?_)
  · refine bv_blk C frk_X5 csk_X5 1 12 rfl (L1 := ([(0, .ref 24), (1, .ref 0)] : Lc)) (st1 := ([.ref 24] : List Value)) (w1 := (layB g σ τ)) (by rfl) ?_
    refine bv_ldcS (k := 1) (q := 200 + 1) C rfl rfl (by decide) (hK.1 1 (by decide)) ?_
    refine bv_fV1 C rfl (sc_takeWord hE g σ τ hσ 1 ht (by decide) hK) ml_X5_75 im_X5_takeWord sel_X5_takeWord ini_X5 cd_X5_takeWord ok_X5_takeWord rfl ⟨Nat.le_of_ble_eq_true rfl, Nat.le_of_ble_eq_true rfl⟩ ⟨Nat.zero_le _, Nat.zero_le _⟩ (by decide) rfl rfl rfl (rest := ([] : List Value)) rfl (Nat.le_of_ble_eq_true rfl) ?_
    have c2 : sc_takeWord_r 1 g = 0 := tw_f c1
    refine bv_weq (show (layB (sc_takeWord_w 1 g) σ τ) = (layB g σ τ) from by rw [tw_g c2]) ?_
    refine bv_if_eq (j := 19) C rfl rfl (fun _ => ?_) (fun h => absurd (c2) h)
    refine bv_blk C frk_X5 csk_X5 1 20 rfl (L1 := ([(0, .ref 24), (1, .ref 0)] : Lc)) (st1 := ([.ref 24] : List Value)) (w1 := (layB g σ τ)) (by rfl) ?_
    refine bv_ldcS (k := 0) (q := 200 + 0) C rfl rfl (by decide) (hK.1 0 (by decide)) ?_
    refine bv_fV1 C rfl (sc_takeWord hE g σ τ hσ 0 ht (by decide) hK) ml_X5_75 im_X5_takeWord sel_X5_takeWord ini_X5 cd_X5_takeWord ok_X5_takeWord rfl ⟨Nat.le_of_ble_eq_true rfl, Nat.le_of_ble_eq_true rfl⟩ ⟨Nat.zero_le _, Nat.zero_le _⟩ (by decide) rfl rfl rfl (rest := ([] : List Value)) rfl (Nat.le_of_ble_eq_true rfl) ?_
    by_cases c4 : (sc_takeWord_r 0 g) = 0
    · refine bv_weq (show (layB (sc_takeWord_w 0 g) σ τ) = (layB g σ τ) from by rw [tw_g c4]) ?_
      refine bv_if_eq (j := 27) C rfl rfl (fun _ => ?_) (fun h => absurd (c4) h)
      refine bv_blk C frk_X5 csk_X5 1 28 rfl (L1 := ([(0, .ref 24), (1, .ref 0)] : Lc)) (st1 := ([.ref 24] : List Value)) (w1 := (layB g σ τ)) (by rfl) ?_
      refine bv_ldcS (k := 2) (q := 200 + 2) C rfl rfl (by decide) (hK.1 2 (by decide)) ?_
      refine bv_fV1 C rfl (sc_takeWord hE g σ τ hσ 2 ht (by decide) hK) ml_X5_75 im_X5_takeWord sel_X5_takeWord ini_X5 cd_X5_takeWord ok_X5_takeWord rfl ⟨Nat.le_of_ble_eq_true rfl, Nat.le_of_ble_eq_true rfl⟩ ⟨Nat.zero_le _, Nat.zero_le _⟩ (by decide) rfl rfl rfl (rest := ([] : List Value)) rfl (Nat.le_of_ble_eq_true rfl) ?_
      by_cases c6 : (sc_takeWord_r 2 g) = 0
      · refine bv_weq (show (layB (sc_takeWord_w 2 g) σ τ) = (layB g σ τ) from by rw [tw_g c6]) ?_
        refine bv_if_eq (j := 38) C rfl rfl (fun _ => ?_) (fun h => absurd (c6) h)
        refine bv_blk C frk_X5 csk_X5 1 39 rfl (L1 := ([(0, .ref 24), (1, .ref 0)] : Lc)) (st1 := ([.ref 24] : List Value)) (w1 := (layB g σ τ)) (by rfl) ?_
        refine bv_ldcS (k := 3) (q := 200 + 3) C rfl rfl (by decide) (hK.1 3 (by decide)) ?_
        refine bv_fV1 C rfl (sc_takeWord hE g σ τ hσ 3 ht (by decide) hK) ml_X5_75 im_X5_takeWord sel_X5_takeWord ini_X5 cd_X5_takeWord ok_X5_takeWord rfl ⟨Nat.le_of_ble_eq_true rfl, Nat.le_of_ble_eq_true rfl⟩ ⟨Nat.zero_le _, Nat.zero_le _⟩ (by decide) rfl rfl rfl (rest := ([] : List Value)) rfl (Nat.le_of_ble_eq_true rfl) ?_
        by_cases c8 : (sc_takeWord_r 3 g) = 0
        · refine bv_weq (show (layB (sc_takeWord_w 3 g) σ τ) = (layB g σ τ) from by rw [tw_g c8]) ?_
          refine bv_if_eq (j := 49) C rfl rfl (fun _ => ?_) (fun h => absurd (c8) h)
          refine bv_blk C frk_X5 csk_X5 1 50 rfl (L1 := ([(0, .ref 24), (1, .ref 0)] : Lc)) (st1 := ([.ref 24] : List Value)) (w1 := (layB g σ τ)) (by rfl) ?_
          refine bv_ldcS (k := 4) (q := 200 + 4) C rfl rfl (by decide) (hK.1 4 (by decide)) ?_
          refine bv_fV1 C rfl (sc_takeWord hE g σ τ hσ 4 ht (by decide) hK) ml_X5_75 im_X5_takeWord sel_X5_takeWord ini_X5 cd_X5_takeWord ok_X5_takeWord rfl ⟨Nat.le_of_ble_eq_true rfl, Nat.le_of_ble_eq_true rfl⟩ ⟨Nat.zero_le _, Nat.zero_le _⟩ (by decide) rfl rfl rfl (rest := ([] : List Value)) rfl (Nat.le_of_ble_eq_true rfl) ?_
          by_cases c10 : (sc_takeWord_r 4 g) = 0
          · refine bv_weq (show (layB (sc_takeWord_w 4 g) σ τ) = (layB g σ τ) from by rw [tw_g c10]) ?_
            refine bv_if_eq (j := 60) C rfl rfl (fun _ => ?_) (fun h => absurd (c10) h)
            refine bv_blk C frk_X5 csk_X5 1 61 rfl (L1 := ([(0, .ref 24), (1, .ref 0)] : Lc)) (st1 := ([.ref 24] : List Value)) (w1 := (layB g σ τ)) (by rfl) ?_
            refine bv_fV0 C rfl (sc_reject hE g σ τ hσ) ml_X5_78 im_X5_reject sel_X5_reject ini_X5 cd_X5_reject ok_X5_reject rfl ⟨Nat.le_of_ble_eq_true rfl, Nat.le_of_ble_eq_true rfl⟩ ⟨Nat.zero_le _, Nat.zero_le _⟩ (by decide) rfl rfl rfl (rest := ([] : List Value)) rfl (Nat.le_of_ble_eq_true rfl) ?_
            exact bv_vret C rfl hr ⟨by (rfl), by (exact congrArg (fun x => (layB x σ τ)) (((if_pos c1).trans ((if_pos c4).trans ((if_pos c6).trans ((if_pos c8).trans ((if_pos c10).trans rfl)))))).symm)⟩
          · refine bv_weq (show (layB (sc_takeWord_w 4 g) σ τ) = (layB (nxW g) σ τ) from by rw [(tw_n c10).1]) ?_
            refine bv_if_eq (j := 60) C rfl rfl (fun h => absurd h (c10)) (fun _ => ?_)
            refine bv_blk C frk_X5 csk_X5 4 57 rfl (L1 := ([(0, .ref 24), (1, .ref 0)] : Lc)) (st1 := ([.int (9), .int (1), .ref 24, .ref 0] : List Value)) (w1 := (layB (nxW g) σ τ)) (by rfl) ?_
            refine bv_fV1 C rfl (sc_takeNumber hE (nxW g) σ τ hσ (1) (9) (tk_nx ht)) ml_X5_114 im_X5_takeNumber sel_X5_takeNumber ini_X5 cd_X5_takeNumber ok_X5_takeNumber rfl ⟨Nat.le_of_ble_eq_true rfl, Nat.le_of_ble_eq_true rfl⟩ ⟨Nat.zero_le _, Nat.zero_le _⟩ (by decide) rfl rfl rfl (rest := ([.ref 0] : List Value)) rfl (Nat.le_of_ble_eq_true rfl) ?_
            refine bv_blk C frk_X5 csk_X5 1 59 rfl (L1 := ([(0, .ref 24), (1, .ref 0)] : Lc)) (st1 := ([] : List Value)) (w1 := up2 (layB (tvw (1) (9) 1 (nxW g)) σ τ) 0 16 (.int (tvr (1) (9) 1 (nxW g)))) (by rfl) ?_
            refine bv_w (lb_up (o := 0) (k := 16) (a := 1) (b := 10) hσ (by decide) (by decide) (by rfl) (by rfl)) ?_
            refine bv_goto (j := 62) C rfl rfl ?_
            exact bv_vret C rfl hr ⟨by (rfl), by (exact congrArg (fun x => (layB x σ τ)) (((if_pos c1).trans ((if_pos c4).trans ((if_pos c6).trans ((if_pos c8).trans ((if_neg c10).trans rfl)))))).symm)⟩
        · refine bv_weq (show (layB (sc_takeWord_w 3 g) σ τ) = (layB (nxW g) σ τ) from by rw [(tw_n c8).1]) ?_
          refine bv_if_eq (j := 49) C rfl rfl (fun h => absurd h (c8)) (fun _ => ?_)
          refine bv_blk C frk_X5 csk_X5 4 46 rfl (L1 := ([(0, .ref 24), (1, .ref 0)] : Lc)) (st1 := ([.int (60), .int (0), .ref 24, .ref 0] : List Value)) (w1 := (layB (nxW g) σ τ)) (by rfl) ?_
          refine bv_fV1 C rfl (sc_takeNumber hE (nxW g) σ τ hσ (0) (60) (tk_nx ht)) ml_X5_114 im_X5_takeNumber sel_X5_takeNumber ini_X5 cd_X5_takeNumber ok_X5_takeNumber rfl ⟨Nat.le_of_ble_eq_true rfl, Nat.le_of_ble_eq_true rfl⟩ ⟨Nat.zero_le _, Nat.zero_le _⟩ (by decide) rfl rfl rfl (rest := ([.ref 0] : List Value)) rfl (Nat.le_of_ble_eq_true rfl) ?_
          refine bv_blk C frk_X5 csk_X5 1 48 rfl (L1 := ([(0, .ref 24), (1, .ref 0)] : Lc)) (st1 := ([] : List Value)) (w1 := up2 (layB (tvw (0) (60) 1 (nxW g)) σ τ) 0 13 (.int (tvr (0) (60) 1 (nxW g)))) (by rfl) ?_
          refine bv_w (lb_up (o := 0) (k := 13) (a := 1) (b := 7) hσ (by decide) (by decide) (by rfl) (by rfl)) ?_
          refine bv_goto (j := 62) C rfl rfl ?_
          exact bv_vret C rfl hr ⟨by (rfl), by (exact congrArg (fun x => (layB x σ τ)) (((if_pos c1).trans ((if_pos c4).trans ((if_pos c6).trans ((if_neg c8).trans rfl))))).symm)⟩
      · refine bv_weq (show (layB (sc_takeWord_w 2 g) σ τ) = (layB (nxW g) σ τ) from by rw [(tw_n c6).1]) ?_
        refine bv_if_eq (j := 38) C rfl rfl (fun h => absurd h (c6)) (fun _ => ?_)
        refine bv_blk C frk_X5 csk_X5 4 35 rfl (L1 := ([(0, .ref 24), (1, .ref 0)] : Lc)) (st1 := ([.int (200), .int (-200), .ref 24, .ref 0] : List Value)) (w1 := (layB (nxW g) σ τ)) (by rfl) ?_
        refine bv_fV1 C rfl (sc_takeSigned hE (nxW g) σ τ hσ (-200) (200) (tk_nx ht) hK) ml_X5_106 im_X5_takeSigned sel_X5_takeSigned ini_X5 cd_X5_takeSigned ok_X5_takeSigned rfl ⟨Nat.le_of_ble_eq_true rfl, Nat.le_of_ble_eq_true rfl⟩ ⟨Nat.zero_le _, Nat.zero_le _⟩ (by decide) rfl rfl rfl (rest := ([.ref 0] : List Value)) rfl (Nat.le_of_ble_eq_true rfl) ?_
        refine bv_blk C frk_X5 csk_X5 1 37 rfl (L1 := ([(0, .ref 24), (1, .ref 0)] : Lc)) (st1 := ([] : List Value)) (w1 := up2 (layB (sc_takeSigned_w (-200) (200) (nxW g)) σ τ) 0 12 (.int (sc_takeSigned_r (-200) (200) (nxW g)))) (by rfl) ?_
        refine bv_w (lb_up (o := 0) (k := 12) (a := 1) (b := 6) hσ (by decide) (by decide) (by rfl) (by rfl)) ?_
        refine bv_goto (j := 62) C rfl rfl ?_
        exact bv_vret C rfl hr ⟨by (rfl), by (exact congrArg (fun x => (layB x σ τ)) (((if_pos c1).trans ((if_pos c4).trans ((if_neg c6).trans rfl)))).symm)⟩
    · refine bv_weq (show (layB (sc_takeWord_w 0 g) σ τ) = (layB (nxW g) σ τ) from by rw [(tw_n c4).1]) ?_
      refine bv_if_eq (j := 27) C rfl rfl (fun h => absurd h (c4)) (fun _ => ?_)
      refine bv_blk C frk_X5 csk_X5 2 25 rfl (L1 := ([(0, .ref 24), (1, .ref 0)] : Lc)) (st1 := ([.ref 0, .ref 24] : List Value)) (w1 := (layB (nxW g) σ τ)) (by rfl) ?_
      refine bv_fV0 C rfl (sc_takeStation hE (nxW g) σ τ hσ (tk_nx ht)) ml_X5_101 im_X5_takeStation sel_X5_takeStation ini_X5 cd_X5_takeStation ok_X5_takeStation rfl ⟨Nat.le_of_ble_eq_true rfl, Nat.le_of_ble_eq_true rfl⟩ ⟨Nat.zero_le _, Nat.zero_le _⟩ (by decide) rfl rfl rfl (rest := ([] : List Value)) rfl (Nat.le_of_ble_eq_true rfl) ?_
      refine bv_goto (j := 62) C rfl rfl ?_
      exact bv_vret C rfl hr ⟨by (rfl), by (exact congrArg (fun x => (layB x σ τ)) (((if_pos c1).trans ((if_neg c4).trans rfl))).symm)⟩
  · refine bv_blk C frk_X5 csk_X5 3 7 rfl (L1 := ([(0, .ref 24), (1, .ref 0)] : Lc)) (st1 := ([.int (8), .int (g 1 12)] : List Value)) (w1 := (layB g σ τ)) (by rfl) ?_
    by_cases c16 : cl (g 1 12) < 8
    · have hn7 := c16
      refine bv_icmp_lt (j := 11) C rfl rfl (fun _ => ?_) (fun h => absurd (by rw [show (g 1 12) = nI (cl (g 1 12)) from hn]; exact (nI_lt (a := (cl (g 1 12))) (b := 8) (by omega) (by omega))) h)
      refine bv_blk C frk_X5 csk_X5 1 12 rfl (L1 := ([(0, .ref 24), (1, .ref 0)] : Lc)) (st1 := ([.ref 24] : List Value)) (w1 := (layB g σ τ)) (by rfl) ?_
      refine bv_ldcS (k := 1) (q := 200 + 1) C rfl rfl (by decide) (hK.1 1 (by decide)) ?_
      refine bv_fV1 C rfl (sc_takeWord hE g σ τ hσ 1 ht (by decide) hK) ml_X5_75 im_X5_takeWord sel_X5_takeWord ini_X5 cd_X5_takeWord ok_X5_takeWord rfl ⟨Nat.le_of_ble_eq_true rfl, Nat.le_of_ble_eq_true rfl⟩ ⟨Nat.zero_le _, Nat.zero_le _⟩ (by decide) rfl rfl rfl (rest := ([] : List Value)) rfl (Nat.le_of_ble_eq_true rfl) ?_
      by_cases c18 : (sc_takeWord_r 1 g) = 0
      · refine bv_weq (show (layB (sc_takeWord_w 1 g) σ τ) = (layB g σ τ) from by rw [tw_g c18]) ?_
        refine bv_if_eq (j := 19) C rfl rfl (fun _ => ?_) (fun h => absurd (c18) h)
        refine bv_blk C frk_X5 csk_X5 1 20 rfl (L1 := ([(0, .ref 24), (1, .ref 0)] : Lc)) (st1 := ([.ref 24] : List Value)) (w1 := (layB g σ τ)) (by rfl) ?_
        refine bv_ldcS (k := 0) (q := 200 + 0) C rfl rfl (by decide) (hK.1 0 (by decide)) ?_
        refine bv_fV1 C rfl (sc_takeWord hE g σ τ hσ 0 ht (by decide) hK) ml_X5_75 im_X5_takeWord sel_X5_takeWord ini_X5 cd_X5_takeWord ok_X5_takeWord rfl ⟨Nat.le_of_ble_eq_true rfl, Nat.le_of_ble_eq_true rfl⟩ ⟨Nat.zero_le _, Nat.zero_le _⟩ (by decide) rfl rfl rfl (rest := ([] : List Value)) rfl (Nat.le_of_ble_eq_true rfl) ?_
        by_cases c20 : (sc_takeWord_r 0 g) = 0
        · refine bv_weq (show (layB (sc_takeWord_w 0 g) σ τ) = (layB g σ τ) from by rw [tw_g c20]) ?_
          refine bv_if_eq (j := 27) C rfl rfl (fun _ => ?_) (fun h => absurd (c20) h)
          refine bv_blk C frk_X5 csk_X5 1 28 rfl (L1 := ([(0, .ref 24), (1, .ref 0)] : Lc)) (st1 := ([.ref 24] : List Value)) (w1 := (layB g σ τ)) (by rfl) ?_
          refine bv_ldcS (k := 2) (q := 200 + 2) C rfl rfl (by decide) (hK.1 2 (by decide)) ?_
          refine bv_fV1 C rfl (sc_takeWord hE g σ τ hσ 2 ht (by decide) hK) ml_X5_75 im_X5_takeWord sel_X5_takeWord ini_X5 cd_X5_takeWord ok_X5_takeWord rfl ⟨Nat.le_of_ble_eq_true rfl, Nat.le_of_ble_eq_true rfl⟩ ⟨Nat.zero_le _, Nat.zero_le _⟩ (by decide) rfl rfl rfl (rest := ([] : List Value)) rfl (Nat.le_of_ble_eq_true rfl) ?_
          by_cases c22 : (sc_takeWord_r 2 g) = 0
          · refine bv_weq (show (layB (sc_takeWord_w 2 g) σ τ) = (layB g σ τ) from by rw [tw_g c22]) ?_
            refine bv_if_eq (j := 38) C rfl rfl (fun _ => ?_) (fun h => absurd (c22) h)
            refine bv_blk C frk_X5 csk_X5 1 39 rfl (L1 := ([(0, .ref 24), (1, .ref 0)] : Lc)) (st1 := ([.ref 24] : List Value)) (w1 := (layB g σ τ)) (by rfl) ?_
            refine bv_ldcS (k := 3) (q := 200 + 3) C rfl rfl (by decide) (hK.1 3 (by decide)) ?_
            refine bv_fV1 C rfl (sc_takeWord hE g σ τ hσ 3 ht (by decide) hK) ml_X5_75 im_X5_takeWord sel_X5_takeWord ini_X5 cd_X5_takeWord ok_X5_takeWord rfl ⟨Nat.le_of_ble_eq_true rfl, Nat.le_of_ble_eq_true rfl⟩ ⟨Nat.zero_le _, Nat.zero_le _⟩ (by decide) rfl rfl rfl (rest := ([] : List Value)) rfl (Nat.le_of_ble_eq_true rfl) ?_
            by_cases c24 : (sc_takeWord_r 3 g) = 0
            · refine bv_weq (show (layB (sc_takeWord_w 3 g) σ τ) = (layB g σ τ) from by rw [tw_g c24]) ?_
              refine bv_if_eq (j := 49) C rfl rfl (fun _ => ?_) (fun h => absurd (c24) h)
              refine bv_blk C frk_X5 csk_X5 1 50 rfl (L1 := ([(0, .ref 24), (1, .ref 0)] : Lc)) (st1 := ([.ref 24] : List Value)) (w1 := (layB g σ τ)) (by rfl) ?_
              refine bv_ldcS (k := 4) (q := 200 + 4) C rfl rfl (by decide) (hK.1 4 (by decide)) ?_
              refine bv_fV1 C rfl (sc_takeWord hE g σ τ hσ 4 ht (by decide) hK) ml_X5_75 im_X5_takeWord sel_X5_takeWord ini_X5 cd_X5_takeWord ok_X5_takeWord rfl ⟨Nat.le_of_ble_eq_true rfl, Nat.le_of_ble_eq_true rfl⟩ ⟨Nat.zero_le _, Nat.zero_le _⟩ (by decide) rfl rfl rfl (rest := ([] : List Value)) rfl (Nat.le_of_ble_eq_true rfl) ?_
              by_cases c26 : (sc_takeWord_r 4 g) = 0
              · refine bv_weq (show (layB (sc_takeWord_w 4 g) σ τ) = (layB g σ τ) from by rw [tw_g c26]) ?_
                refine bv_if_eq (j := 60) C rfl rfl (fun _ => ?_) (fun h => absurd (c26) h)
                refine bv_blk C frk_X5 csk_X5 1 61 rfl (L1 := ([(0, .ref 24), (1, .ref 0)] : Lc)) (st1 := ([.ref 24] : List Value)) (w1 := (layB g σ τ)) (by rfl) ?_
                refine bv_fV0 C rfl (sc_reject hE g σ τ hσ) ml_X5_78 im_X5_reject sel_X5_reject ini_X5 cd_X5_reject ok_X5_reject rfl ⟨Nat.le_of_ble_eq_true rfl, Nat.le_of_ble_eq_true rfl⟩ ⟨Nat.zero_le _, Nat.zero_le _⟩ (by decide) rfl rfl rfl (rest := ([] : List Value)) rfl (Nat.le_of_ble_eq_true rfl) ?_
                exact bv_vret C rfl hr ⟨by (rfl), by (exact congrArg (fun x => (layB x σ τ)) (((if_neg c1).trans ((if_pos c16).trans ((if_pos c18).trans ((if_pos c20).trans ((if_pos c22).trans ((if_pos c24).trans ((if_pos c26).trans rfl)))))))).symm)⟩
              · refine bv_weq (show (layB (sc_takeWord_w 4 g) σ τ) = (layB (nxW g) σ τ) from by rw [(tw_n c26).1]) ?_
                refine bv_if_eq (j := 60) C rfl rfl (fun h => absurd h (c26)) (fun _ => ?_)
                refine bv_blk C frk_X5 csk_X5 4 57 rfl (L1 := ([(0, .ref 24), (1, .ref 0)] : Lc)) (st1 := ([.int (9), .int (1), .ref 24, .ref 0] : List Value)) (w1 := (layB (nxW g) σ τ)) (by rfl) ?_
                refine bv_fV1 C rfl (sc_takeNumber hE (nxW g) σ τ hσ (1) (9) (tk_nx ht)) ml_X5_114 im_X5_takeNumber sel_X5_takeNumber ini_X5 cd_X5_takeNumber ok_X5_takeNumber rfl ⟨Nat.le_of_ble_eq_true rfl, Nat.le_of_ble_eq_true rfl⟩ ⟨Nat.zero_le _, Nat.zero_le _⟩ (by decide) rfl rfl rfl (rest := ([.ref 0] : List Value)) rfl (Nat.le_of_ble_eq_true rfl) ?_
                refine bv_blk C frk_X5 csk_X5 1 59 rfl (L1 := ([(0, .ref 24), (1, .ref 0)] : Lc)) (st1 := ([] : List Value)) (w1 := up2 (layB (tvw (1) (9) 1 (nxW g)) σ τ) 0 16 (.int (tvr (1) (9) 1 (nxW g)))) (by rfl) ?_
                refine bv_w (lb_up (o := 0) (k := 16) (a := 1) (b := 10) hσ (by decide) (by decide) (by rfl) (by rfl)) ?_
                refine bv_goto (j := 62) C rfl rfl ?_
                exact bv_vret C rfl hr ⟨by (rfl), by (exact congrArg (fun x => (layB x σ τ)) (((if_neg c1).trans ((if_pos c16).trans ((if_pos c18).trans ((if_pos c20).trans ((if_pos c22).trans ((if_pos c24).trans ((if_neg c26).trans rfl)))))))).symm)⟩
            · refine bv_weq (show (layB (sc_takeWord_w 3 g) σ τ) = (layB (nxW g) σ τ) from by rw [(tw_n c24).1]) ?_
              refine bv_if_eq (j := 49) C rfl rfl (fun h => absurd h (c24)) (fun _ => ?_)
              refine bv_blk C frk_X5 csk_X5 4 46 rfl (L1 := ([(0, .ref 24), (1, .ref 0)] : Lc)) (st1 := ([.int (60), .int (0), .ref 24, .ref 0] : List Value)) (w1 := (layB (nxW g) σ τ)) (by rfl) ?_
              refine bv_fV1 C rfl (sc_takeNumber hE (nxW g) σ τ hσ (0) (60) (tk_nx ht)) ml_X5_114 im_X5_takeNumber sel_X5_takeNumber ini_X5 cd_X5_takeNumber ok_X5_takeNumber rfl ⟨Nat.le_of_ble_eq_true rfl, Nat.le_of_ble_eq_true rfl⟩ ⟨Nat.zero_le _, Nat.zero_le _⟩ (by decide) rfl rfl rfl (rest := ([.ref 0] : List Value)) rfl (Nat.le_of_ble_eq_true rfl) ?_
              refine bv_blk C frk_X5 csk_X5 1 48 rfl (L1 := ([(0, .ref 24), (1, .ref 0)] : Lc)) (st1 := ([] : List Value)) (w1 := up2 (layB (tvw (0) (60) 1 (nxW g)) σ τ) 0 13 (.int (tvr (0) (60) 1 (nxW g)))) (by rfl) ?_
              refine bv_w (lb_up (o := 0) (k := 13) (a := 1) (b := 7) hσ (by decide) (by decide) (by rfl) (by rfl)) ?_
              refine bv_goto (j := 62) C rfl rfl ?_
              exact bv_vret C rfl hr ⟨by (rfl), by (exact congrArg (fun x => (layB x σ τ)) (((if_neg c1).trans ((if_pos c16).trans ((if_pos c18).trans ((if_pos c20).trans ((if_pos c22).trans ((if_neg c24).trans rfl))))))).symm)⟩
          · refine bv_weq (show (layB (sc_takeWord_w 2 g) σ τ) = (layB (nxW g) σ τ) from by rw [(tw_n c22).1]) ?_
            refine bv_if_eq (j := 38) C rfl rfl (fun h => absurd h (c22)) (fun _ => ?_)
            refine bv_blk C frk_X5 csk_X5 4 35 rfl (L1 := ([(0, .ref 24), (1, .ref 0)] : Lc)) (st1 := ([.int (200), .int (-200), .ref 24, .ref 0] : List Value)) (w1 := (layB (nxW g) σ τ)) (by rfl) ?_
            refine bv_fV1 C rfl (sc_takeSigned hE (nxW g) σ τ hσ (-200) (200) (tk_nx ht) hK) ml_X5_106 im_X5_takeSigned sel_X5_takeSigned ini_X5 cd_X5_takeSigned ok_X5_takeSigned rfl ⟨Nat.le_of_ble_eq_true rfl, Nat.le_of_ble_eq_true rfl⟩ ⟨Nat.zero_le _, Nat.zero_le _⟩ (by decide) rfl rfl rfl (rest := ([.ref 0] : List Value)) rfl (Nat.le_of_ble_eq_true rfl) ?_
            refine bv_blk C frk_X5 csk_X5 1 37 rfl (L1 := ([(0, .ref 24), (1, .ref 0)] : Lc)) (st1 := ([] : List Value)) (w1 := up2 (layB (sc_takeSigned_w (-200) (200) (nxW g)) σ τ) 0 12 (.int (sc_takeSigned_r (-200) (200) (nxW g)))) (by rfl) ?_
            refine bv_w (lb_up (o := 0) (k := 12) (a := 1) (b := 6) hσ (by decide) (by decide) (by rfl) (by rfl)) ?_
            refine bv_goto (j := 62) C rfl rfl ?_
            exact bv_vret C rfl hr ⟨by (rfl), by (exact congrArg (fun x => (layB x σ τ)) (((if_neg c1).trans ((if_pos c16).trans ((if_pos c18).trans ((if_pos c20).trans ((if_neg c22).trans rfl)))))).symm)⟩
        · refine bv_weq (show (layB (sc_takeWord_w 0 g) σ τ) = (layB (nxW g) σ τ) from by rw [(tw_n c20).1]) ?_
          refine bv_if_eq (j := 27) C rfl rfl (fun h => absurd h (c20)) (fun _ => ?_)
          refine bv_blk C frk_X5 csk_X5 2 25 rfl (L1 := ([(0, .ref 24), (1, .ref 0)] : Lc)) (st1 := ([.ref 0, .ref 24] : List Value)) (w1 := (layB (nxW g) σ τ)) (by rfl) ?_
          refine bv_fV0 C rfl (sc_takeStation hE (nxW g) σ τ hσ (tk_nx ht)) ml_X5_101 im_X5_takeStation sel_X5_takeStation ini_X5 cd_X5_takeStation ok_X5_takeStation rfl ⟨Nat.le_of_ble_eq_true rfl, Nat.le_of_ble_eq_true rfl⟩ ⟨Nat.zero_le _, Nat.zero_le _⟩ (by decide) rfl rfl rfl (rest := ([] : List Value)) rfl (Nat.le_of_ble_eq_true rfl) ?_
          refine bv_goto (j := 62) C rfl rfl ?_
          exact bv_vret C rfl hr ⟨by (rfl), by (exact congrArg (fun x => (layB x σ τ)) (((if_neg c1).trans ((if_pos c16).trans ((if_pos c18).trans ((if_neg c20).trans rfl))))).symm)⟩
      · refine bv_weq (show (layB (sc_takeWord_w 1 g) σ τ) = (layB (nxW g) σ τ) from by rw [(tw_n c18).1]) ?_
        refine bv_if_eq (j := 19) C rfl rfl (fun h => absurd h (c18)) (fun _ => ?_)
        refine bv_blk C frk_X5 csk_X5 2 17 rfl (L1 := ([(0, .ref 24), (1, .ref 0)] : Lc)) (st1 := ([.ref 0, .ref 24] : List Value)) (w1 := (layB (nxW g) σ τ)) (by rfl) ?_
        refine bv_fV0 C rfl (sc_takePath hE (nxW g) σ τ hσ (tk_nx ht) hK (nxn hn) (nxl hn7)) ml_X5_96 im_X5_takePath sel_X5_takePath ini_X5 cd_X5_takePath ok_X5_takePath rfl ⟨Nat.le_of_ble_eq_true rfl, Nat.le_of_ble_eq_true rfl⟩ ⟨Nat.zero_le _, Nat.zero_le _⟩ (by decide) rfl rfl rfl (rest := ([] : List Value)) rfl (Nat.le_of_ble_eq_true rfl) ?_
        refine bv_goto (j := 62) C rfl rfl ?_
        exact bv_vret C rfl hr ⟨by (rfl), by (exact congrArg (fun x => (layB x σ τ)) (((if_neg c1).trans ((if_pos c16).trans ((if_neg c18).trans rfl)))).symm)⟩
    · have hn6 := c16
      refine bv_icmp_lt (j := 11) C rfl rfl (fun h => absurd h (by rw [show (g 1 12) = nI (cl (g 1 12)) from hn]; exact (nI_nlt (a := (cl (g 1 12))) (b := 8) (by omega) (by omega)))) (fun _ => ?_)
      refine bv_blk C frk_X5 csk_X5 1 9 rfl (L1 := ([(0, .ref 24), (1, .ref 0)] : Lc)) (st1 := ([.ref 24] : List Value)) (w1 := (layB g σ τ)) (by rfl) ?_
      refine bv_fV0 C rfl (sc_reject hE g σ τ hσ) ml_X5_78 im_X5_reject sel_X5_reject ini_X5 cd_X5_reject ok_X5_reject rfl ⟨Nat.le_of_ble_eq_true rfl, Nat.le_of_ble_eq_true rfl⟩ ⟨Nat.zero_le _, Nat.zero_le _⟩ (by decide) rfl rfl rfl (rest := ([] : List Value)) rfl (Nat.le_of_ble_eq_true rfl) ?_
      refine bv_goto (j := 62) C rfl rfl ?_
      exact bv_vret C rfl hr ⟨by (rfl), by (exact congrArg (fun x => (layB x σ τ)) (((if_neg c1).trans ((if_neg c16).trans rfl))).symm)⟩
