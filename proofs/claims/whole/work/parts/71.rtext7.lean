def tdI (g : Nat → Nat → Int32) : Prop := g 0 11 = nI (cl (g 0 11)) ∧ cl (g 0 11) ≤ 8
theorem td_keep {g X : Nat → Nat → Int32} (h : tdI g) (hx : X 0 11 = g 0 11) : tdI X := by
  unfold tdI
  rw [hx]
  exact h
theorem td_up {g X : Nat → Nat → Int32} {y z : Int32} (h : tdI g) (hn : ¬ g 0 11 = 8) (hx : z = g 0 11) : tdI (ug (ug X 0 11 (z + 1)) 1 12 y) := by
  have e : (ug (ug X 0 11 (z + 1)) 1 12 y) 0 11 = z + 1 := (ug_ne (by omega)).trans ug_same
  have h8 : cl (g 0 11) ≠ 8 := fun q => hn (by rw [h.1, q]; rfl)
  have e2 : z + 1 = nI (cl (g 0 11) + 1) := by rw [hx]; exact nIi h.1
  have h2 := h.2
  unfold tdI
  rw [e, e2]
  unfold cl
  rw [nI_clamp (by unfold cl at h2; omega)]
  refine ⟨rfl, ?_⟩
  unfold cl at h8 h2
  omega
def tdK (g g' : Nat → Nat → Int32) : Prop := g' 0 11 = g 0 11
theorem tdK_nx {g X : Nat → Nat → Int32} (h : tdK g X) : tdK g (nxW X) := (kq_nx 0 11 (by omega)).trans h
theorem tdK_rd {g X : Nat → Nat → Int32} {lo hi sg : Int32} (h : tdK g X) : tdK g (rdw lo hi sg X) := (kq_rd 0 11 (by omega)).trans h
theorem tdK_rs {g X : Nat → Nat → Int32} {lo hi : Int32} (h : tdK g X) : tdK g (rsw lo hi X) := (kq_rs 0 11 (by omega)).trans h
theorem tdK_ug {g X : Nat → Nat → Int32} {a k : Nat} {x : Int32} (hk : ¬ (a = 0 ∧ k = 11)) (h : tdK g X) : tdK g (ug X a k x) := (ug_ne (by omega)).trans h
theorem iteQ {P : (Nat → Nat → Int32) → Prop} {p : Prop} [Decidable p] {a b : Nat → Nat → Int32} (ha : p → P a) (hb : ¬ p → P b) : P (if p then a else b) := by
  by_cases h : p
  · rw [if_pos h]; exact ha h
  · rw [if_neg h]; exact hb h
theorem td_ct_readsStation {g : Nat → Nat → Int32} (h0 : tdI g) : tdI (ct_readsStation_w g) := by
  have h_v1 : tdK g (ct_readsStation_v1 g) := (tdK_nx rfl)
  have h_v2 : tdK g (ct_readsStation_v2 g) := (tdK_rd h_v1)
  have h_v3 : tdK g (ct_readsStation_v3 g) := (tdK_rd h_v2)
  have h_v4 : tdK g (ct_readsStation_v4 g) := (tdK_rd h_v3)
  have h_v5 : tdK g (ct_readsStation_v5 g) := (tdK_rd h_v4)
  have h_v6 : tdK g (ct_readsStation_v6 g) := (tdK_ug (by omega) h_v5)
  have h_v7 : tdK g (ct_readsStation_v7 g) := (tdK_ug (by omega) h_v6)
  have h_v8 : tdK g (ct_readsStation_v8 g) := (tdK_ug (by omega) h_v7)
  unfold ct_readsStation_w
  exact (iteQ (P := tdI) (fun _ => (td_keep h0 h_v2)) (fun c1 => (iteQ (P := tdI) (fun _ => (td_keep h0 h_v3)) (fun c2 => (iteQ (P := tdI) (fun _ => (td_keep h0 h_v4)) (fun c3 => (iteQ (P := tdI) (fun _ => (td_keep h0 h_v5)) (fun c4 => (iteQ (P := tdI) (fun _ => (td_keep h0 h_v5)) (fun c5 => (td_keep h0 h_v8)))))))))))
theorem td_ct_set6 {g : Nat → Nat → Int32} (h0 : tdI g) : tdI (ct_set6_w g) := by
  have h_v1 : tdK g (ct_set6_v1 g) := (tdK_nx rfl)
  have h_v2 : tdK g (ct_set6_v2 g) := (tdK_rs h_v1)
  unfold ct_set6_w
  exact (iteQ (P := tdI) (fun _ => (td_keep h0 (tdK_ug (by omega) h_v2))) (fun c1 => (iteQ (P := tdI) (fun _ => (td_keep h0 (tdK_ug (by omega) h_v2))) (fun c2 => (td_keep h0 (tdK_ug (by omega) h_v2))))))
theorem td_ct_set7 {g : Nat → Nat → Int32} (h0 : tdI g) : tdI (ct_set7_w g) := by
  have h_v1 : tdK g (ct_set7_v1 g) := (tdK_nx rfl)
  have h_v2 : tdK g (ct_set7_v2 g) := (tdK_rd h_v1)
  unfold ct_set7_w
  exact (iteQ (P := tdI) (fun _ => (td_keep h0 (tdK_ug (by omega) h_v2))) (fun c1 => (iteQ (P := tdI) (fun _ => (td_keep h0 (tdK_ug (by omega) h_v2))) (fun c2 => (td_keep h0 (tdK_ug (by omega) h_v2))))))
theorem td_ct_set10 {g : Nat → Nat → Int32} (h0 : tdI g) : tdI (ct_set10_w g) := by
  have h_v1 : tdK g (ct_set10_v1 g) := (tdK_nx rfl)
  have h_v2 : tdK g (ct_set10_v2 g) := (tdK_rd h_v1)
  unfold ct_set10_w
  exact (iteQ (P := tdI) (fun _ => (td_keep h0 (tdK_ug (by omega) h_v2))) (fun c1 => (iteQ (P := tdI) (fun _ => (td_keep h0 (tdK_ug (by omega) h_v2))) (fun c2 => (td_keep h0 (tdK_ug (by omega) h_v2))))))
theorem td_ct_readsPath {g : Nat → Nat → Int32} (h0 : tdI g) : tdI (ct_readsPath_w g) := by
  have h_v1 : tdK g (ct_readsPath_v1 g) := (tdK_nx rfl)
  have h_v2 : tdK g (ct_readsPath_v2 g) := (tdK_rd h_v1)
  have h_v3 : tdK g (ct_readsPath_v3 g) := (tdK_rd (tdK_ug (by omega) h_v2))
  have h_v4 : tdK g (ct_readsPath_v4 g) := (tdK_rd (tdK_ug (by omega) h_v3))
  have h_v5 : tdK g (ct_readsPath_v5 g) := (tdK_ug (by omega) (tdK_ug (by omega) (tdK_ug (by omega) (tdK_ug (by omega) (tdK_ug (by omega) h_v4)))))
  have h_v6 : tdK g (ct_readsPath_v6 g) := (tdK_ug (by omega) h_v5)
  have h_v7 : tdK g (ct_readsPath_v7 g) := (tdK_ug (by omega) h_v6)
  have h_v8 : tdK g (ct_readsPath_v8 g) := (tdK_ug (by omega) h_v7)
  have h_v9 : tdK g (ct_readsPath_v9 g) := (tdK_ug (by omega) h_v8)
  have h_v10 : tdK g (ct_readsPath_v10 g) := (tdK_ug (by omega) h_v9)
  have h_v11 : tdK g (ct_readsPath_v11 g) := (tdK_nx (tdK_ug (by omega) (tdK_ug (by omega) (tdK_ug (by omega) (tdK_ug (by omega) h_v4)))))
  have h_v12 : tdK g (ct_readsPath_v12 g) := (tdK_rs h_v11)
  have h_v13 : tdK g (ct_readsPath_v13 g) := (tdK_rs (tdK_ug (by omega) h_v12))
  have h_v14 : tdK g (ct_readsPath_v14 g) := (tdK_ug (by omega) (tdK_ug (by omega) h_v13))
  have h_v15 : tdK g (ct_readsPath_v15 g) := (tdK_ug (by omega) h_v14)
  have h_v16 : tdK g (ct_readsPath_v16 g) := (tdK_ug (by omega) h_v15)
  have h_v17 : tdK g (ct_readsPath_v17 g) := (tdK_ug (by omega) h_v16)
  have h_v18 : tdK g (ct_readsPath_v18 g) := (tdK_ug (by omega) h_v17)
  have h_v19 : tdK g (ct_readsPath_v19 g) := (tdK_ug (by omega) h_v18)
  unfold ct_readsPath_w
  exact (iteQ (P := tdI) (fun _ => h0) (fun c1 => (iteQ (P := tdI) (fun _ => (td_keep h0 h_v2)) (fun c2 => (iteQ (P := tdI) (fun _ => (td_keep h0 h_v3)) (fun c3 => (iteQ (P := tdI) (fun _ => (td_keep h0 h_v4)) (fun c4 => (iteQ (P := tdI) (fun _ => (iteQ (P := tdI) (fun _ => (td_up h0 c1 h_v4)) (fun c6 => (td_up h0 c1 h_v10)))) (fun c5 => (iteQ (P := tdI) (fun _ => (td_keep h0 h_v12)) (fun c7 => (iteQ (P := tdI) (fun _ => (td_keep h0 h_v13)) (fun c8 => (iteQ (P := tdI) (fun _ => (td_up h0 c1 h_v13)) (fun c9 => (td_up h0 c1 h_v19)))))))))))))))))
theorem td_ct_readsItem {g : Nat → Nat → Int32} (h0 : tdI g) : tdI (ct_readsItem_w g) := by
  unfold ct_readsItem_w
  exact (iteQ (P := tdI) (fun _ => (iteQ (P := tdI) (fun _ => (iteQ (P := tdI) (fun _ => (iteQ (P := tdI) (fun _ => (iteQ (P := tdI) (fun _ => h0) (fun c5 => (td_ct_set10 h0)))) (fun c4 => (td_ct_set7 h0)))) (fun c3 => (td_ct_set6 h0)))) (fun c2 => (td_ct_readsPath h0)))) (fun c1 => (td_ct_readsStation h0)))
theorem tk_ugT {g : Nat → Nat → Int32} {Ln f b : Nat} {x : Int32} (h : tokI g Ln f b) : tokI (ug g 0 16 x) Ln f b := ⟨(ug_ne (by omega)).trans h.1, h.2.1, (ug_ne (by omega)).trans h.2.2.1, (ug_ne (by omega)).trans h.2.2.2.1, h.2.2.2.2⟩
/-- the reader goes on -/
def rl : Nat → Int32 → (Nat → Nat → Int32) → Int32 × (Nat → Nat → Int32)
  | 0, s, g => (s, g)
  | q + 1, s, g => if s = 0 then (s, g) else if cl (g 0 4) ≤ cl (g 0 9) then (s, g) else if g 3 (cl (g 0 9)) = 59 then rl q (ct_readsItem_r (nxW g)) (ct_readsItem_w (nxW g)) else (0, g)
theorem rl_0 {s : Int32} {g : Nat → Nat → Int32} : rl 0 s g = (s, g) := rfl
theorem rl_z {q : Nat} {s : Int32} {g : Nat → Nat → Int32} (h : s = 0) : rl (q + 1) s g = (s, g) := if_pos h
theorem rl_e {q : Nat} {s : Int32} {g : Nat → Nat → Int32} (h : ¬ s = 0) (h1 : cl (g 0 4) ≤ cl (g 0 9)) : rl (q + 1) s g = (s, g) := (if_neg h).trans (if_pos h1)
theorem rl_n {q : Nat} {s : Int32} {g : Nat → Nat → Int32} (h : ¬ s = 0) (h1 : cl (g 0 9) < cl (g 0 4)) (h2 : ¬ g 3 (cl (g 0 9)) = 59) : rl (q + 1) s g = (0, g) := (if_neg h).trans ((if_neg (by omega)).trans (if_neg h2))
theorem rl_s {q : Nat} {s : Int32} {g : Nat → Nat → Int32} (h : ¬ s = 0) (h1 : cl (g 0 9) < cl (g 0 4)) (h2 : g 3 (cl (g 0 9)) = 59) : rl (q + 1) s g = rl q (ct_readsItem_r (nxW g)) (ct_readsItem_w (nxW g)) := (if_neg h).trans ((if_neg (by omega)).trans (if_pos h2))
theorem rl_01 : ∀ (q : Nat) (s : Int32) (g : Nat → Nat → Int32), (s = 0 ∨ s = 1) → ((rl q s g).1 = 0 ∨ (rl q s g).1 = 1) := by
  intro q
  induction q with
  | zero => intro s g h; exact h
  | succ q ih =>
    intro s g h
    by_cases c1 : s = 0
    · rw [rl_z c1]; exact h
    · rcases (by omega : cl (g 0 4) ≤ cl (g 0 9) ∨ cl (g 0 9) < cl (g 0 4)) with c2 | c2
      · rw [rl_e c1 c2]; exact h
      · by_cases c3 : g 3 (cl (g 0 9)) = 59
        · rw [rl_s c1 c2 c3]; exact ih _ _ ct_readsItem_01
        · rw [rl_n c1 c2 c3]; exact Or.inl rfl
def rd0 (d : Int32) (g : Nat → Nat → Int32) : Nat → Nat → Int32 := nxW (ug (ug (ug g 0 12 d) 0 11 0) 0 10 0)
def rdZ (d : Int32) (g : Nat → Nat → Int32) : Int32 × (Nat → Nat → Int32) := rl 121 (ct_readsItem_r (rd0 d g)) (ct_readsItem_w (rd0 d g))
theorem rdZ_01 {d : Int32} {g : Nat → Nat → Int32} : (rdZ d g).1 = 0 ∨ (rdZ d g).1 = 1 := by
  unfold rdZ
  exact rl_01 _ _ _ ct_readsItem_01
/-- the text's length -/
def lnI (g : Nat → Nat → Int32) : Prop := g 0 4 = nI (cl (g 0 4)) ∧ cl (g 0 4) ≤ 120
theorem nx_0 {d : Int32} {g : Nat → Nat → Int32} : rd0 d g = ntG (cl (g 0 4)) 0 (ug (ug (ug g 0 12 d) 0 11 0) 0 10 0) := by
  unfold rd0 nxW
  have e1 : (ug (ug (ug g 0 12 d) 0 11 0) 0 10 0) 0 4 = g 0 4 := (ug_ne (by omega)).trans ((ug_ne (by omega)).trans (ug_ne (by omega)))
  have e2 : (ug (ug (ug g 0 12 d) 0 11 0) 0 10 0) 0 10 = 0 := ug_same
  rw [e1, e2]
  rfl
theorem tk_0 {d : Int32} {g : Nat → Nat → Int32} (h : lnI g) : tkI (rd0 d g) := by
  rw [nx_0]
  exact ⟨_, _, _, tok_nt ((ug_ne (by omega)).trans ((ug_ne (by omega)).trans ((ug_ne (by omega)).trans h.1))) h.2 (Nat.zero_le _)⟩
theorem td_0 {d : Int32} {g : Nat → Nat → Int32} : tdI (rd0 d g) := by
  have e : (rd0 d g) 0 11 = 0 := (kq_nx 0 11 (by omega)).trans ((ug_ne (by omega)).trans ug_same)
  unfold tdI
  rw [e]
  exact ⟨rfl, by decide⟩
/-- the place goes on -/
def adP (Ln m : Nat) (g : Nat → Nat → Int32) : Prop := tkI g ∧ cl (g 0 4) = Ln ∧ m ≤ cl (g 0 9)
theorem cl_nI {n : Nat} (h : n < 2 ^ 31) : cl (nI n) = n := nI_clamp h
theorem ad_nt {Ln m f b b0 : Nat} {g : Nat → Nat → Int32} (h : tokI g Ln f b) (hb : m ≤ b0) (hb2 : b0 ≤ Ln) : adP Ln m (ntG Ln b0 g) := by
  have z := tok_nt (b0 := b0) h.1 h.2.1 hb2
  have z2 := ntF_b (t := g 3) hb2
  have hL := h.2.1
  refine ⟨⟨_, _, _, z⟩, ?_, ?_⟩
  · rw [z.1]; exact cl_nI (by omega)
  · rw [z.2.2.1, cl_nI (by omega)]; omega
theorem ad_clo {Ln m : Nat} : clo (adP Ln m) := by
  have hrd : ∀ lo hi sg g f b, tokI g Ln f b → m ≤ f → adP Ln m (rdG g lo hi sg Ln f b) := by
    intro lo hi sg g f b h hm
    unfold rdG
    split
    · exact ad_nt (tk_ugT h) (by have := h.2.2.2.2.1; omega) h.2.2.2.2.2.1
    · refine ⟨⟨_, _, _, h⟩, ?_, ?_⟩
      · rw [h.1]; exact cl_nI (by have := h.2.1; omega)
      · rw [h.2.2.1, cl_nI (by have := h.2.1; have := h.2.2.2.2.1; have := h.2.2.2.2.2.1; omega)]; exact hm
  refine ⟨fun g h => ?_, fun lo hi sg g h => ?_, fun lo hi g h => ?_, fun g a k x hk h => ?_⟩
  · obtain ⟨h1, rfl, h3⟩ := h
    have z := tk_cl h1
    exact ad_nt z (by have := z.2.2.2.2.1; omega) z.2.2.2.2.2.1
  · obtain ⟨h1, rfl, h3⟩ := h
    exact hrd lo hi sg g _ _ (tk_cl h1) h3
  · obtain ⟨h1, rfl, h3⟩ := h
    have z := tk_cl h1
    unfold rsw rsG
    split
    · exact hrd lo hi _ _ _ _ (tok_nt z.1 z.2.1 z.2.2.2.2.2.1) (by have z2 := ntF_b (t := g 3) z.2.2.2.2.2.1; have := z.2.2.2.2.1; omega)
    · exact hrd lo hi _ _ _ _ z h3
  · obtain ⟨h1, h2, h3⟩ := h
    refine ⟨tk_ug hk h1, ?_, ?_⟩
    · rw [show ug g a k x 0 4 = g 0 4 from ug_ne (by omega)]; exact h2
    · rw [show ug g a k x 0 9 = g 0 9 from ug_ne (by omega)]; exact h3
theorem ad_step {g : Nat → Nat → Int32} (h : tkI g) (h1 : cl (g 0 9) < cl (g 0 4)) : adP (cl (g 0 4)) (cl (g 0 9) + 1) (ct_readsItem_w (nxW g)) := by
  have z := tk_cl h
  exact clo_ct_readsItem ad_clo (ad_nt z (by have := z.2.2.2.2.2.2 h1; omega) z.2.2.2.2.2.1)
theorem td_nx {g : Nat → Nat → Int32} (h : tdI g) : tdI (nxW g) := td_keep h (kq_nx 0 11 (by omega))
theorem ad_rd0 {d : Int32} {g : Nat → Nat → Int32} (h : lnI g) : adP (cl (g 0 4)) 0 (rd0 d g) := by
  have z := tk_0 (d := d) h
  refine ⟨z, ?_, Nat.zero_le _⟩
  rw [show (rd0 d g) 0 4 = g 0 4 from (kq_nx 0 4 (by omega)).trans ((ug_ne (by omega)).trans ((ug_ne (by omega)).trans (ug_ne (by omega))))]
set_option maxRecDepth 100000 in
set_option maxHeartbeats 8000000 in
theorem ct_reads0 {l : Launch} {D : va_G} {cA : FieldType → ClassId} {z0 : Nat} {SK SV : Nat → Nat} {ad : Nat → Nat} (hE : aD (fun q => z0 ≤ q) ad 9) (g : Nat → Nat → Int32) (h : Int64)  (hl : lnI g) : bF l D cA z0 SK SV ad shM 9 yX9_reads cX9_reads 3 (some .boolean) 7 [.ref 0, .int (0)] (layM g h) (some (.int ((rdZ (0) g).1))) (layM (rdZ (0) g).2 h) := by
  refine bCT_intro (tb := tb_X9_reads) (own := RX9) hE pn_X9 rfl tk_X9_reads rfl (Nat.le_of_ble_eq_true rfl) ?_
  intro p e s0 m args below meth c C hr
  refine bv_blk C frk_X9 csk_X9 2 2 rfl (L1 := ([(0, .ref 0), (1, .int (0))] : Lc)) (st1 := ([.int (0), .ref 0] : List Value)) (w1 := (layM g h)) (by rfl) ?_
  refine bv_put (ty := .boolean) C rfl cl_X9 fl_X9_227 (by decide) rfl (by decide +kernel) (nar_01 (by decide) _) rfl rfl (by decide) (by decide) ?_
  rw [lm_up rfl]
  refine bv_blk C frk_X9 csk_X9 3 6 rfl (L1 := ([(0, .ref 0), (1, .int (0))] : Lc)) (st1 := ([] : List Value)) (w1 := up2 (layM (ug g 0 12 (0)) h) 0 11 (.int (0))) (by rfl) ?_
  rw [lm_up rfl]
  refine bv_blk C frk_X9 csk_X9 3 9 rfl (L1 := ([(0, .ref 0), (1, .int (0))] : Lc)) (st1 := ([] : List Value)) (w1 := up2 (layM (ug (ug g 0 12 (0)) 0 11 (0)) h) 0 10 (.int (0))) (by rfl) ?_
  rw [lm_up rfl]
  refine bv_blk C frk_X9 csk_X9 1 10 rfl (L1 := ([(0, .ref 0), (1, .int (0))] : Lc)) (st1 := ([.ref 0] : List Value)) (w1 := (layM (ug (ug (ug g 0 12 (0)) 0 11 (0)) 0 10 (0)) h)) (by rfl) ?_
  have hk3 : lnI (ug (ug (ug g 0 12 (0)) 0 11 (0)) 0 10 (0)) := by unfold lnI; rw [show (ug (ug (ug g 0 12 (0)) 0 11 (0)) 0 10 (0)) 0 4 = g 0 4 from (ug_ne (by omega)).trans ((ug_ne (by omega)).trans (ug_ne (by omega)))]; exact hl
  refine bv_fV0 C rfl (ct_nextToken hE (ug (ug (ug g 0 12 (0)) 0 11 (0)) 0 10 (0)) _ (cl (g 0 4)) 0 ((ug_ne (by omega)).trans ((ug_ne (by omega)).trans ((ug_ne (by omega)).trans hl.1))) hl.2 ug_same (Nat.zero_le _)) ml_X9_221 im_X9_nextToken sel_X9_nextToken ini_X9 cd_X9_nextToken ok_X9_nextToken rfl ⟨Nat.le_of_ble_eq_true rfl, Nat.le_of_ble_eq_true rfl⟩ ⟨Nat.zero_le _, Nat.zero_le _⟩ (by decide) rfl rfl rfl (rest := ([] : List Value)) rfl (Nat.le_of_ble_eq_true rfl) ?_
  rw [← nx_0]
  refine bv_blk C frk_X9 csk_X9 1 12 rfl (L1 := ([(0, .ref 0), (1, .int (0))] : Lc)) (st1 := ([.ref 0] : List Value)) (w1 := (layM (rd0 (0) g) h)) (by rfl) ?_
  have hk4 : cl ((ct_readsItem_w (rd0 (0) g)) 0 4) = cl (g 0 4) := (clo_ct_readsItem (ad_clo (Ln := cl (g 0 4)) (m := 0)) (ad_rd0 hl)).2.1
  refine bv_fV1 C rfl (ct_readsItem hE (rd0 (0) g) _ (tk_0 hl) td_0.1 td_0.2) ml_X9_251 im_X9_readsItem sel_X9_readsItem ini_X9 cd_X9_readsItem ok_X9_readsItem rfl ⟨Nat.le_of_ble_eq_true rfl, Nat.le_of_ble_eq_true rfl⟩ ⟨Nat.zero_le _, Nat.zero_le _⟩ (by decide) rfl rfl rfl (rest := ([] : List Value)) rfl (Nat.le_of_ble_eq_true rfl) ?_
  refine bv_blk C frk_X9 csk_X9 1 14 rfl (L1 := ([(2, .int (ct_readsItem_r (rd0 (0) g))), (0, .ref 0), (1, .int (0))] : Lc)) (st1 := ([] : List Value)) (w1 := (layM (ct_readsItem_w (rd0 (0) g)) h)) (by rfl) ?_
  have lp : ∀ (q : Nat) (gg : Nat → Nat → Int32) (s9 : Int32), tkI gg → tdI gg → (s9 = 0 ∨ s9 = 1) → cl (gg 0 4) ≤ cl (gg 0 9) + q → rl q s9 gg = rdZ (0) g → bV p l e (bR 7) s0 m args below meth c D cA shM (adA ad 9) 3 tb_X9_reads (MQ below (bQ D cA ad shM 9 (fun r w1 => r = (some (.int ((rdZ (0) g).1))) ∧ w1 = (layM (rdZ (0) g).2 h))) args s0 0 0 (adA ad 9)) ad 9 0 0 (layM gg h) 14 ([(2, .int s9), (0, .ref 0), (1, .int (0))] : Lc) ([] : List Value) := by
    intro q
    induction q with
    | zero =>
      intro gg s9 htk htd hs9 hq heq
      have zt := tk_cl htk
      obtain ⟨zl, zL, zf, zb, zfb, zbL, zfl⟩ := id zt
      refine bv_blk C frk_X9 csk_X9 1 15 rfl (L1 := ([(2, .int s9), (0, .ref 0), (1, .int (0))] : Lc)) (st1 := ([.int s9] : List Value)) (w1 := (layM gg h)) (by rfl) ?_
      refine bv_if_eq (j := 40) C rfl rfl (fun c1 => ?_) (fun c1 => ?_)
      · refine bv_blk C frk_X9 csk_X9 1 41 rfl (L1 := ([(2, .int s9), (0, .ref 0), (1, .int (0))] : Lc)) (st1 := ([.int s9] : List Value)) (w1 := (layM gg h)) (by rfl) ?_
        exact bv_iret C rfl hr (nar_z hs9) ⟨by (rw [← heq, rl_0]), by (rw [← heq, rl_0])⟩
      · have hq16 : cl (gg 0 4) ≤ cl (gg 0 9) := by omega
        refine bv_blk C frk_X9 csk_X9 4 20 rfl (L1 := ([(2, .int s9), (0, .ref 0), (1, .int (0))] : Lc)) (st1 := ([.int (gg 0 4), .int (gg 0 9)] : List Value)) (w1 := (layM gg h)) (by rfl) ?_
        refine bv_icmp_ge (j := 40) C rfl rfl (fun _ => ?_) (fun h => absurd (by rw [show (gg 0 4) = nI (cl (gg 0 4)) from zl]; exact (by rw [show (gg 0 9) = nI (cl (gg 0 9)) from zf]; exact (nI_le (a := (cl (gg 0 4))) (b := (cl (gg 0 9))) (by omega) (by omega)))) h)
        refine bv_blk C frk_X9 csk_X9 1 41 rfl (L1 := ([(2, .int s9), (0, .ref 0), (1, .int (0))] : Lc)) (st1 := ([.int s9] : List Value)) (w1 := (layM gg h)) (by rfl) ?_
        exact bv_iret C rfl hr (nar_z hs9) ⟨by (rw [← heq, rl_0]), by (rw [← heq, rl_0])⟩
    | succ q ih =>
      intro gg s9 htk htd hs9 hq heq
      have zt := tk_cl htk
      obtain ⟨zl, zL, zf, zb, zfb, zbL, zfl⟩ := id zt
      refine bv_blk C frk_X9 csk_X9 1 15 rfl (L1 := ([(2, .int s9), (0, .ref 0), (1, .int (0))] : Lc)) (st1 := ([.int s9] : List Value)) (w1 := (layM gg h)) (by rfl) ?_
      refine bv_if_eq (j := 40) C rfl rfl (fun c3 => ?_) (fun c3 => ?_)
      · refine bv_blk C frk_X9 csk_X9 1 41 rfl (L1 := ([(2, .int s9), (0, .ref 0), (1, .int (0))] : Lc)) (st1 := ([.int s9] : List Value)) (w1 := (layM gg h)) (by rfl) ?_
        exact bv_iret C rfl hr (nar_z hs9) ⟨by (rw [← heq, rl_z c3]), by (rw [← heq, rl_z c3])⟩
      · rcases (by omega : cl (gg 0 4) ≤ cl (gg 0 9) ∨ cl (gg 0 9) < cl (gg 0 4)) with hq16 | hq16
        · refine bv_blk C frk_X9 csk_X9 4 20 rfl (L1 := ([(2, .int s9), (0, .ref 0), (1, .int (0))] : Lc)) (st1 := ([.int (gg 0 4), .int (gg 0 9)] : List Value)) (w1 := (layM gg h)) (by rfl) ?_
          refine bv_icmp_ge (j := 40) C rfl rfl (fun _ => ?_) (fun h => absurd (by rw [show (gg 0 4) = nI (cl (gg 0 4)) from zl]; exact (by rw [show (gg 0 9) = nI (cl (gg 0 9)) from zf]; exact (nI_le (a := (cl (gg 0 4))) (b := (cl (gg 0 9))) (by omega) (by omega)))) h)
          refine bv_blk C frk_X9 csk_X9 1 41 rfl (L1 := ([(2, .int s9), (0, .ref 0), (1, .int (0))] : Lc)) (st1 := ([.int s9] : List Value)) (w1 := (layM gg h)) (by rfl) ?_
          exact bv_iret C rfl hr (nar_z hs9) ⟨by (rw [← heq, rl_e c3 hq16]), by (rw [← heq, rl_e c3 hq16])⟩
        · refine bv_blk C frk_X9 csk_X9 4 20 rfl (L1 := ([(2, .int s9), (0, .ref 0), (1, .int (0))] : Lc)) (st1 := ([.int (gg 0 4), .int (gg 0 9)] : List Value)) (w1 := (layM gg h)) (by rfl) ?_
          refine bv_icmp_ge (j := 40) C rfl rfl (fun h => absurd h (by rw [show (gg 0 4) = nI (cl (gg 0 4)) from zl]; exact (by rw [show (gg 0 9) = nI (cl (gg 0 9)) from zf]; exact (nI_ge (a := (cl (gg 0 9))) (b := (cl (gg 0 4))) (by omega) (by omega))))) (fun _ => ?_)
          refine bv_blk C frk_X9 csk_X9 4 25 rfl (L1 := ([(2, .int s9), (0, .ref 0), (1, .int (0))] : Lc)) (st1 := ([.int (gg 0 9), .ref 3] : List Value)) (w1 := (layM gg h)) (by rfl) ?_
          refine bv_iald C rfl rfl (by decide) (j := (cl (gg 0 9))) (by exact zf) (by first | decide | omega) (by decide) (y := (gg 3 (cl (gg 0 9)))) (by rfl) ?_
          refine bv_blk C frk_X9 csk_X9 1 27 rfl (L1 := ([(2, .int s9), (0, .ref 0), (1, .int (0))] : Lc)) (st1 := ([.int (59), .int (gg 3 (cl (gg 0 9)))] : List Value)) (w1 := (layM gg h)) (by rfl) ?_
          refine bv_icmp_ne (j := 30) C rfl rfl (fun c6 => ?_) (fun c6 => ?_)
          · refine bv_blk C frk_X9 csk_X9 3 33 rfl (L1 := ([(2, .int (0)), (0, .ref 0), (1, .int (0))] : Lc)) (st1 := ([.int (0)] : List Value)) (w1 := (layM gg h)) (by rfl) ?_
            refine bv_if_eq (j := 14) C rfl rfl (fun _ => ?_) (fun h => absurd h (by decide))
            refine bv_blk C frk_X9 csk_X9 1 15 rfl (L1 := ([(2, .int (0)), (0, .ref 0), (1, .int (0))] : Lc)) (st1 := ([.int (0)] : List Value)) (w1 := (layM gg h)) (by rfl) ?_
            refine bv_if_eq (j := 40) C rfl rfl (fun _ => ?_) (fun h => absurd h (by decide))
            refine bv_blk C frk_X9 csk_X9 1 41 rfl (L1 := ([(2, .int (0)), (0, .ref 0), (1, .int (0))] : Lc)) (st1 := ([.int (0)] : List Value)) (w1 := (layM gg h)) (by rfl) ?_
            exact bv_iret C rfl hr rfl ⟨by (rw [← heq, rl_n c3 hq16 c6]), by (rw [← heq, rl_n c3 hq16 c6])⟩
          · refine bv_blk C frk_X9 csk_X9 1 29 rfl (L1 := ([(2, .int s9), (0, .ref 0), (1, .int (0))] : Lc)) (st1 := ([.int (1)] : List Value)) (w1 := (layM gg h)) (by rfl) ?_
            refine bv_goto (j := 31) C rfl rfl ?_
            refine bv_blk C frk_X9 csk_X9 2 33 rfl (L1 := ([(2, .int (1)), (0, .ref 0), (1, .int (0))] : Lc)) (st1 := ([.int (1)] : List Value)) (w1 := (layM gg h)) (by rfl) ?_
            refine bv_if_eq (j := 14) C rfl rfl (fun h => absurd h (by decide)) (fun _ => ?_)
            refine bv_blk C frk_X9 csk_X9 1 35 rfl (L1 := ([(2, .int (1)), (0, .ref 0), (1, .int (0))] : Lc)) (st1 := ([.ref 0] : List Value)) (w1 := (layM gg h)) (by rfl) ?_
            refine bv_fV0 C rfl (cu_next hE gg _ htk) ml_X9_221 im_X9_nextToken sel_X9_nextToken ini_X9 cd_X9_nextToken ok_X9_nextToken rfl ⟨Nat.le_of_ble_eq_true rfl, Nat.le_of_ble_eq_true rfl⟩ ⟨Nat.zero_le _, Nat.zero_le _⟩ (by decide) rfl rfl rfl (rest := ([] : List Value)) rfl (Nat.le_of_ble_eq_true rfl) ?_
            refine bv_blk C frk_X9 csk_X9 1 37 rfl (L1 := ([(2, .int (1)), (0, .ref 0), (1, .int (0))] : Lc)) (st1 := ([.ref 0] : List Value)) (w1 := (layM (nxW gg) h)) (by rfl) ?_
            refine bv_fV1 C rfl (ct_readsItem hE (nxW gg) _ (tk_nx htk) (td_nx htd).1 (td_nx htd).2) ml_X9_251 im_X9_readsItem sel_X9_readsItem ini_X9 cd_X9_readsItem ok_X9_readsItem rfl ⟨Nat.le_of_ble_eq_true rfl, Nat.le_of_ble_eq_true rfl⟩ ⟨Nat.zero_le _, Nat.zero_le _⟩ (by decide) rfl rfl rfl (rest := ([] : List Value)) rfl (Nat.le_of_ble_eq_true rfl) ?_
            refine bv_blk C frk_X9 csk_X9 1 39 rfl (L1 := ([(2, .int (ct_readsItem_r (nxW gg))), (0, .ref 0), (1, .int (0))] : Lc)) (st1 := ([] : List Value)) (w1 := (layM (ct_readsItem_w (nxW gg)) h)) (by rfl) ?_
            refine bv_goto (j := 14) C rfl rfl ?_
            refine bv_sub [0, 1, 2] (by rfl) ?_
            have za := ad_step htk hq16
            exact ih _ _ za.1 (td_ct_readsItem (td_nx htd)) ct_readsItem_01 (by have z1 := za.2.1; have z2 := za.2.2; omega) (by rw [← heq, rl_s c3 hq16 c6])
  refine bv_sub [0, 1, 2] (by rfl) ?_
  exact lp 121 _ _ (clo_ct_readsItem clo_tk (tk_0 hl)) (td_ct_readsItem td_0) ct_readsItem_01 (by rw [show cl ((ct_readsItem_w (rd0 (0) g)) 0 4) = cl (g 0 4) from hk4]; have := hl.2; omega) (by unfold rdZ; rfl)
set_option maxRecDepth 100000 in
set_option maxHeartbeats 8000000 in
theorem ct_reads1 {l : Launch} {D : va_G} {cA : FieldType → ClassId} {z0 : Nat} {SK SV : Nat → Nat} {ad : Nat → Nat} (hE : aD (fun q => z0 ≤ q) ad 9) (g : Nat → Nat → Int32) (h : Int64)  (hl : lnI g) : bF l D cA z0 SK SV ad shM 9 yX9_reads cX9_reads 3 (some .boolean) 7 [.ref 0, .int (1)] (layM g h) (some (.int ((rdZ (1) g).1))) (layM (rdZ (1) g).2 h) := by
  refine bCT_intro (tb := tb_X9_reads) (own := RX9) hE pn_X9 rfl tk_X9_reads rfl (Nat.le_of_ble_eq_true rfl) ?_
  intro p e s0 m args below meth c C hr
  refine bv_blk C frk_X9 csk_X9 2 2 rfl (L1 := ([(0, .ref 0), (1, .int (1))] : Lc)) (st1 := ([.int (1), .ref 0] : List Value)) (w1 := (layM g h)) (by rfl) ?_
  refine bv_put (ty := .boolean) C rfl cl_X9 fl_X9_227 (by decide) rfl (by decide +kernel) (nar_01 (by decide) _) rfl rfl (by decide) (by decide) ?_
  rw [lm_up rfl]
  refine bv_blk C frk_X9 csk_X9 3 6 rfl (L1 := ([(0, .ref 0), (1, .int (1))] : Lc)) (st1 := ([] : List Value)) (w1 := up2 (layM (ug g 0 12 (1)) h) 0 11 (.int (0))) (by rfl) ?_
  rw [lm_up rfl]
  refine bv_blk C frk_X9 csk_X9 3 9 rfl (L1 := ([(0, .ref 0), (1, .int (1))] : Lc)) (st1 := ([] : List Value)) (w1 := up2 (layM (ug (ug g 0 12 (1)) 0 11 (0)) h) 0 10 (.int (0))) (by rfl) ?_
  rw [lm_up rfl]
  refine bv_blk C frk_X9 csk_X9 1 10 rfl (L1 := ([(0, .ref 0), (1, .int (1))] : Lc)) (st1 := ([.ref 0] : List Value)) (w1 := (layM (ug (ug (ug g 0 12 (1)) 0 11 (0)) 0 10 (0)) h)) (by rfl) ?_
  have hk3 : lnI (ug (ug (ug g 0 12 (1)) 0 11 (0)) 0 10 (0)) := by unfold lnI; rw [show (ug (ug (ug g 0 12 (1)) 0 11 (0)) 0 10 (0)) 0 4 = g 0 4 from (ug_ne (by omega)).trans ((ug_ne (by omega)).trans (ug_ne (by omega)))]; exact hl
  refine bv_fV0 C rfl (ct_nextToken hE (ug (ug (ug g 0 12 (1)) 0 11 (0)) 0 10 (0)) _ (cl (g 0 4)) 0 ((ug_ne (by omega)).trans ((ug_ne (by omega)).trans ((ug_ne (by omega)).trans hl.1))) hl.2 ug_same (Nat.zero_le _)) ml_X9_221 im_X9_nextToken sel_X9_nextToken ini_X9 cd_X9_nextToken ok_X9_nextToken rfl ⟨Nat.le_of_ble_eq_true rfl, Nat.le_of_ble_eq_true rfl⟩ ⟨Nat.zero_le _, Nat.zero_le _⟩ (by decide) rfl rfl rfl (rest := ([] : List Value)) rfl (Nat.le_of_ble_eq_true rfl) ?_
  rw [← nx_0]
  refine bv_blk C frk_X9 csk_X9 1 12 rfl (L1 := ([(0, .ref 0), (1, .int (1))] : Lc)) (st1 := ([.ref 0] : List Value)) (w1 := (layM (rd0 (1) g) h)) (by rfl) ?_
  have hk4 : cl ((ct_readsItem_w (rd0 (1) g)) 0 4) = cl (g 0 4) := (clo_ct_readsItem (ad_clo (Ln := cl (g 0 4)) (m := 0)) (ad_rd0 hl)).2.1
  refine bv_fV1 C rfl (ct_readsItem hE (rd0 (1) g) _ (tk_0 hl) td_0.1 td_0.2) ml_X9_251 im_X9_readsItem sel_X9_readsItem ini_X9 cd_X9_readsItem ok_X9_readsItem rfl ⟨Nat.le_of_ble_eq_true rfl, Nat.le_of_ble_eq_true rfl⟩ ⟨Nat.zero_le _, Nat.zero_le _⟩ (by decide) rfl rfl rfl (rest := ([] : List Value)) rfl (Nat.le_of_ble_eq_true rfl) ?_
  refine bv_blk C frk_X9 csk_X9 1 14 rfl (L1 := ([(2, .int (ct_readsItem_r (rd0 (1) g))), (0, .ref 0), (1, .int (1))] : Lc)) (st1 := ([] : List Value)) (w1 := (layM (ct_readsItem_w (rd0 (1) g)) h)) (by rfl) ?_
  have lp : ∀ (q : Nat) (gg : Nat → Nat → Int32) (s9 : Int32), tkI gg → tdI gg → (s9 = 0 ∨ s9 = 1) → cl (gg 0 4) ≤ cl (gg 0 9) + q → rl q s9 gg = rdZ (1) g → bV p l e (bR 7) s0 m args below meth c D cA shM (adA ad 9) 3 tb_X9_reads (MQ below (bQ D cA ad shM 9 (fun r w1 => r = (some (.int ((rdZ (1) g).1))) ∧ w1 = (layM (rdZ (1) g).2 h))) args s0 0 0 (adA ad 9)) ad 9 0 0 (layM gg h) 14 ([(2, .int s9), (0, .ref 0), (1, .int (1))] : Lc) ([] : List Value) := by
    intro q
    induction q with
    | zero =>
      intro gg s9 htk htd hs9 hq heq
      have zt := tk_cl htk
      obtain ⟨zl, zL, zf, zb, zfb, zbL, zfl⟩ := id zt
      refine bv_blk C frk_X9 csk_X9 1 15 rfl (L1 := ([(2, .int s9), (0, .ref 0), (1, .int (1))] : Lc)) (st1 := ([.int s9] : List Value)) (w1 := (layM gg h)) (by rfl) ?_
      refine bv_if_eq (j := 40) C rfl rfl (fun c1 => ?_) (fun c1 => ?_)
      · refine bv_blk C frk_X9 csk_X9 1 41 rfl (L1 := ([(2, .int s9), (0, .ref 0), (1, .int (1))] : Lc)) (st1 := ([.int s9] : List Value)) (w1 := (layM gg h)) (by rfl) ?_
        exact bv_iret C rfl hr (nar_z hs9) ⟨by (rw [← heq, rl_0]), by (rw [← heq, rl_0])⟩
      · have hq16 : cl (gg 0 4) ≤ cl (gg 0 9) := by omega
        refine bv_blk C frk_X9 csk_X9 4 20 rfl (L1 := ([(2, .int s9), (0, .ref 0), (1, .int (1))] : Lc)) (st1 := ([.int (gg 0 4), .int (gg 0 9)] : List Value)) (w1 := (layM gg h)) (by rfl) ?_
        refine bv_icmp_ge (j := 40) C rfl rfl (fun _ => ?_) (fun h => absurd (by rw [show (gg 0 4) = nI (cl (gg 0 4)) from zl]; exact (by rw [show (gg 0 9) = nI (cl (gg 0 9)) from zf]; exact (nI_le (a := (cl (gg 0 4))) (b := (cl (gg 0 9))) (by omega) (by omega)))) h)
        refine bv_blk C frk_X9 csk_X9 1 41 rfl (L1 := ([(2, .int s9), (0, .ref 0), (1, .int (1))] : Lc)) (st1 := ([.int s9] : List Value)) (w1 := (layM gg h)) (by rfl) ?_
        exact bv_iret C rfl hr (nar_z hs9) ⟨by (rw [← heq, rl_0]), by (rw [← heq, rl_0])⟩
    | succ q ih =>
      intro gg s9 htk htd hs9 hq heq
      have zt := tk_cl htk
      obtain ⟨zl, zL, zf, zb, zfb, zbL, zfl⟩ := id zt
      refine bv_blk C frk_X9 csk_X9 1 15 rfl (L1 := ([(2, .int s9), (0, .ref 0), (1, .int (1))] : Lc)) (st1 := ([.int s9] : List Value)) (w1 := (layM gg h)) (by rfl) ?_
      refine bv_if_eq (j := 40) C rfl rfl (fun c3 => ?_) (fun c3 => ?_)
      · refine bv_blk C frk_X9 csk_X9 1 41 rfl (L1 := ([(2, .int s9), (0, .ref 0), (1, .int (1))] : Lc)) (st1 := ([.int s9] : List Value)) (w1 := (layM gg h)) (by rfl) ?_
        exact bv_iret C rfl hr (nar_z hs9) ⟨by (rw [← heq, rl_z c3]), by (rw [← heq, rl_z c3])⟩
      · rcases (by omega : cl (gg 0 4) ≤ cl (gg 0 9) ∨ cl (gg 0 9) < cl (gg 0 4)) with hq16 | hq16
        · refine bv_blk C frk_X9 csk_X9 4 20 rfl (L1 := ([(2, .int s9), (0, .ref 0), (1, .int (1))] : Lc)) (st1 := ([.int (gg 0 4), .int (gg 0 9)] : List Value)) (w1 := (layM gg h)) (by rfl) ?_
          refine bv_icmp_ge (j := 40) C rfl rfl (fun _ => ?_) (fun h => absurd (by rw [show (gg 0 4) = nI (cl (gg 0 4)) from zl]; exact (by rw [show (gg 0 9) = nI (cl (gg 0 9)) from zf]; exact (nI_le (a := (cl (gg 0 4))) (b := (cl (gg 0 9))) (by omega) (by omega)))) h)
          refine bv_blk C frk_X9 csk_X9 1 41 rfl (L1 := ([(2, .int s9), (0, .ref 0), (1, .int (1))] : Lc)) (st1 := ([.int s9] : List Value)) (w1 := (layM gg h)) (by rfl) ?_
          exact bv_iret C rfl hr (nar_z hs9) ⟨by (rw [← heq, rl_e c3 hq16]), by (rw [← heq, rl_e c3 hq16])⟩
        · refine bv_blk C frk_X9 csk_X9 4 20 rfl (L1 := ([(2, .int s9), (0, .ref 0), (1, .int (1))] : Lc)) (st1 := ([.int (gg 0 4), .int (gg 0 9)] : List Value)) (w1 := (layM gg h)) (by rfl) ?_
          refine bv_icmp_ge (j := 40) C rfl rfl (fun h => absurd h (by rw [show (gg 0 4) = nI (cl (gg 0 4)) from zl]; exact (by rw [show (gg 0 9) = nI (cl (gg 0 9)) from zf]; exact (nI_ge (a := (cl (gg 0 9))) (b := (cl (gg 0 4))) (by omega) (by omega))))) (fun _ => ?_)
          refine bv_blk C frk_X9 csk_X9 4 25 rfl (L1 := ([(2, .int s9), (0, .ref 0), (1, .int (1))] : Lc)) (st1 := ([.int (gg 0 9), .ref 3] : List Value)) (w1 := (layM gg h)) (by rfl) ?_
          refine bv_iald C rfl rfl (by decide) (j := (cl (gg 0 9))) (by exact zf) (by first | decide | omega) (by decide) (y := (gg 3 (cl (gg 0 9)))) (by rfl) ?_
          refine bv_blk C frk_X9 csk_X9 1 27 rfl (L1 := ([(2, .int s9), (0, .ref 0), (1, .int (1))] : Lc)) (st1 := ([.int (59), .int (gg 3 (cl (gg 0 9)))] : List Value)) (w1 := (layM gg h)) (by rfl) ?_
          refine bv_icmp_ne (j := 30) C rfl rfl (fun c6 => ?_) (fun c6 => ?_)
          · refine bv_blk C frk_X9 csk_X9 3 33 rfl (L1 := ([(2, .int (0)), (0, .ref 0), (1, .int (1))] : Lc)) (st1 := ([.int (0)] : List Value)) (w1 := (layM gg h)) (by rfl) ?_
            refine bv_if_eq (j := 14) C rfl rfl (fun _ => ?_) (fun h => absurd h (by decide))
            refine bv_blk C frk_X9 csk_X9 1 15 rfl (L1 := ([(2, .int (0)), (0, .ref 0), (1, .int (1))] : Lc)) (st1 := ([.int (0)] : List Value)) (w1 := (layM gg h)) (by rfl) ?_
            refine bv_if_eq (j := 40) C rfl rfl (fun _ => ?_) (fun h => absurd h (by decide))
            refine bv_blk C frk_X9 csk_X9 1 41 rfl (L1 := ([(2, .int (0)), (0, .ref 0), (1, .int (1))] : Lc)) (st1 := ([.int (0)] : List Value)) (w1 := (layM gg h)) (by rfl) ?_
            exact bv_iret C rfl hr rfl ⟨by (rw [← heq, rl_n c3 hq16 c6]), by (rw [← heq, rl_n c3 hq16 c6])⟩
          · refine bv_blk C frk_X9 csk_X9 1 29 rfl (L1 := ([(2, .int s9), (0, .ref 0), (1, .int (1))] : Lc)) (st1 := ([.int (1)] : List Value)) (w1 := (layM gg h)) (by rfl) ?_
            refine bv_goto (j := 31) C rfl rfl ?_
            refine bv_blk C frk_X9 csk_X9 2 33 rfl (L1 := ([(2, .int (1)), (0, .ref 0), (1, .int (1))] : Lc)) (st1 := ([.int (1)] : List Value)) (w1 := (layM gg h)) (by rfl) ?_
            refine bv_if_eq (j := 14) C rfl rfl (fun h => absurd h (by decide)) (fun _ => ?_)
            refine bv_blk C frk_X9 csk_X9 1 35 rfl (L1 := ([(2, .int (1)), (0, .ref 0), (1, .int (1))] : Lc)) (st1 := ([.ref 0] : List Value)) (w1 := (layM gg h)) (by rfl) ?_
            refine bv_fV0 C rfl (cu_next hE gg _ htk) ml_X9_221 im_X9_nextToken sel_X9_nextToken ini_X9 cd_X9_nextToken ok_X9_nextToken rfl ⟨Nat.le_of_ble_eq_true rfl, Nat.le_of_ble_eq_true rfl⟩ ⟨Nat.zero_le _, Nat.zero_le _⟩ (by decide) rfl rfl rfl (rest := ([] : List Value)) rfl (Nat.le_of_ble_eq_true rfl) ?_
            refine bv_blk C frk_X9 csk_X9 1 37 rfl (L1 := ([(2, .int (1)), (0, .ref 0), (1, .int (1))] : Lc)) (st1 := ([.ref 0] : List Value)) (w1 := (layM (nxW gg) h)) (by rfl) ?_
            refine bv_fV1 C rfl (ct_readsItem hE (nxW gg) _ (tk_nx htk) (td_nx htd).1 (td_nx htd).2) ml_X9_251 im_X9_readsItem sel_X9_readsItem ini_X9 cd_X9_readsItem ok_X9_readsItem rfl ⟨Nat.le_of_ble_eq_true rfl, Nat.le_of_ble_eq_true rfl⟩ ⟨Nat.zero_le _, Nat.zero_le _⟩ (by decide) rfl rfl rfl (rest := ([] : List Value)) rfl (Nat.le_of_ble_eq_true rfl) ?_
            refine bv_blk C frk_X9 csk_X9 1 39 rfl (L1 := ([(2, .int (ct_readsItem_r (nxW gg))), (0, .ref 0), (1, .int (1))] : Lc)) (st1 := ([] : List Value)) (w1 := (layM (ct_readsItem_w (nxW gg)) h)) (by rfl) ?_
            refine bv_goto (j := 14) C rfl rfl ?_
            refine bv_sub [0, 1, 2] (by rfl) ?_
            have za := ad_step htk hq16
            exact ih _ _ za.1 (td_ct_readsItem (td_nx htd)) ct_readsItem_01 (by have z1 := za.2.1; have z2 := za.2.2; omega) (by rw [← heq, rl_s c3 hq16 c6])
  refine bv_sub [0, 1, 2] (by rfl) ?_
  exact lp 121 _ _ (clo_ct_readsItem clo_tk (tk_0 hl)) (td_ct_readsItem td_0) ct_readsItem_01 (by rw [show cl ((ct_readsItem_w (rd0 (1) g)) 0 4) = cl (g 0 4) from hk4]; have := hl.2; omega) (by unfold rdZ; rfl)
def cloR (P : (Nat → Nat → Int32) → Prop) : Prop := (∀ g, P g → P (nxW g)) ∧ (∀ lo hi sg g, P g → P (rdw lo hi sg g)) ∧ (∀ lo hi g, P g → P (rsw lo hi g)) ∧ (∀ (g : Nat → Nat → Int32) (a k : Nat) (x : Int32), (a = 8 ∨ a = 1 ∨ (a = 0 ∧ k = 11)) → P g → P (ug g a k x))
theorem clr_ct_readsStation {P : (Nat → Nat → Int32) → Prop} (hP : cloR P) {g : Nat → Nat → Int32} (h0 : P g) : P (ct_readsStation_w g) := by
  have h_v1 : P (ct_readsStation_v1 g) := (hP.1 _ h0)
  have h_v2 : P (ct_readsStation_v2 g) := (hP.2.1 _ _ _ _ h_v1)
  have h_v3 : P (ct_readsStation_v3 g) := (hP.2.1 _ _ _ _ h_v2)
  have h_v4 : P (ct_readsStation_v4 g) := (hP.2.1 _ _ _ _ h_v3)
  have h_v5 : P (ct_readsStation_v5 g) := (hP.2.1 _ _ _ _ h_v4)
  have h_v6 : P (ct_readsStation_v6 g) := (hP.2.2.2 _ 1 (15 + 20 * (cl ((ct_readsStation_v2  g) 0 16)) + 0) ((ct_readsStation_v3  g) 0 16) (by omega) h_v5)
  have h_v7 : P (ct_readsStation_v7 g) := (hP.2.2.2 _ 1 (15 + 20 * (cl ((ct_readsStation_v2  g) 0 16)) + 1) ((ct_readsStation_v4  g) 0 16) (by omega) h_v6)
  have h_v8 : P (ct_readsStation_v8 g) := (hP.2.2.2 _ 1 (15 + 20 * (cl ((ct_readsStation_v2  g) 0 16)) + 2) ((ct_readsStation_v7  g) 0 16) (by omega) h_v7)
  unfold ct_readsStation_w
  exact (iteP (P := P) h_v2 (iteP (P := P) h_v3 (iteP (P := P) h_v4 (iteP (P := P) h_v5 (iteP (P := P) h_v5 h_v8)))))
theorem clr_ct_set6 {P : (Nat → Nat → Int32) → Prop} (hP : cloR P) {g : Nat → Nat → Int32} (h0 : P g) : P (ct_set6_w g) := by
  have h_v1 : P (ct_set6_v1 g) := (hP.1 _ h0)
  have h_v2 : P (ct_set6_v2 g) := (hP.2.2.1 _ _ _ h_v1)
  unfold ct_set6_w
  exact (iteP (P := P) (hP.2.2.2 _ 1 6 ((ct_set6_v2  g) 1 6) (by omega) h_v2) (iteP (P := P) (hP.2.2.2 _ 1 6 ((ct_set6_v2  g) 1 6) (by omega) h_v2) (hP.2.2.2 _ 1 6 ((ct_set6_v2  g) 0 16) (by omega) h_v2)))
theorem clr_ct_set7 {P : (Nat → Nat → Int32) → Prop} (hP : cloR P) {g : Nat → Nat → Int32} (h0 : P g) : P (ct_set7_w g) := by
  have h_v1 : P (ct_set7_v1 g) := (hP.1 _ h0)
  have h_v2 : P (ct_set7_v2 g) := (hP.2.1 _ _ _ _ h_v1)
  unfold ct_set7_w
  exact (iteP (P := P) (hP.2.2.2 _ 1 7 ((ct_set7_v2  g) 1 7) (by omega) h_v2) (iteP (P := P) (hP.2.2.2 _ 1 7 ((ct_set7_v2  g) 1 7) (by omega) h_v2) (hP.2.2.2 _ 1 7 ((ct_set7_v2  g) 0 16) (by omega) h_v2)))
theorem clr_ct_set10 {P : (Nat → Nat → Int32) → Prop} (hP : cloR P) {g : Nat → Nat → Int32} (h0 : P g) : P (ct_set10_w g) := by
  have h_v1 : P (ct_set10_v1 g) := (hP.1 _ h0)
  have h_v2 : P (ct_set10_v2 g) := (hP.2.1 _ _ _ _ h_v1)
  unfold ct_set10_w
  exact (iteP (P := P) (hP.2.2.2 _ 1 10 ((ct_set10_v2  g) 1 10) (by omega) h_v2) (iteP (P := P) (hP.2.2.2 _ 1 10 ((ct_set10_v2  g) 1 10) (by omega) h_v2) (hP.2.2.2 _ 1 10 ((ct_set10_v2  g) 0 16) (by omega) h_v2)))
theorem clr_ct_readsPath {P : (Nat → Nat → Int32) → Prop} (hP : cloR P) {g : Nat → Nat → Int32} (h0 : P g) : P (ct_readsPath_w g) := by
  have h_v1 : P (ct_readsPath_v1 g) := (hP.1 _ h0)
  have h_v2 : P (ct_readsPath_v2 g) := (hP.2.1 _ _ _ _ h_v1)
  have h_v3 : P (ct_readsPath_v3 g) := (hP.2.1 _ _ _ _ (hP.2.2.2 _ 8 0 ((ct_readsPath_v2  g) 0 16) (by omega) h_v2))
  have h_v4 : P (ct_readsPath_v4 g) := (hP.2.1 _ _ _ _ (hP.2.2.2 _ 8 1 ((ct_readsPath_v3  g) 0 16) (by omega) h_v3))
  have h_v5 : P (ct_readsPath_v5 g) := (hP.2.2.2 _ 1 (55 + 6 * (cl (g 0 11)) + 0) ((ct_readsPath_v4  g) 8 0) (by omega) (hP.2.2.2 _ 8 5 (0) (by omega) (hP.2.2.2 _ 8 4 (0) (by omega) (hP.2.2.2 _ 8 3 (0) (by omega) (hP.2.2.2 _ 8 2 ((ct_readsPath_v4  g) 0 16) (by omega) h_v4)))))
  have h_v6 : P (ct_readsPath_v6 g) := (hP.2.2.2 _ 1 (55 + 6 * (cl (g 0 11)) + 1) ((ct_readsPath_v5  g) 8 1) (by omega) h_v5)
  have h_v7 : P (ct_readsPath_v7 g) := (hP.2.2.2 _ 1 (55 + 6 * (cl (g 0 11)) + 2) ((ct_readsPath_v6  g) 8 2) (by omega) h_v6)
  have h_v8 : P (ct_readsPath_v8 g) := (hP.2.2.2 _ 1 (55 + 6 * (cl (g 0 11)) + 3) ((ct_readsPath_v7  g) 8 3) (by omega) h_v7)
  have h_v9 : P (ct_readsPath_v9 g) := (hP.2.2.2 _ 1 (55 + 6 * (cl (g 0 11)) + 4) ((ct_readsPath_v8  g) 8 4) (by omega) h_v8)
  have h_v10 : P (ct_readsPath_v10 g) := (hP.2.2.2 _ 1 (55 + 6 * (cl (g 0 11)) + 5) ((ct_readsPath_v9  g) 8 5) (by omega) h_v9)
  have h_v11 : P (ct_readsPath_v11 g) := (hP.1 _ (hP.2.2.2 _ 8 5 (0) (by omega) (hP.2.2.2 _ 8 4 (0) (by omega) (hP.2.2.2 _ 8 3 (0) (by omega) (hP.2.2.2 _ 8 2 ((ct_readsPath_v4  g) 0 16) (by omega) h_v4)))))
  have h_v12 : P (ct_readsPath_v12 g) := (hP.2.2.1 _ _ _ h_v11)
  have h_v13 : P (ct_readsPath_v13 g) := (hP.2.2.1 _ _ _ (hP.2.2.2 _ 8 4 ((ct_readsPath_v12  g) 0 16) (by omega) h_v12))
  have h_v14 : P (ct_readsPath_v14 g) := (hP.2.2.2 _ 1 (55 + 6 * (cl (g 0 11)) + 0) ((ct_readsPath_v13  g) 8 0) (by omega) (hP.2.2.2 _ 8 5 ((ct_readsPath_v13  g) 0 16) (by omega) h_v13))
  have h_v15 : P (ct_readsPath_v15 g) := (hP.2.2.2 _ 1 (55 + 6 * (cl (g 0 11)) + 1) ((ct_readsPath_v14  g) 8 1) (by omega) h_v14)
  have h_v16 : P (ct_readsPath_v16 g) := (hP.2.2.2 _ 1 (55 + 6 * (cl (g 0 11)) + 2) ((ct_readsPath_v15  g) 8 2) (by omega) h_v15)
  have h_v17 : P (ct_readsPath_v17 g) := (hP.2.2.2 _ 1 (55 + 6 * (cl (g 0 11)) + 3) ((ct_readsPath_v16  g) 8 3) (by omega) h_v16)
  have h_v18 : P (ct_readsPath_v18 g) := (hP.2.2.2 _ 1 (55 + 6 * (cl (g 0 11)) + 4) ((ct_readsPath_v17  g) 8 4) (by omega) h_v17)
  have h_v19 : P (ct_readsPath_v19 g) := (hP.2.2.2 _ 1 (55 + 6 * (cl (g 0 11)) + 5) ((ct_readsPath_v18  g) 8 5) (by omega) h_v18)
  unfold ct_readsPath_w
  exact (iteP (P := P) h0 (iteP (P := P) h_v2 (iteP (P := P) h_v3 (iteP (P := P) h_v4 (iteP (P := P) (iteP (P := P) (hP.2.2.2 _ 1 12 ((ct_readsPath_v4  g) 1 12) (by omega) (hP.2.2.2 _ 0 11 (((ct_readsPath_v4  g) 0 11) + (1)) (by omega) (hP.2.2.2 _ 8 5 (0) (by omega) (hP.2.2.2 _ 8 4 (0) (by omega) (hP.2.2.2 _ 8 3 (0) (by omega) (hP.2.2.2 _ 8 2 ((ct_readsPath_v4  g) 0 16) (by omega) h_v4)))))) (hP.2.2.2 _ 1 12 (((ct_readsPath_v10  g) 0 11) + (1)) (by omega) (hP.2.2.2 _ 0 11 (((ct_readsPath_v10  g) 0 11) + (1)) (by omega) h_v10))) (iteP (P := P) h_v12 (iteP (P := P) h_v13 (iteP (P := P) (hP.2.2.2 _ 1 12 ((ct_readsPath_v13  g) 1 12) (by omega) (hP.2.2.2 _ 0 11 (((ct_readsPath_v13  g) 0 11) + (1)) (by omega) (hP.2.2.2 _ 8 5 ((ct_readsPath_v13  g) 0 16) (by omega) h_v13))) (hP.2.2.2 _ 1 12 (((ct_readsPath_v19  g) 0 11) + (1)) (by omega) (hP.2.2.2 _ 0 11 (((ct_readsPath_v19  g) 0 11) + (1)) (by omega) h_v19))))))))))
theorem clr_ct_readsItem {P : (Nat → Nat → Int32) → Prop} (hP : cloR P) {g : Nat → Nat → Int32} (h0 : P g) : P (ct_readsItem_w g) := by
  unfold ct_readsItem_w
  exact (iteP (P := P) (iteP (P := P) (iteP (P := P) (iteP (P := P) (iteP (P := P) h0 (clr_ct_set10 hP h0)) (clr_ct_set7 hP h0)) (clr_ct_set6 hP h0)) (clr_ct_readsPath hP h0)) (clr_ct_readsStation hP h0))
def kqR (g g' : Nat → Nat → Int32) : Prop := ∀ a k, ¬ (a = 8 ∨ a = 1 ∨ (a = 0 ∧ (k = 9 ∨ k = 10 ∨ k = 11 ∨ k = 12 ∨ k = 16))) → g' a k = g a k
theorem kqR_clo {g : Nat → Nat → Int32} : cloR (kqR g) := ⟨fun X h a k hk => (kq_nx a k (by omega)).trans (h a k hk), fun _ _ _ X h a k hk => (kq_rd a k (by omega)).trans (h a k hk), fun _ _ X h a k hk => (kq_rs a k (by omega)).trans (h a k hk), fun X b j x hb h a k hk => (ug_ne (by omega)).trans (h a k hk)⟩
theorem clr_rl {P : (Nat → Nat → Int32) → Prop} (hP : cloR P) : ∀ (q : Nat) (s : Int32) (g : Nat → Nat → Int32), P g → P (rl q s g).2 := by
  intro q
  induction q with
  | zero => intro s g h; exact h
  | succ q ih =>
    intro s g h
    by_cases c1 : s = 0
    · rw [rl_z c1]; exact h
    · rcases (by omega : cl (g 0 4) ≤ cl (g 0 9) ∨ cl (g 0 9) < cl (g 0 4)) with c2 | c2
      · rw [rl_e c1 c2]; exact h
      · by_cases c3 : g 3 (cl (g 0 9)) = 59
        · rw [rl_s c1 c2 c3]; exact ih _ _ (clr_ct_readsItem hP (hP.1 _ h))
        · rw [rl_n c1 c2 c3]; exact h
theorem kqR_rd {d : Int32} {g : Nat → Nat → Int32} : kqR g (rdZ d g).2 := by
  unfold rdZ
  refine clr_rl kqR_clo _ _ _ (clr_ct_readsItem kqR_clo (kqR_clo.1 _ ?_))
  intro a k hk
  exact (ug_ne (by omega)).trans ((ug_ne (by omega)).trans (ug_ne (by omega)))
theorem sv_rd {d : Int32} {g : Nat → Nat → Int32} (h : svK g) : svK (rdZ d g).2 := by
  obtain ⟨n, h1, h2⟩ := h
  exact ⟨n, (kqR_rd 0 1 (by omega)).trans h1, h2⟩
theorem sv_ne {g : Nat → Nat → Int32} {a k : Nat} (h : ¬ (a = 1 ∨ (a = 0 ∧ k = 1))) : svG g a k = g a k := by
  unfold svG
  split
  · exact (if_neg (by omega)).trans (if_neg (by omega))
  · exact (if_neg (by omega)).trans (ug_ne (by omega))
theorem bgn_ne {g : Nat → Nat → Int32} {a k : Nat} (h : ¬ (a = 1 ∧ k < 172)) : beginG g a k = g a k := if_neg h
theorem ln_bg {g : Nat → Nat → Int32} (h : lnI g) : lnI (beginG (svG (rdZ 0 g).2)) := by
  unfold lnI
  rw [show beginG (svG (rdZ 0 g).2) 0 4 = svG (rdZ 0 g).2 0 4 from bgn_ne (by omega), sv_ne (by omega), show (rdZ 0 g).2 0 4 = g 0 4 from kqR_rd 0 4 (by omega)]
  exact h
def ct_textFault_r  (g : Nat → Nat → Int32) : Int32 := (if ((rdZ (0) g).1) = 0 then ((rdZ (0) g).2 0 9) else (-100000))
def ct_textFault_w  (g : Nat → Nat → Int32) : Nat → Nat → Int32 := (rdZ (0) g).2
set_option maxRecDepth 100000 in
set_option maxHeartbeats 8000000 in
theorem ct_textFault {l : Launch} {D : va_G} {cA : FieldType → ClassId} {z0 : Nat} {SK SV : Nat → Nat} {ad : Nat → Nat} (hE : aD (fun q => z0 ≤ q) ad 9) (g : Nat → Nat → Int32) (h : Int64)  (hl : lnI g) : bF l D cA z0 SK SV ad shM 9 yX9_textFault cX9_textFault 1 (some .int) 8 [.ref 0] (layM g h) (some (.int (ct_textFault_r  g))) (layM (ct_textFault_w  g) h) := by
  refine bCT_intro (tb := tb_X9_textFault) (own := RX9) hE pn_X9 rfl tk_X9_textFault rfl (Nat.le_of_ble_eq_true rfl) ?_
  intro p e s0 m args below meth c C hr
  refine bv_blk C frk_X9 csk_X9 2 2 rfl (L1 := ([(0, .ref 0)] : Lc)) (st1 := ([.int (0), .ref 0] : List Value)) (w1 := (layM g h)) (by rfl) ?_
  refine bv_fV1 C rfl (ct_reads0 hE g _ hl) ml_X9_254 im_X9_reads sel_X9_reads ini_X9 cd_X9_reads ok_X9_reads rfl ⟨Nat.le_of_ble_eq_true rfl, Nat.le_of_ble_eq_true rfl⟩ ⟨Nat.zero_le _, Nat.zero_le _⟩ (by decide) rfl rfl rfl (rest := ([] : List Value)) rfl (Nat.le_of_ble_eq_true rfl) ?_
  refine bv_if_eq (j := 6) C rfl rfl (fun c1 => ?_) (fun c1 => ?_)
  · refine bv_blk C frk_X9 csk_X9 2 8 rfl (L1 := ([(0, .ref 0)] : Lc)) (st1 := ([.int ((rdZ (0) g).2 0 9)] : List Value)) (w1 := (layM (rdZ (0) g).2 h)) (by rfl) ?_
    exact bv_iret C rfl hr rfl ⟨by (exact congrArg (fun x => some (Value.int x)) (((if_pos c1).trans rfl)).symm), by (exact congrArg (fun x => (layM x h)) (rfl).symm)⟩
  · refine bv_blk C frk_X9 csk_X9 1 5 rfl (L1 := ([(0, .ref 0)] : Lc)) (st1 := ([.int (-100000)] : List Value)) (w1 := (layM (rdZ (0) g).2 h)) (by rfl) ?_
    refine bv_goto (j := 8) C rfl rfl ?_
    exact bv_iret C rfl hr rfl ⟨by (exact congrArg (fun x => some (Value.int x)) (((if_neg c1).trans rfl)).symm), by (exact congrArg (fun x => (layM x h)) (rfl).symm)⟩
def ct_load_v1  (g : Nat → Nat → Int32) : Nat → Nat → Int32 := (rdZ (0) g).2
def ct_load_v2  (g : Nat → Nat → Int32) : Nat → Nat → Int32 := (svG (ct_load_v1  g))
def ct_load_v3  (g : Nat → Nat → Int32) : Nat → Nat → Int32 := (beginG (ct_load_v2  g))
def ct_load_v4  (g : Nat → Nat → Int32) : Nat → Nat → Int32 := (rdZ (1) (ct_load_v3  g)).2
def ct_load_r  (g : Nat → Nat → Int32) : Int32 := (if ((rdZ (0) g).1) = 0 then (-100003) else ((ct_load_v4  g) 1 12))
def ct_load_w  (g : Nat → Nat → Int32) : Nat → Nat → Int32 := (if ((rdZ (0) g).1) = 0 then (ct_load_v1  g) else (ct_load_v4  g))
set_option maxRecDepth 100000 in
set_option maxHeartbeats 8000000 in
theorem ct_load {l : Launch} {D : va_G} {cA : FieldType → ClassId} {z0 : Nat} {SK SV : Nat → Nat} {ad : Nat → Nat} (hE : aD (fun q => z0 ≤ q) ad 9) (g : Nat → Nat → Int32) (h : Int64)  (hl : lnI g) (hv : svK g) : bF l D cA z0 SK SV ad shM 9 yX9_load cX9_load 1 (some .int) 8 [.ref 0] (layM g h) (some (.int (ct_load_r  g))) (layM (ct_load_w  g) h) := by
  refine bCT_intro (tb := tb_X9_load) (own := RX9) hE pn_X9 rfl tk_X9_load rfl (Nat.le_of_ble_eq_true rfl) ?_
  intro p e s0 m args below meth c C hr
  refine bv_blk C frk_X9 csk_X9 2 2 rfl (L1 := ([(0, .ref 0)] : Lc)) (st1 := ([.int (0), .ref 0] : List Value)) (w1 := (layM g h)) (by rfl) ?_
  refine bv_fV1 C rfl (ct_reads0 hE g _ hl) ml_X9_254 im_X9_reads sel_X9_reads ini_X9 cd_X9_reads ok_X9_reads rfl ⟨Nat.le_of_ble_eq_true rfl, Nat.le_of_ble_eq_true rfl⟩ ⟨Nat.zero_le _, Nat.zero_le _⟩ (by decide) rfl rfl rfl (rest := ([] : List Value)) rfl (Nat.le_of_ble_eq_true rfl) ?_
  obtain ⟨v1, ev1⟩ : ∃ x : Nat → Nat → Int32, x = (ct_load_v1  g) := ⟨_, rfl⟩
  have eq_v1 : (rdZ (0) g).2 = v1 := by rw [ev1, show (ct_load_v1  g) = (rdZ (0) g).2 from rfl]
  refine bv_weq (show (layM (rdZ (0) g).2 h) = (layM v1 h) from by rw [eq_v1]) ?_
  have hsv : svK v1 := by rw [← eq_v1]; exact sv_rd hv
  refine bv_if_ne (j := 6) C rfl rfl (fun c1 => ?_) (fun c1 => ?_)
  · refine bv_blk C frk_X9 csk_X9 1 7 rfl (L1 := ([(0, .ref 0)] : Lc)) (st1 := ([.ref 0] : List Value)) (w1 := (layM v1 h)) (by rfl) ?_
    refine bv_fV0 C rfl (ct_savesA hE v1 _ hsv) ml_X9_134 im_X9_saves sel_X9_saves ini_X9 cd_X9_saves ok_X9_saves rfl ⟨Nat.le_of_ble_eq_true rfl, Nat.le_of_ble_eq_true rfl⟩ ⟨Nat.zero_le _, Nat.zero_le _⟩ (by decide) rfl rfl rfl (rest := ([] : List Value)) rfl (Nat.le_of_ble_eq_true rfl) ?_
    obtain ⟨v2, ev2⟩ : ∃ x : Nat → Nat → Int32, x = (ct_load_v2  g) := ⟨_, rfl⟩
    have eq_v2 : (svG v1) = v2 := by rw [ev2, show (ct_load_v2  g) = (svG (ct_load_v1  g)) from rfl, ← ev1]
    refine bv_weq (show (layM (svG v1) h) = (layM v2 h) from by rw [eq_v2]) ?_
    refine bv_blk C frk_X9 csk_X9 1 9 rfl (L1 := ([(0, .ref 0)] : Lc)) (st1 := ([.ref 0] : List Value)) (w1 := (layM v2 h)) (by rfl) ?_
    refine bv_fV0 C rfl (ct_begins hE _ _) ml_X9_46 im_X9_begins sel_X9_begins ini_X9 cd_X9_begins ok_X9_begins rfl ⟨Nat.le_of_ble_eq_true rfl, Nat.le_of_ble_eq_true rfl⟩ ⟨Nat.zero_le _, Nat.zero_le _⟩ (by decide) rfl rfl rfl (rest := ([] : List Value)) rfl (Nat.le_of_ble_eq_true rfl) ?_
    obtain ⟨v3, ev3⟩ : ∃ x : Nat → Nat → Int32, x = (ct_load_v3  g) := ⟨_, rfl⟩
    have eq_v3 : (beginG v2) = v3 := by rw [ev3, show (ct_load_v3  g) = (beginG (ct_load_v2  g)) from rfl, ← ev2]
    refine bv_weq (show (layM (beginG v2) h) = (layM v3 h) from by rw [eq_v3]) ?_
    have hlb : lnI v3 := by rw [← eq_v3, ← eq_v2, ← eq_v1]; exact ln_bg hl
    refine bv_blk C frk_X9 csk_X9 2 12 rfl (L1 := ([(0, .ref 0)] : Lc)) (st1 := ([.int (1), .ref 0] : List Value)) (w1 := (layM v3 h)) (by rfl) ?_
    refine bv_fV1 C rfl (ct_reads1 hE v3 _ hlb) ml_X9_254 im_X9_reads sel_X9_reads ini_X9 cd_X9_reads ok_X9_reads rfl ⟨Nat.le_of_ble_eq_true rfl, Nat.le_of_ble_eq_true rfl⟩ ⟨Nat.zero_le _, Nat.zero_le _⟩ (by decide) rfl rfl rfl (rest := ([] : List Value)) rfl (Nat.le_of_ble_eq_true rfl) ?_
    obtain ⟨v4, ev4⟩ : ∃ x : Nat → Nat → Int32, x = (ct_load_v4  g) := ⟨_, rfl⟩
    have eq_v4 : (rdZ (1) v3).2 = v4 := by rw [ev4, show (ct_load_v4  g) = (rdZ (1) (ct_load_v3  g)).2 from rfl, ← ev3]
    refine bv_weq (show (layM (rdZ (1) v3).2 h) = (layM v4 h) from by rw [eq_v4]) ?_
    refine bv_blk C frk_X9 csk_X9 4 17 rfl (L1 := ([(0, .ref 0)] : Lc)) (st1 := ([.int (12), .ref 1] : List Value)) (w1 := (layM v4 h)) (by rfl) ?_
    refine bv_iald C rfl rfl (by decide) (j := 12) (by exact rfl) (by first | decide | omega) (by decide) (y := (v4 1 12)) (by rfl) ?_
    exact bv_iret C rfl hr rfl ⟨by (replace ev1 := ev1.symm; subst ev1; replace ev2 := ev2.symm; subst ev2; replace ev3 := ev3.symm; subst ev3; replace ev4 := ev4.symm; subst ev4; exact congrArg (fun x => some (Value.int x)) (((if_neg c1).trans rfl)).symm), by (replace ev1 := ev1.symm; subst ev1; replace ev2 := ev2.symm; subst ev2; replace ev3 := ev3.symm; subst ev3; replace ev4 := ev4.symm; subst ev4; exact congrArg (fun x => (layM x h)) (((if_neg c1).trans rfl)).symm)⟩
  · refine bv_blk C frk_X9 csk_X9 1 5 rfl (L1 := ([(0, .ref 0)] : Lc)) (st1 := ([.int (-100003)] : List Value)) (w1 := (layM v1 h)) (by rfl) ?_
    exact bv_iret C rfl hr rfl ⟨by (replace ev1 := ev1.symm; subst ev1; exact congrArg (fun x => some (Value.int x)) (((if_pos c1).trans rfl)).symm), by (replace ev1 := ev1.symm; subst ev1; exact congrArg (fun x => (layM x h)) (((if_pos c1).trans rfl)).symm)⟩
