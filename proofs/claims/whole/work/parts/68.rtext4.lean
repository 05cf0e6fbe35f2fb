def cl (x : Int32) : Nat := x.toNatClampNeg
def tkI (g : Nat → Nat → Int32) : Prop := ∃ Ln f b, tokI g Ln f b
def nxW (g : Nat → Nat → Int32) : Nat → Nat → Int32 := ntG (cl (g 0 4)) (cl (g 0 10)) g
def iwB (w : Nat) (g : Nat → Nat → Int32) : Bool := wdB (g 3) w (cl (g 0 9)) (cl (g 0 10))
def rdb (lo hi sg : Int32) (g : Nat → Nat → Int32) : Bool := rdB (g 3) lo hi sg (cl (g 0 4)) (cl (g 0 9)) (cl (g 0 10))
def rdw (lo hi sg : Int32) (g : Nat → Nat → Int32) : Nat → Nat → Int32 := rdG g lo hi sg (cl (g 0 4)) (cl (g 0 9)) (cl (g 0 10))
def rsb (lo hi : Int32) (g : Nat → Nat → Int32) : Bool := rsB g lo hi (cl (g 0 4)) (cl (g 0 9)) (cl (g 0 10))
def rsw (lo hi : Int32) (g : Nat → Nat → Int32) : Nat → Nat → Int32 := rsG g lo hi (cl (g 0 4)) (cl (g 0 9)) (cl (g 0 10))
theorem tk_cl {g : Nat → Nat → Int32} (h : tkI g) : tokI g (cl (g 0 4)) (cl (g 0 9)) (cl (g 0 10)) := by
  obtain ⟨Ln, f, b, h9⟩ := h
  obtain ⟨h1, h2, h3, h4, h5, h6, h7⟩ := id h9
  have e1 : cl (g 0 4) = Ln := by rw [h1]; exact nI_clamp (by omega)
  have e2 : cl (g 0 9) = f := by rw [h3]; exact nI_clamp (by omega)
  have e3 : cl (g 0 10) = b := by rw [h4]; exact nI_clamp (by omega)
  rw [e1, e2, e3]
  exact h9
theorem tk_ug {g : Nat → Nat → Int32} {a k : Nat} {x : Int32} (hk : ¬ (a = 0 ∧ (k = 4 ∨ k = 9 ∨ k = 10))) (h : tkI g) : tkI (ug g a k x) := by
  obtain ⟨Ln, f, b, h1, h2, h3, h4, h5⟩ := h
  exact ⟨Ln, f, b, (ug_ne (by omega)).trans h1, h2, (ug_ne (by omega)).trans h3, (ug_ne (by omega)).trans h4, h5⟩
theorem tk_nx {g : Nat → Nat → Int32} (h : tkI g) : tkI (nxW g) := ⟨_, _, _, tok_nt (tk_cl h).1 (tk_cl h).2.1 (tk_cl h).2.2.2.2.2.1⟩
theorem tk_rdG {g : Nat → Nat → Int32} {lo hi sg : Int32} {Ln f b : Nat} (h : tokI g Ln f b) : tkI (rdG g lo hi sg Ln f b) := by
  unfold rdG
  split
  · exact ⟨_, _, _, tok_nt ((ug_ne (by omega)).trans h.1) h.2.1 h.2.2.2.2.2.1⟩
  · exact ⟨_, _, _, h⟩
theorem tk_rd {lo hi sg : Int32} {g : Nat → Nat → Int32} (h : tkI g) : tkI (rdw lo hi sg g) := tk_rdG (tk_cl h)
theorem tk_rs {lo hi : Int32} {g : Nat → Nat → Int32} (h : tkI g) : tkI (rsw lo hi g) := by
  have z := tk_cl h
  unfold rsw rsG
  split
  · exact tk_rdG (tok_nt z.1 z.2.1 z.2.2.2.2.2.1)
  · exact tk_rdG z
/-- what reading changes: the token's places and the number -/
def kq (g g' : Nat → Nat → Int32) : Prop := ∀ a k, ¬ (a = 0 ∧ (k = 9 ∨ k = 10 ∨ k = 16)) → g' a k = g a k
theorem kq_nt {g : Nat → Nat → Int32} {Ln b : Nat} : kq g (ntG Ln b g) := fun a k h => (ug_ne (by omega)).trans (ug_ne (by omega))
theorem kq_rdG {g : Nat → Nat → Int32} {lo hi sg : Int32} {Ln f b : Nat} : kq g (rdG g lo hi sg Ln f b) := by
  intro a k h
  unfold rdG
  split
  · exact (kq_nt a k h).trans (ug_ne (by omega))
  · rfl
theorem kq_nx {g : Nat → Nat → Int32} : kq g (nxW g) := kq_nt
theorem kq_rd {lo hi sg : Int32} {g : Nat → Nat → Int32} : kq g (rdw lo hi sg g) := kq_rdG
theorem kq_rs {lo hi : Int32} {g : Nat → Nat → Int32} : kq g (rsw lo hi g) := by
  intro a k h
  unfold rsw rsG
  split
  · exact (kq_rdG a k h).trans (kq_nt a k h)
  · exact kq_rdG a k h
theorem rdB_in {t : Nat → Int32} {lo hi sg : Int32} {Ln f b : Nat} (h : rdB t lo hi sg Ln f b = true) : lo ≤ sg * nmF t (b - f) f 0 ∧ sg * nmF t (b - f) f 0 ≤ hi := by
  unfold rdB at h
  split at h
  · cases h
  · split at h
    · cases h
    · split at h
      · cases h
      · exact of_decide_eq_true h
theorem rd_in {lo hi sg : Int32} {g : Nat → Nat → Int32} (h : rdb lo hi sg g = true) : lo ≤ rdw lo hi sg g 0 16 ∧ rdw lo hi sg g 0 16 ≤ hi := by
  have z := rdB_in h
  unfold rdw
  rw [rdG_t h rfl]
  have e : ntG (cl (g 0 4)) (cl (g 0 10)) (ug g 0 16 (sg * nmF (g 3) (cl (g 0 10) - cl (g 0 9)) (cl (g 0 9)) 0)) 0 16 = sg * nmF (g 3) (cl (g 0 10) - cl (g 0 9)) (cl (g 0 9)) 0 := (ug_ne (by omega)).trans ((ug_ne (by omega)).trans ug_same)
  rw [e]
  exact z
theorem cl_st {x : Int32} (h : (0 : Int32) ≤ x ∧ x ≤ 1) : x = nI (cl x) ∧ cl x < 2 := by
  obtain ⟨s, hs, rfl⟩ := stat_of h
  unfold cl
  rw [nI_clamp (by omega)]
  exact ⟨rfl, hs⟩
theorem cn_st {g g' : Nat → Nat → Int32} (e : rdw (0) (1) (1) g = g') (h : ¬ b2i (rdb (0) (1) (1) g) = 0) : g' 0 16 = nI (cl (g' 0 16)) ∧ cl (g' 0 16) < 2 := by
  have z := rd_in (b2i_1 h)
  rw [e] at z
  exact cl_st z
theorem cu_next {l : Launch} {D : va_G} {cA : FieldType → ClassId} {z0 : Nat} {SK SV : Nat → Nat} {ad : Nat → Nat} (hE : aD (fun q => z0 ≤ q) ad 9) (g : Nat → Nat → Int32) (h : Int64)  (ht : tkI g) : bF l D cA z0 SK SV ad shM 9 yX9_nextToken cX9_nextToken 3 none 2 [.ref 0] (layM g h) none (layM (nxW g) h) := ct_nextToken hE g h _ _ (tk_cl ht).1 (tk_cl ht).2.1 (tk_cl ht).2.2.2.1 (tk_cl ht).2.2.2.2.2.1
theorem cu_word {l : Launch} {D : va_G} {cA : FieldType → ClassId} {z0 : Nat} {SK SV : Nat → Nat} {ad : Nat → Nat} (hE : aD (fun q => z0 ≤ q) ad 9) (g : Nat → Nat → Int32) (h : Int64) (w : Nat) (ht : tkI g) (hw : w < 6) : bF l D cA z0 SK SV ad shM 9 yX9_isWord cX9_isWord 4 (some .boolean) 1 [.ref 0, .int (nI w)] (layM g h) (some (.int (b2i (iwB w g)))) (layM g h) := ct_isWord hE g h _ _ _ w (tk_cl ht) hw
theorem cu_number {l : Launch} {D : va_G} {cA : FieldType → ClassId} {z0 : Nat} {SK SV : Nat → Nat} {ad : Nat → Nat} (hE : aD (fun q => z0 ≤ q) ad 9) (g : Nat → Nat → Int32) (h : Int64) (lo hi sg : Int32) (ht : tkI g) : bF l D cA z0 SK SV ad shM 9 yX9_readsNumber cX9_readsNumber 6 (some .boolean) 3 [.ref 0, .int lo, .int hi, .int sg] (layM g h) (some (.int (b2i (rdb lo hi sg g)))) (layM (rdw lo hi sg g) h) := ct_readsNumber hE g h _ _ _ lo hi sg (tk_cl ht)
theorem cu_signed {l : Launch} {D : va_G} {cA : FieldType → ClassId} {z0 : Nat} {SK SV : Nat → Nat} {ad : Nat → Nat} (hE : aD (fun q => z0 ≤ q) ad 9) (g : Nat → Nat → Int32) (h : Int64) (lo hi : Int32) (ht : tkI g) : bF l D cA z0 SK SV ad shM 9 yX9_readsSigned cX9_readsSigned 4 (some .boolean) 4 [.ref 0, .int lo, .int hi] (layM g h) (some (.int (b2i (rsb lo hi g)))) (layM (rsw lo hi g) h) := ct_readsSigned hE g h _ _ _ lo hi (tk_cl ht)
def ct_set6_v1  (g : Nat → Nat → Int32) : Nat → Nat → Int32 := (nxW g)
def ct_set6_v2  (g : Nat → Nat → Int32) : Nat → Nat → Int32 := (rsw (-200) (200) (ct_set6_v1  g))
def ct_set6_r  (g : Nat → Nat → Int32) : Int32 := (b2i (rsb (-200) (200) (ct_set6_v1  g)))
def ct_set6_w  (g : Nat → Nat → Int32) : Nat → Nat → Int32 := (if (b2i (rsb (-200) (200) (ct_set6_v1  g))) = 0 then (ug (ct_set6_v2  g) 1 6 ((ct_set6_v2  g) 1 6)) else (if ((ct_set6_v2  g) 0 12) = 0 then (ug (ct_set6_v2  g) 1 6 ((ct_set6_v2  g) 1 6)) else (ug (ct_set6_v2  g) 1 6 ((ct_set6_v2  g) 0 16))))
set_option maxRecDepth 100000 in
set_option maxHeartbeats 8000000 in
theorem ct_set6 {l : Launch} {D : va_G} {cA : FieldType → ClassId} {z0 : Nat} {SK SV : Nat → Nat} {ad : Nat → Nat} (hE : aD (fun q => z0 ≤ q) ad 9) (g : Nat → Nat → Int32) (h : Int64)  (ht : tkI g) : bF l D cA z0 SK SV ad shM 9 yX9_readsSetting cX9_readsSetting 5 (some .boolean) 5 [.ref 0, .int (6), .int (-200), .int (200)] (layM g h) (some (.int (ct_set6_r  g))) (layM (ct_set6_w  g) h) := by
  refine bCT_intro (tb := tb_X9_readsSetting) (own := RX9) hE pn_X9 rfl tk_X9_readsSetting rfl (Nat.le_of_ble_eq_true rfl) ?_
  intro p e s0 m args below meth c C hr
  refine bv_blk C frk_X9 csk_X9 1 1 rfl (L1 := ([(0, .ref 0), (1, .int (6)), (2, .int (-200)), (3, .int (200))] : Lc)) (st1 := ([.ref 0] : List Value)) (w1 := (layM g h)) (by rfl) ?_
  refine bv_fV0 C rfl (cu_next hE g _ ht) ml_X9_221 im_X9_nextToken sel_X9_nextToken ini_X9 cd_X9_nextToken ok_X9_nextToken rfl ⟨Nat.le_of_ble_eq_true rfl, Nat.le_of_ble_eq_true rfl⟩ ⟨Nat.zero_le _, Nat.zero_le _⟩ (by decide) rfl rfl rfl (rest := ([] : List Value)) rfl (Nat.le_of_ble_eq_true rfl) ?_
  obtain ⟨v1, ev1⟩ : ∃ x : Nat → Nat → Int32, x = (ct_set6_v1  g) := ⟨_, rfl⟩
  have eq_v1 : (nxW g) = v1 := by rw [ev1, show (ct_set6_v1  g) = (nxW g) from rfl]
  refine bv_weq (show (layM (nxW g) h) = (layM v1 h) from by rw [eq_v1]) ?_
  have ht_v1 : tkI v1 := by rw [← eq_v1]; exact (tk_nx ht)
  refine bv_blk C frk_X9 csk_X9 1 3 rfl (L1 := ([(0, .ref 0), (1, .int (6)), (2, .int (-200)), (3, .int (200))] : Lc)) (st1 := ([.int (-200)] : List Value)) (w1 := (layM v1 h)) (by rfl) ?_
  refine bv_if_ge (j := 9) C rfl rfl (fun h => absurd h (by decide)) (fun _ => ?_)
  refine bv_blk C frk_X9 csk_X9 3 7 rfl (L1 := ([(0, .ref 0), (1, .int (6)), (2, .int (-200)), (3, .int (200))] : Lc)) (st1 := ([.int (200), .int (-200), .ref 0] : List Value)) (w1 := (layM v1 h)) (by rfl) ?_
  refine bv_fV1 C rfl (cu_signed hE v1 _ (-200) (200) ht_v1) ml_X9_237 im_X9_readsSigned sel_X9_readsSigned ini_X9 cd_X9_readsSigned ok_X9_readsSigned rfl ⟨Nat.le_of_ble_eq_true rfl, Nat.le_of_ble_eq_true rfl⟩ ⟨Nat.zero_le _, Nat.zero_le _⟩ (by decide) rfl rfl rfl (rest := ([] : List Value)) rfl (Nat.le_of_ble_eq_true rfl) ?_
  obtain ⟨v2, ev2⟩ : ∃ x : Nat → Nat → Int32, x = (ct_set6_v2  g) := ⟨_, rfl⟩
  have eq_v2 : (rsw (-200) (200) v1) = v2 := by rw [ev2, show (ct_set6_v2  g) = (rsw (-200) (200) (ct_set6_v1  g)) from rfl, ← ev1]
  refine bv_weq (show (layM (rsw (-200) (200) v1) h) = (layM v2 h) from by rw [eq_v2]) ?_
  have ht_v2 : tkI v2 := by rw [← eq_v2]; exact (tk_rs ht_v1)
  refine bv_goto (j := 14) C rfl rfl ?_
  refine bv_blk C frk_X9 csk_X9 5 19 rfl (L1 := ([(4, .int (b2i (rsb (-200) (200) v1))), (0, .ref 0), (1, .int (6)), (2, .int (-200)), (3, .int (200))] : Lc)) (st1 := ([.int (b2i (rsb (-200) (200) v1)), .int (6), .ref 1] : List Value)) (w1 := (layM v2 h)) (by rfl) ?_
  refine bv_if_eq (j := 26) C rfl rfl (fun c2 => ?_) (fun c2 => ?_)
  · refine bv_blk C frk_X9 csk_X9 3 29 rfl (L1 := ([(4, .int (b2i (rsb (-200) (200) v1))), (0, .ref 0), (1, .int (6)), (2, .int (-200)), (3, .int (200))] : Lc)) (st1 := ([.int (6), .ref 1, .int (6), .ref 1] : List Value)) (w1 := (layM v2 h)) (by rfl) ?_
    refine bv_iald C rfl rfl (by decide) (j := 6) (by exact rfl) (by first | decide | omega) (by decide) (y := (v2 1 6)) (by rfl) ?_
    refine bv_iast C rfl rfl (by decide) (j := 6) (by exact rfl) (by first | decide | omega) (by decide) ?_
    rw [lm_up rfl]
    refine bv_blk C frk_X9 csk_X9 1 32 rfl (L1 := ([(4, .int (b2i (rsb (-200) (200) v1))), (0, .ref 0), (1, .int (6)), (2, .int (-200)), (3, .int (200))] : Lc)) (st1 := ([.int (b2i (rsb (-200) (200) v1))] : List Value)) (w1 := (layM (ug v2 1 6 (v2 1 6)) h)) (by rfl) ?_
    exact bv_iret C rfl hr (nar_b2i _) ⟨by (subst ev1; subst ev2; exact congrArg (fun x => some (Value.int x)) (rfl).symm), by (subst ev1; subst ev2; exact congrArg (fun x => (layM x h)) (((if_pos c2).trans rfl)).symm)⟩
  · refine bv_blk C frk_X9 csk_X9 2 22 rfl (L1 := ([(4, .int (b2i (rsb (-200) (200) v1))), (0, .ref 0), (1, .int (6)), (2, .int (-200)), (3, .int (200))] : Lc)) (st1 := ([.int (v2 0 12), .int (6), .ref 1] : List Value)) (w1 := (layM v2 h)) (by rfl) ?_
    refine bv_if_eq (j := 26) C rfl rfl (fun c3 => ?_) (fun c3 => ?_)
    · refine bv_blk C frk_X9 csk_X9 3 29 rfl (L1 := ([(4, .int (b2i (rsb (-200) (200) v1))), (0, .ref 0), (1, .int (6)), (2, .int (-200)), (3, .int (200))] : Lc)) (st1 := ([.int (6), .ref 1, .int (6), .ref 1] : List Value)) (w1 := (layM v2 h)) (by rfl) ?_
      refine bv_iald C rfl rfl (by decide) (j := 6) (by exact rfl) (by first | decide | omega) (by decide) (y := (v2 1 6)) (by rfl) ?_
      refine bv_iast C rfl rfl (by decide) (j := 6) (by exact rfl) (by first | decide | omega) (by decide) ?_
      rw [lm_up rfl]
      refine bv_blk C frk_X9 csk_X9 1 32 rfl (L1 := ([(4, .int (b2i (rsb (-200) (200) v1))), (0, .ref 0), (1, .int (6)), (2, .int (-200)), (3, .int (200))] : Lc)) (st1 := ([.int (b2i (rsb (-200) (200) v1))] : List Value)) (w1 := (layM (ug v2 1 6 (v2 1 6)) h)) (by rfl) ?_
      exact bv_iret C rfl hr (nar_b2i _) ⟨by (subst ev1; subst ev2; exact congrArg (fun x => some (Value.int x)) (rfl).symm), by (subst ev1; subst ev2; exact congrArg (fun x => (layM x h)) (((if_neg c2).trans ((if_pos c3).trans rfl))).symm)⟩
    · refine bv_blk C frk_X9 csk_X9 2 25 rfl (L1 := ([(4, .int (b2i (rsb (-200) (200) v1))), (0, .ref 0), (1, .int (6)), (2, .int (-200)), (3, .int (200))] : Lc)) (st1 := ([.int (v2 0 16), .int (6), .ref 1] : List Value)) (w1 := (layM v2 h)) (by rfl) ?_
      refine bv_goto (j := 30) C rfl rfl ?_
      refine bv_iast C rfl rfl (by decide) (j := 6) (by exact rfl) (by first | decide | omega) (by decide) ?_
      rw [lm_up rfl]
      refine bv_blk C frk_X9 csk_X9 1 32 rfl (L1 := ([(4, .int (b2i (rsb (-200) (200) v1))), (0, .ref 0), (1, .int (6)), (2, .int (-200)), (3, .int (200))] : Lc)) (st1 := ([.int (b2i (rsb (-200) (200) v1))] : List Value)) (w1 := (layM (ug v2 1 6 (v2 0 16)) h)) (by rfl) ?_
      exact bv_iret C rfl hr (nar_b2i _) ⟨by (subst ev1; subst ev2; exact congrArg (fun x => some (Value.int x)) (rfl).symm), by (subst ev1; subst ev2; exact congrArg (fun x => (layM x h)) (((if_neg c2).trans ((if_neg c3).trans rfl))).symm)⟩
theorem ct_set6_01 {g : Nat → Nat → Int32} : ct_set6_r g = 0 ∨ ct_set6_r g = 1 := by
  unfold ct_set6_r
  generalize (rsb (-200) (200) (ct_set6_v1 g)) = b
  cases b
  · exact Or.inl rfl
  · exact Or.inr rfl
def ct_set7_v1  (g : Nat → Nat → Int32) : Nat → Nat → Int32 := (nxW g)
def ct_set7_v2  (g : Nat → Nat → Int32) : Nat → Nat → Int32 := (rdw (0) (60) (1) (ct_set7_v1  g))
def ct_set7_r  (g : Nat → Nat → Int32) : Int32 := (b2i (rdb (0) (60) (1) (ct_set7_v1  g)))
def ct_set7_w  (g : Nat → Nat → Int32) : Nat → Nat → Int32 := (if (b2i (rdb (0) (60) (1) (ct_set7_v1  g))) = 0 then (ug (ct_set7_v2  g) 1 7 ((ct_set7_v2  g) 1 7)) else (if ((ct_set7_v2  g) 0 12) = 0 then (ug (ct_set7_v2  g) 1 7 ((ct_set7_v2  g) 1 7)) else (ug (ct_set7_v2  g) 1 7 ((ct_set7_v2  g) 0 16))))
set_option maxRecDepth 100000 in
set_option maxHeartbeats 8000000 in
theorem ct_set7 {l : Launch} {D : va_G} {cA : FieldType → ClassId} {z0 : Nat} {SK SV : Nat → Nat} {ad : Nat → Nat} (hE : aD (fun q => z0 ≤ q) ad 9) (g : Nat → Nat → Int32) (h : Int64)  (ht : tkI g) : bF l D cA z0 SK SV ad shM 9 yX9_readsSetting cX9_readsSetting 5 (some .boolean) 5 [.ref 0, .int (7), .int (0), .int (60)] (layM g h) (some (.int (ct_set7_r  g))) (layM (ct_set7_w  g) h) := by
  refine bCT_intro (tb := tb_X9_readsSetting) (own := RX9) hE pn_X9 rfl tk_X9_readsSetting rfl (Nat.le_of_ble_eq_true rfl) ?_
  intro p e s0 m args below meth c C hr
  refine bv_blk C frk_X9 csk_X9 1 1 rfl (L1 := ([(0, .ref 0), (1, .int (7)), (2, .int (0)), (3, .int (60))] : Lc)) (st1 := ([.ref 0] : List Value)) (w1 := (layM g h)) (by rfl) ?_
  refine bv_fV0 C rfl (cu_next hE g _ ht) ml_X9_221 im_X9_nextToken sel_X9_nextToken ini_X9 cd_X9_nextToken ok_X9_nextToken rfl ⟨Nat.le_of_ble_eq_true rfl, Nat.le_of_ble_eq_true rfl⟩ ⟨Nat.zero_le _, Nat.zero_le _⟩ (by decide) rfl rfl rfl (rest := ([] : List Value)) rfl (Nat.le_of_ble_eq_true rfl) ?_
  obtain ⟨v1, ev1⟩ : ∃ x : Nat → Nat → Int32, x = (ct_set7_v1  g) := ⟨_, rfl⟩
  have eq_v1 : (nxW g) = v1 := by rw [ev1, show (ct_set7_v1  g) = (nxW g) from rfl]
  refine bv_weq (show (layM (nxW g) h) = (layM v1 h) from by rw [eq_v1]) ?_
  have ht_v1 : tkI v1 := by rw [← eq_v1]; exact (tk_nx ht)
  refine bv_blk C frk_X9 csk_X9 1 3 rfl (L1 := ([(0, .ref 0), (1, .int (7)), (2, .int (0)), (3, .int (60))] : Lc)) (st1 := ([.int (0)] : List Value)) (w1 := (layM v1 h)) (by rfl) ?_
  refine bv_if_ge (j := 9) C rfl rfl (fun _ => ?_) (fun h => absurd h (by decide))
  refine bv_blk C frk_X9 csk_X9 4 13 rfl (L1 := ([(0, .ref 0), (1, .int (7)), (2, .int (0)), (3, .int (60))] : Lc)) (st1 := ([.int (1), .int (60), .int (0), .ref 0] : List Value)) (w1 := (layM v1 h)) (by rfl) ?_
  refine bv_fV1 C rfl (cu_number hE v1 _ (0) (60) (1) ht_v1) ml_X9_224 im_X9_readsNumber sel_X9_readsNumber ini_X9 cd_X9_readsNumber ok_X9_readsNumber rfl ⟨Nat.le_of_ble_eq_true rfl, Nat.le_of_ble_eq_true rfl⟩ ⟨Nat.zero_le _, Nat.zero_le _⟩ (by decide) rfl rfl rfl (rest := ([] : List Value)) rfl (Nat.le_of_ble_eq_true rfl) ?_
  obtain ⟨v2, ev2⟩ : ∃ x : Nat → Nat → Int32, x = (ct_set7_v2  g) := ⟨_, rfl⟩
  have eq_v2 : (rdw (0) (60) (1) v1) = v2 := by rw [ev2, show (ct_set7_v2  g) = (rdw (0) (60) (1) (ct_set7_v1  g)) from rfl, ← ev1]
  refine bv_weq (show (layM (rdw (0) (60) (1) v1) h) = (layM v2 h) from by rw [eq_v2]) ?_
  have ht_v2 : tkI v2 := by rw [← eq_v2]; exact (tk_rd ht_v1)
  refine bv_blk C frk_X9 csk_X9 5 19 rfl (L1 := ([(4, .int (b2i (rdb (0) (60) (1) v1))), (0, .ref 0), (1, .int (7)), (2, .int (0)), (3, .int (60))] : Lc)) (st1 := ([.int (b2i (rdb (0) (60) (1) v1)), .int (7), .ref 1] : List Value)) (w1 := (layM v2 h)) (by rfl) ?_
  refine bv_if_eq (j := 26) C rfl rfl (fun c2 => ?_) (fun c2 => ?_)
  · refine bv_blk C frk_X9 csk_X9 3 29 rfl (L1 := ([(4, .int (b2i (rdb (0) (60) (1) v1))), (0, .ref 0), (1, .int (7)), (2, .int (0)), (3, .int (60))] : Lc)) (st1 := ([.int (7), .ref 1, .int (7), .ref 1] : List Value)) (w1 := (layM v2 h)) (by rfl) ?_
    refine bv_iald C rfl rfl (by decide) (j := 7) (by exact rfl) (by first | decide | omega) (by decide) (y := (v2 1 7)) (by rfl) ?_
    refine bv_iast C rfl rfl (by decide) (j := 7) (by exact rfl) (by first | decide | omega) (by decide) ?_
    rw [lm_up rfl]
    refine bv_blk C frk_X9 csk_X9 1 32 rfl (L1 := ([(4, .int (b2i (rdb (0) (60) (1) v1))), (0, .ref 0), (1, .int (7)), (2, .int (0)), (3, .int (60))] : Lc)) (st1 := ([.int (b2i (rdb (0) (60) (1) v1))] : List Value)) (w1 := (layM (ug v2 1 7 (v2 1 7)) h)) (by rfl) ?_
    exact bv_iret C rfl hr (nar_b2i _) ⟨by (subst ev1; subst ev2; exact congrArg (fun x => some (Value.int x)) (rfl).symm), by (subst ev1; subst ev2; exact congrArg (fun x => (layM x h)) (((if_pos c2).trans rfl)).symm)⟩
  · refine bv_blk C frk_X9 csk_X9 2 22 rfl (L1 := ([(4, .int (b2i (rdb (0) (60) (1) v1))), (0, .ref 0), (1, .int (7)), (2, .int (0)), (3, .int (60))] : Lc)) (st1 := ([.int (v2 0 12), .int (7), .ref 1] : List Value)) (w1 := (layM v2 h)) (by rfl) ?_
    refine bv_if_eq (j := 26) C rfl rfl (fun c3 => ?_) (fun c3 => ?_)
    · refine bv_blk C frk_X9 csk_X9 3 29 rfl (L1 := ([(4, .int (b2i (rdb (0) (60) (1) v1))), (0, .ref 0), (1, .int (7)), (2, .int (0)), (3, .int (60))] : Lc)) (st1 := ([.int (7), .ref 1, .int (7), .ref 1] : List Value)) (w1 := (layM v2 h)) (by rfl) ?_
      refine bv_iald C rfl rfl (by decide) (j := 7) (by exact rfl) (by first | decide | omega) (by decide) (y := (v2 1 7)) (by rfl) ?_
      refine bv_iast C rfl rfl (by decide) (j := 7) (by exact rfl) (by first | decide | omega) (by decide) ?_
      rw [lm_up rfl]
      refine bv_blk C frk_X9 csk_X9 1 32 rfl (L1 := ([(4, .int (b2i (rdb (0) (60) (1) v1))), (0, .ref 0), (1, .int (7)), (2, .int (0)), (3, .int (60))] : Lc)) (st1 := ([.int (b2i (rdb (0) (60) (1) v1))] : List Value)) (w1 := (layM (ug v2 1 7 (v2 1 7)) h)) (by rfl) ?_
      exact bv_iret C rfl hr (nar_b2i _) ⟨by (subst ev1; subst ev2; exact congrArg (fun x => some (Value.int x)) (rfl).symm), by (subst ev1; subst ev2; exact congrArg (fun x => (layM x h)) (((if_neg c2).trans ((if_pos c3).trans rfl))).symm)⟩
    · refine bv_blk C frk_X9 csk_X9 2 25 rfl (L1 := ([(4, .int (b2i (rdb (0) (60) (1) v1))), (0, .ref 0), (1, .int (7)), (2, .int (0)), (3, .int (60))] : Lc)) (st1 := ([.int (v2 0 16), .int (7), .ref 1] : List Value)) (w1 := (layM v2 h)) (by rfl) ?_
      refine bv_goto (j := 30) C rfl rfl ?_
      refine bv_iast C rfl rfl (by decide) (j := 7) (by exact rfl) (by first | decide | omega) (by decide) ?_
      rw [lm_up rfl]
      refine bv_blk C frk_X9 csk_X9 1 32 rfl (L1 := ([(4, .int (b2i (rdb (0) (60) (1) v1))), (0, .ref 0), (1, .int (7)), (2, .int (0)), (3, .int (60))] : Lc)) (st1 := ([.int (b2i (rdb (0) (60) (1) v1))] : List Value)) (w1 := (layM (ug v2 1 7 (v2 0 16)) h)) (by rfl) ?_
      exact bv_iret C rfl hr (nar_b2i _) ⟨by (subst ev1; subst ev2; exact congrArg (fun x => some (Value.int x)) (rfl).symm), by (subst ev1; subst ev2; exact congrArg (fun x => (layM x h)) (((if_neg c2).trans ((if_neg c3).trans rfl))).symm)⟩
theorem ct_set7_01 {g : Nat → Nat → Int32} : ct_set7_r g = 0 ∨ ct_set7_r g = 1 := by
  unfold ct_set7_r
  generalize (rdb (0) (60) (1) (ct_set7_v1 g)) = b
  cases b
  · exact Or.inl rfl
  · exact Or.inr rfl
def ct_set10_v1  (g : Nat → Nat → Int32) : Nat → Nat → Int32 := (nxW g)
def ct_set10_v2  (g : Nat → Nat → Int32) : Nat → Nat → Int32 := (rdw (1) (9) (1) (ct_set10_v1  g))
def ct_set10_r  (g : Nat → Nat → Int32) : Int32 := (b2i (rdb (1) (9) (1) (ct_set10_v1  g)))
def ct_set10_w  (g : Nat → Nat → Int32) : Nat → Nat → Int32 := (if (b2i (rdb (1) (9) (1) (ct_set10_v1  g))) = 0 then (ug (ct_set10_v2  g) 1 10 ((ct_set10_v2  g) 1 10)) else (if ((ct_set10_v2  g) 0 12) = 0 then (ug (ct_set10_v2  g) 1 10 ((ct_set10_v2  g) 1 10)) else (ug (ct_set10_v2  g) 1 10 ((ct_set10_v2  g) 0 16))))
set_option maxRecDepth 100000 in
set_option maxHeartbeats 8000000 in
theorem ct_set10 {l : Launch} {D : va_G} {cA : FieldType → ClassId} {z0 : Nat} {SK SV : Nat → Nat} {ad : Nat → Nat} (hE : aD (fun q => z0 ≤ q) ad 9) (g : Nat → Nat → Int32) (h : Int64)  (ht : tkI g) : bF l D cA z0 SK SV ad shM 9 yX9_readsSetting cX9_readsSetting 5 (some .boolean) 5 [.ref 0, .int (10), .int (1), .int (9)] (layM g h) (some (.int (ct_set10_r  g))) (layM (ct_set10_w  g) h) := by
  refine bCT_intro (tb := tb_X9_readsSetting) (own := RX9) hE pn_X9 rfl tk_X9_readsSetting rfl (Nat.le_of_ble_eq_true rfl) ?_
  intro p e s0 m args below meth c C hr
  refine bv_blk C frk_X9 csk_X9 1 1 rfl (L1 := ([(0, .ref 0), (1, .int (10)), (2, .int (1)), (3, .int (9))] : Lc)) (st1 := ([.ref 0] : List Value)) (w1 := (layM g h)) (by rfl) ?_
  refine bv_fV0 C rfl (cu_next hE g _ ht) ml_X9_221 im_X9_nextToken sel_X9_nextToken ini_X9 cd_X9_nextToken ok_X9_nextToken rfl ⟨Nat.le_of_ble_eq_true rfl, Nat.le_of_ble_eq_true rfl⟩ ⟨Nat.zero_le _, Nat.zero_le _⟩ (by decide) rfl rfl rfl (rest := ([] : List Value)) rfl (Nat.le_of_ble_eq_true rfl) ?_
  obtain ⟨v1, ev1⟩ : ∃ x : Nat → Nat → Int32, x = (ct_set10_v1  g) := ⟨_, rfl⟩
  have eq_v1 : (nxW g) = v1 := by rw [ev1, show (ct_set10_v1  g) = (nxW g) from rfl]
  refine bv_weq (show (layM (nxW g) h) = (layM v1 h) from by rw [eq_v1]) ?_
  have ht_v1 : tkI v1 := by rw [← eq_v1]; exact (tk_nx ht)
  refine bv_blk C frk_X9 csk_X9 1 3 rfl (L1 := ([(0, .ref 0), (1, .int (10)), (2, .int (1)), (3, .int (9))] : Lc)) (st1 := ([.int (1)] : List Value)) (w1 := (layM v1 h)) (by rfl) ?_
  refine bv_if_ge (j := 9) C rfl rfl (fun _ => ?_) (fun h => absurd h (by decide))
  refine bv_blk C frk_X9 csk_X9 4 13 rfl (L1 := ([(0, .ref 0), (1, .int (10)), (2, .int (1)), (3, .int (9))] : Lc)) (st1 := ([.int (1), .int (9), .int (1), .ref 0] : List Value)) (w1 := (layM v1 h)) (by rfl) ?_
  refine bv_fV1 C rfl (cu_number hE v1 _ (1) (9) (1) ht_v1) ml_X9_224 im_X9_readsNumber sel_X9_readsNumber ini_X9 cd_X9_readsNumber ok_X9_readsNumber rfl ⟨Nat.le_of_ble_eq_true rfl, Nat.le_of_ble_eq_true rfl⟩ ⟨Nat.zero_le _, Nat.zero_le _⟩ (by decide) rfl rfl rfl (rest := ([] : List Value)) rfl (Nat.le_of_ble_eq_true rfl) ?_
  obtain ⟨v2, ev2⟩ : ∃ x : Nat → Nat → Int32, x = (ct_set10_v2  g) := ⟨_, rfl⟩
  have eq_v2 : (rdw (1) (9) (1) v1) = v2 := by rw [ev2, show (ct_set10_v2  g) = (rdw (1) (9) (1) (ct_set10_v1  g)) from rfl, ← ev1]
  refine bv_weq (show (layM (rdw (1) (9) (1) v1) h) = (layM v2 h) from by rw [eq_v2]) ?_
  have ht_v2 : tkI v2 := by rw [← eq_v2]; exact (tk_rd ht_v1)
  refine bv_blk C frk_X9 csk_X9 5 19 rfl (L1 := ([(4, .int (b2i (rdb (1) (9) (1) v1))), (0, .ref 0), (1, .int (10)), (2, .int (1)), (3, .int (9))] : Lc)) (st1 := ([.int (b2i (rdb (1) (9) (1) v1)), .int (10), .ref 1] : List Value)) (w1 := (layM v2 h)) (by rfl) ?_
  refine bv_if_eq (j := 26) C rfl rfl (fun c2 => ?_) (fun c2 => ?_)
  · refine bv_blk C frk_X9 csk_X9 3 29 rfl (L1 := ([(4, .int (b2i (rdb (1) (9) (1) v1))), (0, .ref 0), (1, .int (10)), (2, .int (1)), (3, .int (9))] : Lc)) (st1 := ([.int (10), .ref 1, .int (10), .ref 1] : List Value)) (w1 := (layM v2 h)) (by rfl) ?_
    refine bv_iald C rfl rfl (by decide) (j := 10) (by exact rfl) (by first | decide | omega) (by decide) (y := (v2 1 10)) (by rfl) ?_
    refine bv_iast C rfl rfl (by decide) (j := 10) (by exact rfl) (by first | decide | omega) (by decide) ?_
    rw [lm_up rfl]
    refine bv_blk C frk_X9 csk_X9 1 32 rfl (L1 := ([(4, .int (b2i (rdb (1) (9) (1) v1))), (0, .ref 0), (1, .int (10)), (2, .int (1)), (3, .int (9))] : Lc)) (st1 := ([.int (b2i (rdb (1) (9) (1) v1))] : List Value)) (w1 := (layM (ug v2 1 10 (v2 1 10)) h)) (by rfl) ?_
    exact bv_iret C rfl hr (nar_b2i _) ⟨by (subst ev1; subst ev2; exact congrArg (fun x => some (Value.int x)) (rfl).symm), by (subst ev1; subst ev2; exact congrArg (fun x => (layM x h)) (((if_pos c2).trans rfl)).symm)⟩
  · refine bv_blk C frk_X9 csk_X9 2 22 rfl (L1 := ([(4, .int (b2i (rdb (1) (9) (1) v1))), (0, .ref 0), (1, .int (10)), (2, .int (1)), (3, .int (9))] : Lc)) (st1 := ([.int (v2 0 12), .int (10), .ref 1] : List Value)) (w1 := (layM v2 h)) (by rfl) ?_
    refine bv_if_eq (j := 26) C rfl rfl (fun c3 => ?_) (fun c3 => ?_)
    · refine bv_blk C frk_X9 csk_X9 3 29 rfl (L1 := ([(4, .int (b2i (rdb (1) (9) (1) v1))), (0, .ref 0), (1, .int (10)), (2, .int (1)), (3, .int (9))] : Lc)) (st1 := ([.int (10), .ref 1, .int (10), .ref 1] : List Value)) (w1 := (layM v2 h)) (by rfl) ?_
      refine bv_iald C rfl rfl (by decide) (j := 10) (by exact rfl) (by first | decide | omega) (by decide) (y := (v2 1 10)) (by rfl) ?_
      refine bv_iast C rfl rfl (by decide) (j := 10) (by exact rfl) (by first | decide | omega) (by decide) ?_
      rw [lm_up rfl]
      refine bv_blk C frk_X9 csk_X9 1 32 rfl (L1 := ([(4, .int (b2i (rdb (1) (9) (1) v1))), (0, .ref 0), (1, .int (10)), (2, .int (1)), (3, .int (9))] : Lc)) (st1 := ([.int (b2i (rdb (1) (9) (1) v1))] : List Value)) (w1 := (layM (ug v2 1 10 (v2 1 10)) h)) (by rfl) ?_
      exact bv_iret C rfl hr (nar_b2i _) ⟨by (subst ev1; subst ev2; exact congrArg (fun x => some (Value.int x)) (rfl).symm), by (subst ev1; subst ev2; exact congrArg (fun x => (layM x h)) (((if_neg c2).trans ((if_pos c3).trans rfl))).symm)⟩
    · refine bv_blk C frk_X9 csk_X9 2 25 rfl (L1 := ([(4, .int (b2i (rdb (1) (9) (1) v1))), (0, .ref 0), (1, .int (10)), (2, .int (1)), (3, .int (9))] : Lc)) (st1 := ([.int (v2 0 16), .int (10), .ref 1] : List Value)) (w1 := (layM v2 h)) (by rfl) ?_
      refine bv_goto (j := 30) C rfl rfl ?_
      refine bv_iast C rfl rfl (by decide) (j := 10) (by exact rfl) (by first | decide | omega) (by decide) ?_
      rw [lm_up rfl]
      refine bv_blk C frk_X9 csk_X9 1 32 rfl (L1 := ([(4, .int (b2i (rdb (1) (9) (1) v1))), (0, .ref 0), (1, .int (10)), (2, .int (1)), (3, .int (9))] : Lc)) (st1 := ([.int (b2i (rdb (1) (9) (1) v1))] : List Value)) (w1 := (layM (ug v2 1 10 (v2 0 16)) h)) (by rfl) ?_
      exact bv_iret C rfl hr (nar_b2i _) ⟨by (subst ev1; subst ev2; exact congrArg (fun x => some (Value.int x)) (rfl).symm), by (subst ev1; subst ev2; exact congrArg (fun x => (layM x h)) (((if_neg c2).trans ((if_neg c3).trans rfl))).symm)⟩
theorem ct_set10_01 {g : Nat → Nat → Int32} : ct_set10_r g = 0 ∨ ct_set10_r g = 1 := by
  unfold ct_set10_r
  generalize (rdb (1) (9) (1) (ct_set10_v1 g)) = b
  cases b
  · exact Or.inl rfl
  · exact Or.inr rfl
def ct_readsStation_v1  (g : Nat → Nat → Int32) : Nat → Nat → Int32 := (nxW g)
def ct_readsStation_v2  (g : Nat → Nat → Int32) : Nat → Nat → Int32 := (rdw (0) (1) (1) (ct_readsStation_v1  g))
def ct_readsStation_v3  (g : Nat → Nat → Int32) : Nat → Nat → Int32 := (rdw (2) (16) (1) (ct_readsStation_v2  g))
def ct_readsStation_v4  (g : Nat → Nat → Int32) : Nat → Nat → Int32 := (rdw (0) (63) (1) (ct_readsStation_v3  g))
def ct_readsStation_v5  (g : Nat → Nat → Int32) : Nat → Nat → Int32 := (rdw (0) (100) (1) (ct_readsStation_v4  g))
def ct_readsStation_v6  (g : Nat → Nat → Int32) : Nat → Nat → Int32 := (ug (ct_readsStation_v5  g) 1 (15 + 20 * (cl ((ct_readsStation_v2  g) 0 16)) + 0) ((ct_readsStation_v3  g) 0 16))
def ct_readsStation_v7  (g : Nat → Nat → Int32) : Nat → Nat → Int32 := (ug (ct_readsStation_v6  g) 1 (15 + 20 * (cl ((ct_readsStation_v2  g) 0 16)) + 1) ((ct_readsStation_v4  g) 0 16))
def ct_readsStation_v8  (g : Nat → Nat → Int32) : Nat → Nat → Int32 := (ug (ct_readsStation_v7  g) 1 (15 + 20 * (cl ((ct_readsStation_v2  g) 0 16)) + 2) ((ct_readsStation_v7  g) 0 16))
def ct_readsStation_r  (g : Nat → Nat → Int32) : Int32 := (if (b2i (rdb (0) (1) (1) (ct_readsStation_v1  g))) = 0 then (0) else (if (b2i (rdb (2) (16) (1) (ct_readsStation_v2  g))) = 0 then (0) else (if (b2i (rdb (0) (63) (1) (ct_readsStation_v3  g))) = 0 then (0) else (if (b2i (rdb (0) (100) (1) (ct_readsStation_v4  g))) = 0 then (0) else (1)))))
def ct_readsStation_w  (g : Nat → Nat → Int32) : Nat → Nat → Int32 := (if (b2i (rdb (0) (1) (1) (ct_readsStation_v1  g))) = 0 then (ct_readsStation_v2  g) else (if (b2i (rdb (2) (16) (1) (ct_readsStation_v2  g))) = 0 then (ct_readsStation_v3  g) else (if (b2i (rdb (0) (63) (1) (ct_readsStation_v3  g))) = 0 then (ct_readsStation_v4  g) else (if (b2i (rdb (0) (100) (1) (ct_readsStation_v4  g))) = 0 then (ct_readsStation_v5  g) else (if ((ct_readsStation_v5  g) 0 12) = 0 then (ct_readsStation_v5  g) else (ct_readsStation_v8  g))))))
set_option maxRecDepth 100000 in
set_option maxHeartbeats 8000000 in
theorem ct_readsStation {l : Launch} {D : va_G} {cA : FieldType → ClassId} {z0 : Nat} {SK SV : Nat → Nat} {ad : Nat → Nat} (hE : aD (fun q => z0 ≤ q) ad 9) (g : Nat → Nat → Int32) (h : Int64)  (ht : tkI g) : bF l D cA z0 SK SV ad shM 9 yX9_readsStation cX9_readsStation 4 (some .boolean) 4 [.ref 0] (layM g h) (some (.int (ct_readsStation_r  g))) (layM (ct_readsStation_w  g) h) := by
  refine bCT_intro (tb := tb_X9_readsStation) (own := RX9) hE pn_X9 rfl tk_X9_readsStation rfl (Nat.le_of_ble_eq_true rfl) ?_
  intro p e s0 m args below meth c C hr
  refine bv_blk C frk_X9 csk_X9 1 1 rfl (L1 := ([(0, .ref 0)] : Lc)) (st1 := ([.ref 0] : List Value)) (w1 := (layM g h)) (by rfl) ?_
  refine bv_fV0 C rfl (cu_next hE g _ ht) ml_X9_221 im_X9_nextToken sel_X9_nextToken ini_X9 cd_X9_nextToken ok_X9_nextToken rfl ⟨Nat.le_of_ble_eq_true rfl, Nat.le_of_ble_eq_true rfl⟩ ⟨Nat.zero_le _, Nat.zero_le _⟩ (by decide) rfl rfl rfl (rest := ([] : List Value)) rfl (Nat.le_of_ble_eq_true rfl) ?_
  obtain ⟨v1, ev1⟩ : ∃ x : Nat → Nat → Int32, x = (ct_readsStation_v1  g) := ⟨_, rfl⟩
  have eq_v1 : (nxW g) = v1 := by rw [ev1, show (ct_readsStation_v1  g) = (nxW g) from rfl]
  refine bv_weq (show (layM (nxW g) h) = (layM v1 h) from by rw [eq_v1]) ?_
  have ht_v1 : tkI v1 := by rw [← eq_v1]; exact (tk_nx ht)
  refine bv_blk C frk_X9 csk_X9 4 6 rfl (L1 := ([(0, .ref 0)] : Lc)) (st1 := ([.int (1), .int (1), .int (0), .ref 0] : List Value)) (w1 := (layM v1 h)) (by rfl) ?_
  refine bv_fV1 C rfl (cu_number hE v1 _ (0) (1) (1) ht_v1) ml_X9_224 im_X9_readsNumber sel_X9_readsNumber ini_X9 cd_X9_readsNumber ok_X9_readsNumber rfl ⟨Nat.le_of_ble_eq_true rfl, Nat.le_of_ble_eq_true rfl⟩ ⟨Nat.zero_le _, Nat.zero_le _⟩ (by decide) rfl rfl rfl (rest := ([] : List Value)) rfl (Nat.le_of_ble_eq_true rfl) ?_
  obtain ⟨v2, ev2⟩ : ∃ x : Nat → Nat → Int32, x = (ct_readsStation_v2  g) := ⟨_, rfl⟩
  have eq_v2 : (rdw (0) (1) (1) v1) = v2 := by rw [ev2, show (ct_readsStation_v2  g) = (rdw (0) (1) (1) (ct_readsStation_v1  g)) from rfl, ← ev1]
  refine bv_weq (show (layM (rdw (0) (1) (1) v1) h) = (layM v2 h) from by rw [eq_v2]) ?_
  have ht_v2 : tkI v2 := by rw [← eq_v2]; exact (tk_rd ht_v1)
  refine bv_if_ne (j := 10) C rfl rfl (fun c1 => ?_) (fun c1 => ?_)
  · have hn_v2 : v2 0 16 = nI (cl (v2 0 16)) ∧ cl (v2 0 16) < 2 := cn_st eq_v2 c1
    have hn2_v2 := hn_v2.2
    refine bv_blk C frk_X9 csk_X9 7 17 rfl (L1 := ([(1, .int (v2 0 16)), (0, .ref 0)] : Lc)) (st1 := ([.int (1), .int (16), .int (2), .ref 0] : List Value)) (w1 := (layM v2 h)) (by rfl) ?_
    refine bv_fV1 C rfl (cu_number hE v2 _ (2) (16) (1) ht_v2) ml_X9_224 im_X9_readsNumber sel_X9_readsNumber ini_X9 cd_X9_readsNumber ok_X9_readsNumber rfl ⟨Nat.le_of_ble_eq_true rfl, Nat.le_of_ble_eq_true rfl⟩ ⟨Nat.zero_le _, Nat.zero_le _⟩ (by decide) rfl rfl rfl (rest := ([] : List Value)) rfl (Nat.le_of_ble_eq_true rfl) ?_
    obtain ⟨v3, ev3⟩ : ∃ x : Nat → Nat → Int32, x = (ct_readsStation_v3  g) := ⟨_, rfl⟩
    have eq_v3 : (rdw (2) (16) (1) v2) = v3 := by rw [ev3, show (ct_readsStation_v3  g) = (rdw (2) (16) (1) (ct_readsStation_v2  g)) from rfl, ← ev2]
    refine bv_weq (show (layM (rdw (2) (16) (1) v2) h) = (layM v3 h) from by rw [eq_v3]) ?_
    have ht_v3 : tkI v3 := by rw [← eq_v3]; exact (tk_rd ht_v2)
    refine bv_if_ne (j := 21) C rfl rfl (fun c2 => ?_) (fun c2 => ?_)
    · refine bv_blk C frk_X9 csk_X9 7 28 rfl (L1 := ([(2, .int (v3 0 16)), (1, .int (v2 0 16)), (0, .ref 0)] : Lc)) (st1 := ([.int (1), .int (63), .int (0), .ref 0] : List Value)) (w1 := (layM v3 h)) (by rfl) ?_
      refine bv_fV1 C rfl (cu_number hE v3 _ (0) (63) (1) ht_v3) ml_X9_224 im_X9_readsNumber sel_X9_readsNumber ini_X9 cd_X9_readsNumber ok_X9_readsNumber rfl ⟨Nat.le_of_ble_eq_true rfl, Nat.le_of_ble_eq_true rfl⟩ ⟨Nat.zero_le _, Nat.zero_le _⟩ (by decide) rfl rfl rfl (rest := ([] : List Value)) rfl (Nat.le_of_ble_eq_true rfl) ?_
      obtain ⟨v4, ev4⟩ : ∃ x : Nat → Nat → Int32, x = (ct_readsStation_v4  g) := ⟨_, rfl⟩
      have eq_v4 : (rdw (0) (63) (1) v3) = v4 := by rw [ev4, show (ct_readsStation_v4  g) = (rdw (0) (63) (1) (ct_readsStation_v3  g)) from rfl, ← ev3]
      refine bv_weq (show (layM (rdw (0) (63) (1) v3) h) = (layM v4 h) from by rw [eq_v4]) ?_
      have ht_v4 : tkI v4 := by rw [← eq_v4]; exact (tk_rd ht_v3)
      refine bv_if_ne (j := 32) C rfl rfl (fun c3 => ?_) (fun c3 => ?_)
      · refine bv_blk C frk_X9 csk_X9 7 39 rfl (L1 := ([(3, .int (v4 0 16)), (2, .int (v3 0 16)), (1, .int (v2 0 16)), (0, .ref 0)] : Lc)) (st1 := ([.int (1), .int (100), .int (0), .ref 0] : List Value)) (w1 := (layM v4 h)) (by rfl) ?_
        refine bv_fV1 C rfl (cu_number hE v4 _ (0) (100) (1) ht_v4) ml_X9_224 im_X9_readsNumber sel_X9_readsNumber ini_X9 cd_X9_readsNumber ok_X9_readsNumber rfl ⟨Nat.le_of_ble_eq_true rfl, Nat.le_of_ble_eq_true rfl⟩ ⟨Nat.zero_le _, Nat.zero_le _⟩ (by decide) rfl rfl rfl (rest := ([] : List Value)) rfl (Nat.le_of_ble_eq_true rfl) ?_
        obtain ⟨v5, ev5⟩ : ∃ x : Nat → Nat → Int32, x = (ct_readsStation_v5  g) := ⟨_, rfl⟩
        have eq_v5 : (rdw (0) (100) (1) v4) = v5 := by rw [ev5, show (ct_readsStation_v5  g) = (rdw (0) (100) (1) (ct_readsStation_v4  g)) from rfl, ← ev4]
        refine bv_weq (show (layM (rdw (0) (100) (1) v4) h) = (layM v5 h) from by rw [eq_v5]) ?_
        have ht_v5 : tkI v5 := by rw [← eq_v5]; exact (tk_rd ht_v4)
        refine bv_if_ne (j := 43) C rfl rfl (fun c4 => ?_) (fun c4 => ?_)
        · refine bv_blk C frk_X9 csk_X9 2 45 rfl (L1 := ([(3, .int (v4 0 16)), (2, .int (v3 0 16)), (1, .int (v2 0 16)), (0, .ref 0)] : Lc)) (st1 := ([.int (v5 0 12)] : List Value)) (w1 := (layM v5 h)) (by rfl) ?_
          refine bv_if_eq (j := 62) C rfl rfl (fun c5 => ?_) (fun c5 => ?_)
          · refine bv_blk C frk_X9 csk_X9 1 63 rfl (L1 := ([(3, .int (v4 0 16)), (2, .int (v3 0 16)), (1, .int (v2 0 16)), (0, .ref 0)] : Lc)) (st1 := ([.int (1)] : List Value)) (w1 := (layM v5 h)) (by rfl) ?_
            exact bv_iret C rfl hr rfl ⟨by (replace ev1 := ev1.symm; subst ev1; replace ev2 := ev2.symm; subst ev2; replace ev3 := ev3.symm; subst ev3; replace ev4 := ev4.symm; subst ev4; replace ev5 := ev5.symm; subst ev5; exact congrArg (fun x => some (Value.int x)) (((if_neg c1).trans ((if_neg c2).trans ((if_neg c3).trans ((if_neg c4).trans rfl))))).symm), by (replace ev1 := ev1.symm; subst ev1; replace ev2 := ev2.symm; subst ev2; replace ev3 := ev3.symm; subst ev3; replace ev4 := ev4.symm; subst ev4; replace ev5 := ev5.symm; subst ev5; exact congrArg (fun x => (layM x h)) (((if_neg c1).trans ((if_neg c2).trans ((if_neg c3).trans ((if_neg c4).trans ((if_pos c5).trans rfl)))))).symm)⟩
          · refine bv_blk C frk_X9 csk_X9 4 50 rfl (L1 := ([(3, .int (v4 0 16)), (2, .int (v3 0 16)), (1, .int (v2 0 16)), (0, .ref 0)] : Lc)) (st1 := ([.int (v3 0 16), .int (0), .int (v2 0 16), .ref 0] : List Value)) (w1 := (layM v5 h)) (by rfl) ?_
            refine bv_fV0 C rfl (ct_sets hE _ _ (cl (v2 0 16)) 0 (v3 0 16) (by omega) (by omega)) ml_X9_48 im_X9_sets sel_X9_sets ini_X9 cd_X9_sets ok_X9_sets rfl ⟨Nat.le_of_ble_eq_true rfl, Nat.le_of_ble_eq_true rfl⟩ ⟨Nat.zero_le _, Nat.zero_le _⟩ (by decide) rfl rfl rfl (rest := ([] : List Value)) (by rw [← (show (v2 0 16) = nI (cl (v2 0 16)) from hn_v2.1)]; rfl) (Nat.le_of_ble_eq_true rfl) ?_
            obtain ⟨v6, ev6⟩ : ∃ x : Nat → Nat → Int32, x = (ct_readsStation_v6  g) := ⟨_, rfl⟩
            have eq_v6 : (ug v5 1 (15 + 20 * (cl (v2 0 16)) + 0) (v3 0 16)) = v6 := by rw [ev6, show (ct_readsStation_v6  g) = (ug (ct_readsStation_v5  g) 1 (15 + 20 * (cl ((ct_readsStation_v2  g) 0 16)) + 0) ((ct_readsStation_v3  g) 0 16)) from rfl, ← ev5, ← ev2, ← ev3]
            refine bv_weq (show (layM (ug v5 1 (15 + 20 * (cl (v2 0 16)) + 0) (v3 0 16)) h) = (layM v6 h) from by rw [eq_v6]) ?_
            have ht_v6 : tkI v6 := by rw [← eq_v6]; exact (tk_ug (by omega) ht_v5)
            refine bv_blk C frk_X9 csk_X9 4 55 rfl (L1 := ([(3, .int (v4 0 16)), (2, .int (v3 0 16)), (1, .int (v2 0 16)), (0, .ref 0)] : Lc)) (st1 := ([.int (v4 0 16), .int (1), .int (v2 0 16), .ref 0] : List Value)) (w1 := (layM v6 h)) (by rfl) ?_
            refine bv_fV0 C rfl (ct_sets hE _ _ (cl (v2 0 16)) 1 (v4 0 16) (by omega) (by omega)) ml_X9_48 im_X9_sets sel_X9_sets ini_X9 cd_X9_sets ok_X9_sets rfl ⟨Nat.le_of_ble_eq_true rfl, Nat.le_of_ble_eq_true rfl⟩ ⟨Nat.zero_le _, Nat.zero_le _⟩ (by decide) rfl rfl rfl (rest := ([] : List Value)) (by rw [← (show (v2 0 16) = nI (cl (v2 0 16)) from hn_v2.1)]; rfl) (Nat.le_of_ble_eq_true rfl) ?_
            obtain ⟨v7, ev7⟩ : ∃ x : Nat → Nat → Int32, x = (ct_readsStation_v7  g) := ⟨_, rfl⟩
            have eq_v7 : (ug v6 1 (15 + 20 * (cl (v2 0 16)) + 1) (v4 0 16)) = v7 := by rw [ev7, show (ct_readsStation_v7  g) = (ug (ct_readsStation_v6  g) 1 (15 + 20 * (cl ((ct_readsStation_v2  g) 0 16)) + 1) ((ct_readsStation_v4  g) 0 16)) from rfl, ← ev6, ← ev2, ← ev4]
            refine bv_weq (show (layM (ug v6 1 (15 + 20 * (cl (v2 0 16)) + 1) (v4 0 16)) h) = (layM v7 h) from by rw [eq_v7]) ?_
            have ht_v7 : tkI v7 := by rw [← eq_v7]; exact (tk_ug (by omega) ht_v6)
            refine bv_blk C frk_X9 csk_X9 5 61 rfl (L1 := ([(3, .int (v4 0 16)), (2, .int (v3 0 16)), (1, .int (v2 0 16)), (0, .ref 0)] : Lc)) (st1 := ([.int (v7 0 16), .int (2), .int (v2 0 16), .ref 0] : List Value)) (w1 := (layM v7 h)) (by rfl) ?_
            refine bv_fV0 C rfl (ct_sets hE _ _ (cl (v2 0 16)) 2 (v7 0 16) (by omega) (by omega)) ml_X9_48 im_X9_sets sel_X9_sets ini_X9 cd_X9_sets ok_X9_sets rfl ⟨Nat.le_of_ble_eq_true rfl, Nat.le_of_ble_eq_true rfl⟩ ⟨Nat.zero_le _, Nat.zero_le _⟩ (by decide) rfl rfl rfl (rest := ([] : List Value)) (by rw [← (show (v2 0 16) = nI (cl (v2 0 16)) from hn_v2.1)]; rfl) (Nat.le_of_ble_eq_true rfl) ?_
            obtain ⟨v8, ev8⟩ : ∃ x : Nat → Nat → Int32, x = (ct_readsStation_v8  g) := ⟨_, rfl⟩
            have eq_v8 : (ug v7 1 (15 + 20 * (cl (v2 0 16)) + 2) (v7 0 16)) = v8 := by rw [ev8, show (ct_readsStation_v8  g) = (ug (ct_readsStation_v7  g) 1 (15 + 20 * (cl ((ct_readsStation_v2  g) 0 16)) + 2) ((ct_readsStation_v7  g) 0 16)) from rfl, ← ev7, ← ev2]
            refine bv_weq (show (layM (ug v7 1 (15 + 20 * (cl (v2 0 16)) + 2) (v7 0 16)) h) = (layM v8 h) from by rw [eq_v8]) ?_
            have ht_v8 : tkI v8 := by rw [← eq_v8]; exact (tk_ug (by omega) ht_v7)
            refine bv_blk C frk_X9 csk_X9 1 63 rfl (L1 := ([(3, .int (v4 0 16)), (2, .int (v3 0 16)), (1, .int (v2 0 16)), (0, .ref 0)] : Lc)) (st1 := ([.int (1)] : List Value)) (w1 := (layM v8 h)) (by rfl) ?_
            exact bv_iret C rfl hr rfl ⟨by (replace ev1 := ev1.symm; subst ev1; replace ev2 := ev2.symm; subst ev2; replace ev3 := ev3.symm; subst ev3; replace ev4 := ev4.symm; subst ev4; replace ev5 := ev5.symm; subst ev5; replace ev6 := ev6.symm; subst ev6; replace ev7 := ev7.symm; subst ev7; replace ev8 := ev8.symm; subst ev8; exact congrArg (fun x => some (Value.int x)) (((if_neg c1).trans ((if_neg c2).trans ((if_neg c3).trans ((if_neg c4).trans rfl))))).symm), by (replace ev1 := ev1.symm; subst ev1; replace ev2 := ev2.symm; subst ev2; replace ev3 := ev3.symm; subst ev3; replace ev4 := ev4.symm; subst ev4; replace ev5 := ev5.symm; subst ev5; replace ev6 := ev6.symm; subst ev6; replace ev7 := ev7.symm; subst ev7; replace ev8 := ev8.symm; subst ev8; exact congrArg (fun x => (layM x h)) (((if_neg c1).trans ((if_neg c2).trans ((if_neg c3).trans ((if_neg c4).trans ((if_neg c5).trans rfl)))))).symm)⟩
        · refine bv_blk C frk_X9 csk_X9 1 42 rfl (L1 := ([(3, .int (v4 0 16)), (2, .int (v3 0 16)), (1, .int (v2 0 16)), (0, .ref 0)] : Lc)) (st1 := ([.int (0)] : List Value)) (w1 := (layM v5 h)) (by rfl) ?_
          exact bv_iret C rfl hr rfl ⟨by (replace ev1 := ev1.symm; subst ev1; replace ev2 := ev2.symm; subst ev2; replace ev3 := ev3.symm; subst ev3; replace ev4 := ev4.symm; subst ev4; replace ev5 := ev5.symm; subst ev5; exact congrArg (fun x => some (Value.int x)) (((if_neg c1).trans ((if_neg c2).trans ((if_neg c3).trans ((if_pos c4).trans rfl))))).symm), by (replace ev1 := ev1.symm; subst ev1; replace ev2 := ev2.symm; subst ev2; replace ev3 := ev3.symm; subst ev3; replace ev4 := ev4.symm; subst ev4; replace ev5 := ev5.symm; subst ev5; exact congrArg (fun x => (layM x h)) (((if_neg c1).trans ((if_neg c2).trans ((if_neg c3).trans ((if_pos c4).trans rfl))))).symm)⟩
      · refine bv_blk C frk_X9 csk_X9 1 31 rfl (L1 := ([(2, .int (v3 0 16)), (1, .int (v2 0 16)), (0, .ref 0)] : Lc)) (st1 := ([.int (0)] : List Value)) (w1 := (layM v4 h)) (by rfl) ?_
        exact bv_iret C rfl hr rfl ⟨by (replace ev1 := ev1.symm; subst ev1; replace ev2 := ev2.symm; subst ev2; replace ev3 := ev3.symm; subst ev3; replace ev4 := ev4.symm; subst ev4; exact congrArg (fun x => some (Value.int x)) (((if_neg c1).trans ((if_neg c2).trans ((if_pos c3).trans rfl)))).symm), by (replace ev1 := ev1.symm; subst ev1; replace ev2 := ev2.symm; subst ev2; replace ev3 := ev3.symm; subst ev3; replace ev4 := ev4.symm; subst ev4; exact congrArg (fun x => (layM x h)) (((if_neg c1).trans ((if_neg c2).trans ((if_pos c3).trans rfl)))).symm)⟩
    · refine bv_blk C frk_X9 csk_X9 1 20 rfl (L1 := ([(1, .int (v2 0 16)), (0, .ref 0)] : Lc)) (st1 := ([.int (0)] : List Value)) (w1 := (layM v3 h)) (by rfl) ?_
      exact bv_iret C rfl hr rfl ⟨by (replace ev1 := ev1.symm; subst ev1; replace ev2 := ev2.symm; subst ev2; replace ev3 := ev3.symm; subst ev3; exact congrArg (fun x => some (Value.int x)) (((if_neg c1).trans ((if_pos c2).trans rfl))).symm), by (replace ev1 := ev1.symm; subst ev1; replace ev2 := ev2.symm; subst ev2; replace ev3 := ev3.symm; subst ev3; exact congrArg (fun x => (layM x h)) (((if_neg c1).trans ((if_pos c2).trans rfl))).symm)⟩
  · refine bv_blk C frk_X9 csk_X9 1 9 rfl (L1 := ([(0, .ref 0)] : Lc)) (st1 := ([.int (0)] : List Value)) (w1 := (layM v2 h)) (by rfl) ?_
    exact bv_iret C rfl hr rfl ⟨by (replace ev1 := ev1.symm; subst ev1; replace ev2 := ev2.symm; subst ev2; exact congrArg (fun x => some (Value.int x)) (((if_pos c1).trans rfl)).symm), by (replace ev1 := ev1.symm; subst ev1; replace ev2 := ev2.symm; subst ev2; exact congrArg (fun x => (layM x h)) (((if_pos c1).trans rfl)).symm)⟩
