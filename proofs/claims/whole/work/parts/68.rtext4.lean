def cl (x : Int32) : Nat := x.toNatClampNeg
def tkI (g : Nat → Nat → Int32) : Prop := ∃ Ln f b, tokI g Ln f b
def nxW (g : Nat → Nat → Int32) : Nat → Nat → Int32 := ntG (cl (g 0 4)) (cl (g 0 10)) g
def iwB (w : Nat) (g : Nat → Nat → Int32) : Bool := wdB (g 3) w (cl (g 0 9)) (cl (g 0 10))
def rdb (lo hi sg : Int32) (g : Nat → Nat → Int32) : Bool := rdB (g 3) lo hi sg (cl (g 0 4)) (cl (g 0 9)) (cl (g 0 10))
def rdw (lo hi sg : Int32) (g : Nat → Nat → Int32) : Nat → Nat → Int32 := rdG g lo hi sg (cl (g 0 4)) (cl (g 0 9)) (cl (g 0 10))
def rsb (lo hi : Int32) (g : Nat → Nat → Int32) : Bool := rsB g lo hi (cl (g 0 4)) (cl (g 0 9)) (cl (g 0 10))
def rsw (lo hi : Int32) (g : Nat → Nat → Int32) : Nat → Nat → Int32 := rsG g lo hi (cl (g 0 4)) (cl (g 0 9)) (cl (g 0 10))
theorem tk_cl {g : Nat → Nat → Int32} (h : tkI g) : tokI g (cl (g 0 4)) (cl (g 0 9)) (cl (g 0 10)) := by
  obtain ⟨Ln, f, b, h9⟩ := h
  obtain ⟨h1, h2, h3, h4, h5, h6, h7⟩ := id h9
  have e1 : cl (g 0 4) = Ln := by rw [h1]; exact nI_clamp (by omega)
  have e2 : cl (g 0 9) = f := by rw [h3]; exact nI_clamp (by omega)
  have e3 : cl (g 0 10) = b := by rw [h4]; exact nI_clamp (by omega)
  rw [e1, e2, e3]
  exact h9
theorem tk_ug {g : Nat → Nat → Int32} {a k : Nat} {x : Int32} (hk : ¬ (a = 0 ∧ (k = 4 ∨ k = 9 ∨ k = 10))) (h : tkI g) : tkI (ug g a k x) := by
  obtain ⟨Ln, f, b, h1, h2, h3, h4, h5⟩ := h
  exact ⟨Ln, f, b, (ug_ne (by omega)).trans h1, h2, (ug_ne (by omega)).trans h3, (ug_ne (by omega)).trans h4, h5⟩
theorem tk_nx {g : Nat → Nat → Int32} (h : tkI g) : tkI (nxW g) := ⟨_, _, _, tok_nt (tk_cl h).1 (tk_cl h).2.1 (tk_cl h).2.2.2.2.2.1⟩
theorem tk_rdG {g : Nat → Nat → Int32} {lo hi sg : Int32} {Ln f b : Nat} (h : tokI g Ln f b) : tkI (rdG g lo hi sg Ln f b) := by
  unfold rdG
  split
  · exact ⟨_, _, _, tok_nt ((ug_ne (by omega)).trans h.1) h.2.1 h.2.2.2.2.2.1⟩
  · exact ⟨_, _, _, h⟩
theorem tk_rd {lo hi sg : Int32} {g : Nat → Nat → Int32} (h : tkI g) : tkI (rdw lo hi sg g) := tk_rdG (tk_cl h)
theorem tk_rs {lo hi : Int32} {g : Nat → Nat → Int32} (h : tkI g) : tkI (rsw lo hi g) := by
  have z := tk_cl h
  unfold rsw rsG
  split
  · exact tk_rdG (tok_nt z.1 z.2.1 z.2.2.2.2.2.1)
  · exact tk_rdG z
/-- what reading changes: the token's places and the number -/
def kq (g g' : Nat → Nat → Int32) : Prop := ∀ a k, ¬ (a = 0 ∧ (k = 9 ∨ k = 10 ∨ k = 16)) → g' a k = g a k
theorem kq_nt {g : Nat → Nat → Int32} {Ln b : Nat} : kq g (ntG Ln b g) := fun a k h => (ug_ne (by omega)).trans (ug_ne (by omega))
theorem kq_rdG {g : Nat → Nat → Int32} {lo hi sg : Int32} {Ln f b : Nat} : kq g (rdG g lo hi sg Ln f b) := by
  intro a k h
  unfold rdG
  split
  · exact (kq_nt a k h).trans (ug_ne (by omega))
  · rfl
theorem kq_nx {g : Nat → Nat → Int32} : kq g (nxW g) := kq_nt
theorem kq_rd {lo hi sg : Int32} {g : Nat → Nat → Int32} : kq g (rdw lo hi sg g) := kq_rdG
theorem kq_rs {lo hi : Int32} {g : Nat → Nat → Int32} : kq g (rsw lo hi g) := by
  intro a k h
  unfold rsw rsG
  split
  · exact (kq_rdG a k h).trans (kq_nt a k h)
  · exact kq_rdG a k h
theorem rdB_in {t : Nat → Int32} {lo hi sg : Int32} {Ln f b : Nat} (h : rdB t lo hi sg Ln f b = true) : lo ≤ sg * nmF t (b - f) f 0 ∧ sg * nmF t (b - f) f 0 ≤ hi := by
  unfold rdB at h
  split at h
  · cases h
  · split at h
    · cases h
    · split at h
      · cases h
      · exact of_decide_eq_true h
theorem rd_in {lo hi sg : Int32} {g : Nat → Nat → Int32} (h : rdb lo hi sg g = true) : lo ≤ rdw lo hi sg g 0 16 ∧ rdw lo hi sg g 0 16 ≤ hi := by
  have z := rdB_in h
  unfold rdw
  rw [rdG_t h rfl]
  have e : ntG (cl (g 0 4)) (cl (g 0 10)) (ug g 0 16 (sg * nmF (g 3) (cl (g 0 10) - cl (g 0 9)) (cl (g 0 9)) 0)) 0 16 = sg * nmF (g 3) (cl (g 0 10) - cl (g 0 9)) (cl (g 0 9)) 0 := (ug_ne (by omega)).trans ((ug_ne (by omega)).trans ug_same)
  rw [e]
  exact z
theorem cl_st {x : Int32} (h : (0 : Int32) ≤ x ∧ x ≤ 1) : x = nI (cl x) ∧ cl x < 2 := by
  obtain ⟨s, hs, rfl⟩ := stat_of h
  unfold cl
  rw [nI_clamp (by omega)]
  exact ⟨rfl, hs⟩
theorem cn_st {g g' : Nat → Nat → Int32} (e : rdw (0) (1) (1) g = g') (h : ¬ b2i (rdb (0) (1) (1) g) = 0) : g' 0 16 = nI (cl (g' 0 16)) ∧ cl (g' 0 16) < 2 := by
  have z := rd_in (b2i_1 h)
  rw [e] at z
  exact cl_st z
theorem cu_next {l : Launch} {D : va_G} {cA : FieldType → ClassId} {z0 : Nat} {SK SV : Nat → Nat} {ad : Nat → Nat} (hE : aD (fun q => z0 ≤ q) ad 9) (g : Nat → Nat → Int32) (h : Int64)  (ht : tkI g) : bF l D cA z0 SK SV ad shM 9 yX9_nextToken cX9_nextToken 3 none 2 [.ref 0] (layM g h) none (layM (nxW g) h) := ct_nextToken hE g h _ _ (tk_cl ht).1 (tk_cl ht).2.1 (tk_cl ht).2.2.2.1 (tk_cl ht).2.2.2.2.2.1
theorem cu_word {l : Launch} {D : va_G} {cA : FieldType → ClassId} {z0 : Nat} {SK SV : Nat → Nat} {ad : Nat → Nat} (hE : aD (fun q => z0 ≤ q) ad 9) (g : Nat → Nat → Int32) (h : Int64) (w : Nat) (ht : tkI g) (hw : w < 6) : bF l D cA z0 SK SV ad shM 9 yX9_isWord cX9_isWord 4 (some .boolean) 1 [.ref 0, .int (nI w)] (layM g h) (some (.int (b2i (iwB w g)))) (layM g h) := ct_isWord hE g h _ _ _ w (tk_cl ht) hw
theorem cu_number {l : Launch} {D : va_G} {cA : FieldType → ClassId} {z0 : Nat} {SK SV : Nat → Nat} {ad : Nat → Nat} (hE : aD (fun q => z0 ≤ q) ad 9) (g : Nat → Nat → Int32) (h : Int64) (lo hi sg : Int32) (ht : tkI g) : bF l D cA z0 SK SV ad shM 9 yX9_readsNumber cX9_readsNumber 6 (some .boolean) 3 [.ref 0, .int lo, .int hi, .int sg] (layM g h) (some (.int (b2i (rdb lo hi sg g)))) (layM (rdw lo hi sg g) h) := ct_readsNumber hE g h _ _ _ lo hi sg (tk_cl ht)
theorem cu_signed {l : Launch} {D : va_G} {cA : FieldType → ClassId} {z0 : Nat} {SK SV : Nat → Nat} {ad : Nat → Nat} (hE : aD (fun q => z0 ≤ q) ad 9) (g : Nat → Nat → Int32) (h : Int64) (lo hi : Int32) (ht : tkI g) : bF l D cA z0 SK SV ad shM 9 yX9_readsSigned cX9_readsSigned 4 (some .boolean) 4 [.ref 0, .int lo, .int hi] (layM g h) (some (.int (b2i (rsb lo hi g)))) (layM (rsw lo hi g) h) := ct_readsSigned hE g h _ _ _ lo hi (tk_cl ht)
def ct_set6_v1  (g : Nat → Nat → Int32) : Nat → Nat → Int32 := (nxW g)
def ct_set6_v2  (g : Nat → Nat → Int32) : Nat → Nat → Int32 := (rsw (-200) (200) (ct_set6_v1  g))
def ct_set6_r  (g : Nat → Nat → Int32) : Int32 := (b2i (rsb (-200) (200) (ct_set6_v1  g)))
def ct_set6_w  (g : Nat → Nat → Int32) : Nat → Nat → Int32 := (if (b2i (rsb (-200) (200) (ct_set6_v1  g))) = 0 then (ug (ct_set6_v2  g) 1 6 ((ct_set6_v2  g) 1 6)) else (if ((ct_set6_v2  g) 0 12) = 0 then (ug (ct_set6_v2  g) 1 6 ((ct_set6_v2  g) 1 6)) else (ug (ct_set6_v2  g) 1 6 ((ct_set6_v2  g) 0 16))))
set_option maxRecDepth 100000 in
set_option maxHeartbeats 8000000 in
theorem ct_set6 {l : Launch} {D : va_G} {cA : FieldType → ClassId} {z0 : Nat} {SK SV : Nat → Nat} {ad : Nat → Nat} (hE : aD (fun q => z0 ≤ q) ad 9) (g : Nat → Nat → Int32) (h : Int64)  (ht : tkI g) : bF l D cA z0 SK SV ad shM 9 yX9_readsSetting cX9_readsSetting 5 (some .boolean) 5 [.ref 0, .int (6), .int (-200), .int (200)] (layM g h) (some (.int (ct_set6_r  g))) (layM (ct_set6_w  g) h) := by
  refine bCT_intro (tb := tb_X9_readsSetting) (own := RX9) hE pn_X9 rfl tk_X9_readsSetting rfl (Nat.le_of_ble_eq_true rfl) ?_
  intro p e s0 m args below meth c C hr
  refine bv_blk C frk_X9 csk_X9 1 1 rfl (L1 := ([(0, .ref 0), (1, .int (6)), (2, .int (-200)), (3, .int (200))] : Lc)) (st1 := ([.ref 0] : List Value)) (w1 := (layM g h)) (by rfl) ?_
  refine bv_fV0 C rfl (cu_next hE g _ ht) ml_X9_221 im_X9_nextToken sel_X9_nextToken ini_X9 cd_X9_nextToken ok_X9_nextToken rfl ⟨Nat.le_of_ble_eq_true rfl, Nat.le_of_ble_eq_true rfl⟩ ⟨Nat.zero_le _, Nat.zero_le _⟩ (by decide) rfl rfl rfl (rest := ([] : List Value)) rfl (Nat.le_of_ble_eq_true rfl) ?_
  obtain ⟨v1, ev1⟩ : ∃ x : Nat → Nat → Int32, x = (ct_set6_v1  g) := ⟨_, rfl⟩
  have eq_v1 : (nxW g) = v1 := by rw [ev1, show (ct_set6_v1  g) = (nxW g) from rfl]
  refine bv_weq (show (layM (nxW g) h) = (layM v1 h) from by rw [eq_v1]) ?_
  have ht_v1 : tkI v1 := by rw [← eq_v1]; exact (tk_nx ht)
  refine bv_blk C frk_X9 csk_X9 1 3 rfl (L1 := ([(0, .ref 0), (1, .int (6)), (2, .int (-200)), (3, .int (200))] : Lc)) (st1 := ([.int (-200)] : List Value)) (w1 := (layM v1 h)) (by rfl) ?_
  refine bv_if_ge (j := 9) C rfl rfl (fun h => absurd h (by decide)) (fun _ => ?_)
  refine bv_blk C frk_X9 csk_X9 3 7 rfl (L1 := ([(0, .ref 0), (1, .int (6)), (2, .int (-200)), (3, .int (200))] : Lc)) (st1 := ([.int (200), .int (-200), .ref 0] : List Value)) (w1 := (layM v1 h)) (by rfl) ?_
  refine bv_fV1 C rfl (cu_signed hE v1 _ (-200) (200) ht_v1) ml_X9_237 im_X9_readsSigned sel_X9_readsSigned ini_X9 cd_X9_readsSigned ok_X9_readsSigned rfl ⟨Nat.le_of_ble_eq_true rfl, Nat.le_of_ble_eq_true rfl⟩ ⟨Nat.zero_le _, Nat.zero_le _⟩ (by decide) rfl rfl rfl (rest := ([] : List Value)) rfl (Nat.le_of_ble_eq_true rfl) ?_
  obtain ⟨v2, ev2⟩ : ∃ x : Nat → Nat → Int32, x = (ct_set6_v2  g) := ⟨_, rfl⟩
  have eq_v2 : (rsw (-200) (200) v1) = v2 := by rw [ev2, show (ct_set6_v2  g) = (rsw (-200) (200) (ct_set6_v1  g)) from rfl, ← ev1]
  refine bv_weq (show (layM (rsw (-200) (200) v1) h) = (layM v2 h) from by rw [eq_v2]) ?_
  have ht_v2 : tkI v2 := by rw [← eq_v2]; exact (tk_rs ht_v1)
  refine bv_goto (j := 14) C rfl rfl ?_
  refine bv_blk C frk_X9 csk_X9 5 19 rfl (L1 := ([(4, .int (b2i (rsb (-200) (200) v1))), (0, .ref 0), (1, .int (6)), (2, .int (-200)), (3, .int (200))] : Lc)) (st1 := ([.int (b2i (rsb (-200) (200) v1)), .int (6), .ref 1] : List Value)) (w1 := (layM v2 h)) (by rfl) ?_
  refine bv_if_eq (j := 26) C rfl rfl (fun c2 => ?_) (fun c2 => ?_)
  · refine bv_blk C frk_X9 csk_X9 3 29 rfl (L1 := ([(4, .int (b2i (rsb (-200) (200) v1))), (0, .ref 0), (1, .int (6)), (2, .int (-200)), (3, .int (200))] : Lc)) (st1 := ([.int (6), .ref 1, .int (6), .ref 1] : List Value)) (w1 := (layM v2 h)) (by rfl) ?_
    refine bv_iald C rfl rfl (by decide) (j := 6) (by exact rfl) (by first | decide | omega) (by decide) (y := (v2 1 6)) (by rfl) ?_
    refine bv_iast C rfl rfl (by decide) (j := 6) (by exact rfl) (by first | decide | omega) (by decide) ?_
    rw [lm_up rfl]
    refine bv_blk C frk_X9 csk_X9 1 32 rfl (L1 := ([(4, .int (b2i (rsb (-200) (200) v1))), (0, .ref 0), (1, .int (6)), (2, .int (-200)), (3, .int (200))] : Lc)) (st1 := ([.int (b2i (rsb (-200) (200) v1))] : List Value)) (w1 := (layM (ug v2 1 6 (v2 1 6)) h)) (by rfl) ?_
    exact bv_iret C rfl hr (nar_b2i _) ⟨by (subst ev1; subst ev2; exact congrArg (fun x => some (Value.int x)) (rfl).symm), by (subst ev1; subst ev2; exact congrArg (fun x => (layM x h)) (((if_pos c2).trans rfl)).symm)⟩
  · refine bv_blk C frk_X9 csk_X9 2 22 rfl (L1 := ([(4, .int (b2i (rsb (-200) (200) v1))), (0, .ref 0), (1, .int (6)), (2, .int (-200)), (3, .int (200))] : Lc)) (st1 := ([.int (v2 0 12), .int (6), .ref 1] : List Value)) (w1 := (layM v2 h)) (by rfl) ?_
    refine bv_if_eq (j := 26) C rfl rfl (fun c3 => ?_) (fun c3 => ?_)
    · refine bv_blk C frk_X9 csk_X9 3 29 rfl (L1 := ([(4, .int (b2i (rsb (-200) (200) v1))), (0, .ref 0), (1, .int (6)), (2, .int (-200)), (3, .int (200))] : Lc)) (st1 := ([.int (6), .ref 1, .int (6), .ref 1] : List Value)) (w1 := (layM v2 h)) (by rfl) ?_
      refine bv_iald C rfl rfl (by decide) (j := 6) (by exact rfl) (by first | decide | omega) (by decide) (y := (v2 1 6)) (by rfl) ?_
      refine bv_iast C rfl rfl (by decide) (j := 6) (by exact rfl) (by first | decide | omega) (by decide) ?_
      rw [lm_up rfl]
      refine bv_blk C frk_X9 csk_X9 1 32 rfl (L1 := ([(4, .int (b2i (rsb (-200) (200) v1))), (0, .ref 0), (1, .int (6)), (2, .int (-200)), (3, .int (200))] : Lc)) (st1 := ([.int (b2i (rsb (-200) (200) v1))] : List Value)) (w1 := (layM (ug v2 1 6 (v2 1 6)) h)) (by rfl) ?_
      exact bv_iret C rfl hr (nar_b2i _) ⟨by (subst ev1; subst ev2; exact congrArg (fun x => some (Value.int x)) (rfl).symm), by (subst ev1; subst ev2; exact congrArg (fun x => (layM x h)) (((if_neg c2).trans ((if_pos c3).trans rfl))).symm)⟩
    · refine bv_blk C frk_X9 csk_X9 2 25 rfl (L1 := ([(4, .int (b2i (rsb (-200) (200) v1))), (0, .ref 0), (1, .int (6)), (2, .int (-200)), (3, .int (200))] : Lc)) (st1 := ([.int (v2 0 16), .int (6), .ref 1] : List Value)) (w1 := (layM v2 h)) (by rfl) ?_
      refine bv_goto (j := 30) C rfl rfl ?_
      refine bv_iast C rfl rfl (by decide) (j := 6) (by exact rfl) (by first | decide | omega) (by decide) ?_
      rw [lm_up rfl]
      refine bv_blk C frk_X9 csk_X9 1 32 rfl (L1 := ([(4, .int (b2i (rsb (-200) (200) v1))), (0, .ref 0), (1, .int (6)), (2, .int (-200)), (3, .int (200))] : Lc)) (st1 := ([.int (b2i (rsb (-200) (200) v1))] : List Value)) (w1 := (layM (ug v2 1 6 (v2 0 16)) h)) (by rfl) ?_
      exact bv_iret C rfl hr (nar_b2i _) ⟨by (subst ev1; subst ev2; exact congrArg (fun x => some (Value.int x)) (rfl).symm), by (subst ev1; subst ev2; exact congrArg (fun x => (layM x h)) (((if_neg c2).trans ((if_neg c3).trans rfl))).symm)⟩
theorem ct_set6_01 {g : Nat → Nat → Int32} : ct_set6_r g = 0 ∨ ct_set6_r g = 1 := by
  unfold ct_set6_r
  generalize (rsb (-200) (200) (ct_set6_v1 g)) = b
  cases b
  · exact Or.inl rfl
  · exact Or.inr rfl
def ct_set7_v1  (g : Nat → Nat → Int32) : Nat → Nat → Int32 := (nxW g)
def ct_set7_v2  (g : Nat → Nat → Int32) : Nat → Nat → Int32 := (rdw (0) (60) (1) (ct_set7_v1  g))
def ct_set7_r  (g : Nat → Nat → Int32) : Int32 := (b2i (rdb (0) (60) (1) (ct_set7_v1  g)))
def ct_set7_w  (g : Nat → Nat → Int32) : Nat → Nat → Int32 := (if (b2i (rdb (0) (60) (1) (ct_set7_v1  g))) = 0 then (ug (ct_set7_v2  g) 1 7 ((ct_set7_v2  g) 1 7)) else (if ((ct_set7_v2  g) 0 12) = 0 then (ug (ct_set7_v2  g) 1 7 ((ct_set7_v2  g) 1 7)) else (ug (ct_set7_v2  g) 1 7 ((ct_set7_v2  g) 0 16))))
set_option maxRecDepth 100000 in
set_option maxHeartbeats 8000000 in
theorem ct_set7 {l : Launch} {D : va_G} {cA : FieldType → ClassId} {z0 : Nat} {SK SV : Nat → Nat} {ad : Nat → Nat} (hE : aD (fun q => z0 ≤ q) ad 9) (g : Nat → Nat → Int32) (h : Int64)  (ht : tkI g) : bF l D cA z0 SK SV ad shM 9 yX9_readsSetting cX9_readsSetting 5 (some .boolean) 5 [.ref 0, .int (7), .int (0), .int (60)] (layM g h) (some (.int (ct_set7_r  g))) (layM (ct_set7_w  g) h) := by
  refine bCT_intro (tb := tb_X9_readsSetting) (own := RX9) hE pn_X9 rfl tk_X9_readsSetting rfl (Nat.le_of_ble_eq_true rfl) ?_
  intro p e s0 m args below meth c C hr
  refine bv_blk C frk_X9 csk_X9 1 1 rfl (L1 := ([(0, .ref 0), (1, .int (7)), (2, .int (0)), (3, .int (60))] : Lc)) (st1 := ([.ref 0] : List Value)) (w1 := (layM g h)) (by rfl) ?_
  refine bv_fV0 C rfl (cu_next hE g _ ht) ml_X9_221 im_X9_nextToken sel_X9_nextToken ini_X9 cd_X9_nextToken ok_X9_nextToken rfl ⟨Nat.le_of_ble_eq_true rfl, Nat.le_of_ble_eq_true rfl⟩ ⟨Nat.zero_le _, Nat.zero_le _⟩ (by decide) rfl rfl rfl (rest := ([] : List Value)) rfl (Nat.le_of_ble_eq_true rfl) ?_
  obtain ⟨v1, ev1⟩ : ∃ x : Nat → Nat → Int32, x = (ct_set7_v1  g) := ⟨_, rfl⟩
  have eq_v1 : (nxW g) = v1 := by rw [ev1, show (ct_set7_v1  g) = (nxW g) from rfl]
  refine bv_weq (show (layM (nxW g) h) = (layM v1 h) from by rw [eq_v1]) ?_
  have ht_v1 : tkI v1 := by rw [← eq_v1]; exact (tk_nx ht)
  refine bv_blk C frk_X9 csk_X9 1 3 rfl (L1 := ([(0, .ref 0), (1, .int (7)), (2, .int (0)), (3, .int (60))] : Lc)) (st1 := ([.int (0)] : List Value)) (w1 := (layM v1 h)) (by rfl) ?_
  refine bv_if_ge (j := 9) C rfl rfl (fun _ => ?_) (fun h => absurd h (by decide))
  refine bv_blk C frk_X9 csk_X9 4 13 rfl (L1 := ([(0, .ref 0), (1, .int (7)), (2, .int (0)), (3, .int (60))] : Lc)) (st1 := ([.int (1), .int (60), .int (0), .ref 0] : List Value)) (w1 := (layM v1 h)) (by rfl) ?_
  refine bv_fV1 C rfl (cu_number hE v1 _ (0) (60) (1) ht_v1) ml_X9_224 im_X9_readsNumber sel_X9_readsNumber ini_X9 cd_X9_readsNumber ok_X9_readsNumber rfl ⟨Nat.le_of_ble_eq_true rfl, Nat.le_of_ble_eq_true rfl⟩ ⟨Nat.zero_le _, Nat.zero_le _⟩ (by decide) rfl rfl rfl (rest := ([] : List Value)) rfl (Nat.le_of_ble_eq_true rfl) ?_
  obtain ⟨v2, ev2⟩ : ∃ x : Nat → Nat → Int32, x = (ct_set7_v2  g) := ⟨_, rfl⟩
  have eq_v2 : (rdw (0) (60) (1) v1) = v2 := by rw [ev2, show (ct_set7_v2  g) = (rdw (0) (60) (1) (ct_set7_v1  g)) from rfl, ← ev1]
  refine bv_weq (show (layM (rdw (0) (60) (1) v1) h) = (layM v2 h) from by rw [eq_v2]) ?_
  have ht_v2 : tkI v2 := by rw [← eq_v2]; exact (tk_rd ht_v1)
  refine bv_blk C frk_X9 csk_X9 5 19 rfl (L1 := ([(4, .int (b2i (rdb (0) (60) (1) v1))), (0, .ref 0), (1, .int (7)), (2, .int (0)), (3, .int (60))] : Lc)) (st1 := ([.int (b2i (rdb (0) (60) (1) v1)), .int (7), .ref 1] : List Value)) (w1 := (layM v2 h)) (by rfl) ?_
  refine bv_if_eq (j := 26) C rfl rfl (fun c2 => ?_) (fun c2 => ?_)
  · refine bv_blk C frk_X9 csk_X9 3 29 rfl (L1 := ([(4, .int (b2i (rdb (0) (60) (1) v1))), (0, .ref 0), (1, .int (7)), (2, .int (0)), (3, .int (60))] : Lc)) (st1 := ([.int (7), .ref 1, .int (7), .ref 1] : List Value)) (w1 := (layM v2 h)) (by rfl) ?_
    refine bv_iald C rfl rfl (by decide) (j := 7) (by exact rfl) (by first | decide | omega) (by decide) (y := (v2 1 7)) (by rfl) ?_
    refine bv_iast C rfl rfl (by decide) (j := 7) (by exact rfl) (by first | decide | omega) (by decide) ?_
    rw [lm_up rfl]
    refine bv_blk C frk_X9 csk_X9 1 32 rfl (L1 := ([(4, .int (b2i (rdb (0) (60) (1) v1))), (0, .ref 0), (1, .int (7)), (2, .int (0)), (3, .int (60))] : Lc)) (st1 := ([.int (b2i (rdb (0) (60) (1) v1))] : List Value)) (w1 := (layM (ug v2 1 7 (v2 1 7)) h)) (by rfl) ?_
    exact bv_iret C rfl hr (nar_b2i _) ⟨by (subst ev1; subst ev2; exact congrArg (fun x => some (Value.int x)) (rfl).symm), by (subst ev1; subst ev2; exact congrArg (fun x => (layM x h)) (((if_pos c2).trans rfl)).symm)⟩
  · refine bv_blk C frk_X9 csk_X9 2 22 rfl (L1 := ([(4, .int (b2i (rdb (0) (60) (1) v1))), (0, .ref 0), (1, .int (7)), (2, .int (0)), (3, .int (60))] : Lc)) (st1 := ([.int (v2 0 12), .int (7), .ref 1] : List Value)) (w1 := (layM v2 h)) (by rfl) ?_
    refine bv_if_eq (j := 26) C rfl rfl (fun c3 => ?_) (fun c3 => ?_)
    · refine bv_blk C frk_X9 csk_X9 3 29 rfl (L1 := ([(4, .int (b2i (rdb (0) (60) (1) v1))), (0, .ref 0), (1, .int (7)), (2, .int (0)), (3, .int (60))] : Lc)) (st1 := ([.int (7), .ref 1, .int (7), .ref 1] : List Value)) (w1 := (layM v2 h)) (by rfl) ?_
      refine bv_iald C rfl rfl (by decide) (j := 7) (by exact rfl) (by first | decide | omega) (by decide) (y := (v2 1 7)) (by rfl) ?_
      refine bv_iast C rfl rfl (by decide) (j := 7) (by exact rfl) (by first | decide | omega) (by decide) ?_
      rw [lm_up rfl]
      refine bv_blk C frk_X9 csk_X9 1 32 rfl (L1 := ([(4, .int (b2i (rdb (0) (60) (1) v1))), (0, .ref 0), (1, .int (7)), (2, .int (0)), (3, .int (60))] : Lc)) (st1 := ([.int (b2i (rdb (0) (60) (1) v1))] : List Value)) (w1 := (layM (ug v2 1 7 (v2 1 7)) h)) (by rfl) ?_
      exact bv_iret C rfl hr (nar_b2i _) ⟨by (subst ev1; subst ev2; exact congrArg (fun x => some (Value.int x)) (rfl).symm), by (subst ev1; subst ev2; exact congrArg (fun x => (layM x h)) (((if_neg c2).trans ((if_pos c3).trans rfl))).symm)⟩
    · refine bv_blk C frk_X9 csk_X9 2 25 rfl (L1 := ([(4, .int (b2i (rdb (0) (60) (1) v1))), (0, .ref 0), (1, .int (7)), (2, .int (0)), (3, .int (60))] : Lc)) (st1 := ([.int (v2 0 16), .int (7), .ref 1] : List Value)) (w1 := (layM v2 h)) (by rfl) ?_
      refine bv_goto (j := 30) C rfl rfl ?_
      refine bv_iast C rfl rfl (by decide) (j := 7) (by exact rfl) (by first | decide | omega) (by decide) ?_
      rw [lm_up rfl]
      refine bv_blk C frk_X9 csk_X9 1 32 rfl (L1 := ([(4, .int (b2i (rdb (0) (60) (1) v1))), (0, .ref 0), (1, .int (7)), (2, .int (0)), (3, .int (60))] : Lc)) (st1 := ([.int (b2i (rdb (0) (60) (1) v1))] : List Value)) (w1 := (layM (ug v2 1 7 (v2 0 16)) h)) (by rfl) ?_
      exact bv_iret C rfl hr (nar_b2i _) ⟨by (subst ev1; subst ev2; exact congrArg (fun x => some (Value.int x)) (rfl).symm), by (subst ev1; subst ev2; exact congrArg (fun x => (layM x h)) (((if_neg c2).trans ((if_neg c3).trans rfl))).symm)⟩
theorem ct_set7_01 {g : Nat → Nat → Int32} : ct_set7_r g = 0 ∨ ct_set7_r g = 1 := by
  unfold ct_set7_r
  generalize (rdb (0) (60) (1) (ct_set7_v1 g)) = b
  cases b
  · exact Or.inl rfl
  · exact Or.inr rfl
def ct_set10_v1  (g : Nat → Nat → Int32) : Nat → Nat → Int32 := (nxW g)
def ct_set10_v2  (g : Nat → Nat → Int32) : Nat → Nat → Int32 := (rdw (1) (9) (1) (ct_set10_v1  g))
def ct_set10_r  (g : Nat → Nat → Int32) : Int32 := (b2i (rdb (1) (9) (1) (ct_set10_v1  g)))
def ct_set10_w  (g : Nat → Nat → Int32) : Nat → Nat → Int32 := (if (b2i (rdb (1) (9) (1) (ct_set10_v1  g))) = 0 then (ug (ct_set10_v2  g) 1 10 ((ct_set10_v2  g) 1 10)) else (if ((ct_set10_v2  g) 0 12) = 0 then (ug (ct_set10_v2  g) 1 10 ((ct_set10_v2  g) 1 10)) else (ug (ct_set10_v2  g) 1 10 ((ct_set10_v2  g) 0 16))))
set_option maxRecDepth 100000 in
set_option maxHeartbeats 8000000 in
theorem ct_set10 {l : Launch} {D : va_G} {cA : FieldType → ClassId} {z0 : Nat} {SK SV : Nat → Nat} {ad : Nat → Nat} (hE : aD (fun q => z0 ≤ q) ad 9) (g : Nat → Nat → Int32) (h : Int64)  (ht : tkI g) : bF l D cA z0 SK SV ad shM 9 yX9_readsSetting cX9_readsSetting 5 (some .boolean) 5 [.ref 0, .int (10), .int (1), .int (9)] (layM g h) (some (.int (ct_set10_r  g))) (layM (ct_set10_w  g) h) := by
  refine bCT_intro (tb := tb_X9_readsSetting) (own := RX9) hE pn_X9 rfl tk_X9_readsSetting rfl (Nat.le_of_ble_eq_true rfl) ?_
  intro p e s0 m args below meth c C hr
  refine bv_blk C frk_X9 csk_X9 1 1 rfl (L1 := ([(0, .ref 0), (1, .int (10)), (2, .int (1)), (3, .int (9))] : Lc)) (st1 := ([.ref 0] : List Value)) (w1 := (layM g h)) (by rfl) ?_
  refine bv_fV0 C rfl (cu_next hE g _ ht) ml_X9_221 im_X9_nextToken sel_X9_nextToken ini_X9 cd_X9_nextToken ok_X9_nextToken rfl ⟨Nat.le_of_ble_eq_true rfl, Nat.le_of_ble_eq_true rfl⟩ ⟨Nat.zero_le _, Nat.zero_le _⟩ (by decide) rfl rfl rfl (rest := ([] : List Value)) rfl (Nat.le_of_ble_eq_true rfl) ?_
  obtain ⟨v1, ev1⟩ : ∃ x : Nat → Nat → Int32, x = (ct_set10_v1  g) := ⟨_, rfl⟩
  have eq_v1 : (nxW g) = v1 := by rw [ev1, show (ct_set10_v1  g) = (nxW g) from rfl]
  refine bv_weq (show (layM (nxW g) h) = (layM v1 h) from by rw [eq_v1]) ?_
  have ht_v1 : tkI v1 := by rw [← eq_v1]; exact (tk_nx ht)
  refine bv_blk C frk_X9 csk_X9 1 3 rfl (L1 := ([(0, .ref 0), (1, .int (10)), (2, .int (1)), (3, .int (9))] : Lc)) (st1 := ([.int (1)] : List Value)) (w1 := (layM v1 h)) (by rfl) ?_
  refine bv_if_ge (j := 9) C rfl rfl (fun _ => ?_) (fun h => absurd h (by decide))
  refine bv_blk C frk_X9 csk_X9 4 13 rfl (L1 := ([(0, .ref 0), (1, .int (10)), (2, .int (1)), (3, .int (9))] : Lc)) (st1 := ([.int (1), .int (9), .int (1), .ref 0] : List Value)) (w1 := (layM v1 h)) (by rfl) ?_
  refine bv_fV1 C rfl (cu_number hE v1 _ (1) (9) (1) ht_v1) ml_X9_224 im_X9_readsNumber sel_X9_readsNumber ini_X9 cd_X9_readsNumber ok_X9_readsNumber rfl ⟨Nat.le_of_ble_eq_true rfl, Nat.le_of_ble_eq_true rfl⟩ ⟨Nat.zero_le _, Nat.zero_le _⟩ (by decide) rfl rfl rfl (rest := ([] : List Value)) rfl (Nat.le_of_ble_eq_true rfl) ?_
  obtain ⟨v2, ev2⟩ : ∃ x : Nat → Nat → Int32, x = (ct_set10_v2  g) := ⟨_, rfl⟩
  have eq_v2 : (rdw (1) (9) (1) v1) = v2 := by rw [ev2, show (ct_set10_v2  g) = (rdw (1) (9) (1) (ct_set10_v1  g)) from rfl, ← ev1]
  refine bv_weq (show (layM (rdw (1) (9) (1) v1) h) = (layM v2 h) from by rw [eq_v2]) ?_
  have ht_v2 : tkI v2 := by rw [← eq_v2]; exact (tk_rd ht_v1)
  refine bv_blk C frk_X9 csk_X9 5 19 rfl (L1 := ([(4, .int (b2i (rdb (1) (9) (1) v1))), (0, .ref 0), (1, .int (10)), (2, .int (1)), (3, .int (9))] : Lc)) (st1 := ([.int (b2i (rdb (1) (9) (1) v1)), .int (10), .ref 1] : List Value)) (w1 := (layM v2 h)) (by rfl) ?_
  refine bv_if_eq (j := 26) C rfl rfl (fun c2 => ?_) (fun c2 => ?_)
  · refine bv_blk C frk_X9 csk_X9 3 29 rfl (L1 := ([(4, .int (b2i (rdb (1) (9) (1) v1))), (0, .ref 0), (1, .int (10)), (2, .int (1)), (3, .int (9))] : Lc)) (st1 := ([.int (10), .ref 1, .int (10), .ref 1] : List Value)) (w1 := (layM v2 h)) (by rfl) ?_
    refine bv_iald C rfl rfl (by decide) (j := 10) (by exact rfl) (by first | decide | omega) (by decide) (y := (v2 1 10)) (by rfl) ?_
    refine bv_iast C rfl rfl (by decide) (j := 10) (by exact rfl) (by first | decide | omega) (by decide) ?_
    rw [lm_up rfl]
    refine bv_blk C frk_X9 csk_X9 1 32 rfl (L1 := ([(4, .int (b2i (rdb (1) (9) (1) v1))), (0, .ref 0), (1, .int (10)), (2, .int (1)), (3, .int (9))] : Lc)) (st1 := ([.int (b2i (rdb (1) (9) (1) v1))] : List Value)) (w1 := (layM (ug v2 1 10 (v2 1 10)) h)) (by rfl) ?_
    exact bv_iret C rfl hr (nar_b2i _) ⟨by (subst ev1; subst ev2; exact congrArg (fun x => some (Value.int x)) (rfl).symm), by (subst ev1; subst ev2; exact congrArg (fun x => (layM x h)) (((if_pos c2).trans rfl)).symm)⟩
  · refine bv_blk C frk_X9 csk_X9 2 22 rfl (L1 := ([(4, .int (b2i (rdb (1) (9) (1) v1))), (0, .ref 0), (1, .int (10)), (2, .int (1)), (3, .int (9))] : Lc)) (st1 := ([.int (v2 0 12), .int (10), .ref 1] : List Value)) (w1 := (layM v2 h)) (by rfl) ?_
    refine bv_if_eq (j := 26) C rfl rfl (fun c3 => ?_) (fun c3 => ?_)
    · refine bv_blk C frk_X9 csk_X9 3 29 rfl (L1 := ([(4, .int (b2i (rdb (1) (9) (1) v1))), (0, .ref 0), (1, .int (10)), (2, .int (1)), (3, .int (9))] : Lc)) (st1 := ([.int (10), .ref 1, .int (10), .ref 1] : List Value)) (w1 := (layM v2 h)) (by rfl) ?_
      refine bv_iald C rfl rfl (by decide) (j := 10) (by exact rfl) (by first | decide | omega) (by decide) (y := (v2 1 10)) (by rfl) ?_
      refine bv_iast C rfl rfl (by decide) (j := 10) (by exact rfl) (by first | decide | omega) (by decide) ?_
      rw [lm_up rfl]
      refine bv_blk C frk_X9 csk_X9 1 32 rfl (L1 := ([(4, .int (b2i (rdb (1) (9) (1) v1))), (0, .ref 0), (1, .int (10)), (2, .int (1)), (3, .int (9))] : Lc)) (st1 := ([.int (b2i (rdb (1) (9) (1) v1))] : List Value)) (w1 := (layM (ug v2 1 10 (v2 1 10)) h)) (by rfl) ?_
      exact bv_iret C rfl hr (nar_b2i _) ⟨by (subst ev1; subst ev2; exact congrArg (fun x => some (Value.int x)) (rfl).symm), by (subst ev1; subst ev2; exact congrArg (fun x => (layM x h)) (((if_neg c2).trans ((if_pos c3).trans rfl))).symm)⟩
    · refine bv_blk C frk_X9 csk_X9 2 25 rfl (L1 := ([(4, .int (b2i (rdb (1) (9) (1) v1))), (0, .ref 0), (1, .int (10)), (2, .int (1)), (3, .int (9))] : Lc)) (st1 := ([.int (v2 0 16), .int (10), .ref 1] : List Value)) (w1 := (layM v2 h)) (by rfl) ?_
      refine bv_goto (j := 30) C rfl rfl ?_
      refine bv_iast C rfl rfl (by decide) (j := 10) (by exact rfl) (by first | decide | omega) (by decide) ?_
      rw [lm_up rfl]
      refine bv_blk C frk_X9 csk_X9 1 32 rfl (L1 := ([(4, .int (b2i (rdb (1) (9) (1) v1))), (0, .ref 0), (1, .int (10)), (2, .int (1)), (3, .int (9))] : Lc)) (st1 := ([.int (b2i (rdb (1) (9) (1) v1))] : List Value)) (w1 := (layM (ug v2 1 10 (v2 0 16)) h)) (by rfl) ?_
      exact bv_iret C rfl hr (nar_b2i _) ⟨by (subst ev1; subst ev2; exact congrArg (fun x => some (Value.int x)) (rfl).symm), by (subst ev1; subst ev2; exact congrArg (fun x => (layM x h)) (((if_neg c2).trans ((if_neg c3).trans rfl))).symm)⟩
theorem ct_set10_01 {g : Nat → Nat → Int32} : ct_set10_r g = 0 ∨ ct_set10_r g = 1 := by
  unfold ct_set10_r
  generalize (rdb (1) (9) (1) (ct_set10_v1 g)) = b
  cases b
  · exact Or.inl rfl
  · exact Or.inr rfl
