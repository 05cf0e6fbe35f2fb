/-- what every step of the reader keeps -/
def clo (P : (Nat → Nat → Int32) → Prop) : Prop := (∀ g, P g → P (nxW g)) ∧ (∀ lo hi sg g, P g → P (rdw lo hi sg g)) ∧ (∀ lo hi g, P g → P (rsw lo hi g)) ∧ (∀ (g : Nat → Nat → Int32) (a k : Nat) (x : Int32), ¬ (a = 0 ∧ (k = 4 ∨ k = 9 ∨ k = 10)) → P g → P (ug g a k x))
theorem clo_tk : clo tkI := ⟨fun _ h => tk_nx h, fun _ _ _ _ h => tk_rd h, fun _ _ _ h => tk_rs h, fun _ _ _ _ hk h => tk_ug hk h⟩
theorem iteP {P : (Nat → Nat → Int32) → Prop} {p : Prop} [Decidable p] {a b : Nat → Nat → Int32} (ha : P a) (hb : P b) : P (if p then a else b) := by
  by_cases h : p
  · rw [if_pos h]; exact ha
  · rw [if_neg h]; exact hb
theorem ite01 {p : Prop} [Decidable p] {x y : Int32} (hx : x = 0 ∨ x = 1) (hy : y = 0 ∨ y = 1) : (if p then x else y) = 0 ∨ (if p then x else y) = 1 := by
  by_cases h : p
  · rw [if_pos h]; exact hx
  · rw [if_neg h]; exact hy
theorem clo_ct_readsStation {P : (Nat → Nat → Int32) → Prop} (hP : clo P) {g : Nat → Nat → Int32} (h0 : P g) : P (ct_readsStation_w g) := by
  have h_v1 : P (ct_readsStation_v1 g) := (hP.1 _ h0)
  have h_v2 : P (ct_readsStation_v2 g) := (hP.2.1 _ _ _ _ h_v1)
  have h_v3 : P (ct_readsStation_v3 g) := (hP.2.1 _ _ _ _ h_v2)
  have h_v4 : P (ct_readsStation_v4 g) := (hP.2.1 _ _ _ _ h_v3)
  have h_v5 : P (ct_readsStation_v5 g) := (hP.2.1 _ _ _ _ h_v4)
  have h_v6 : P (ct_readsStation_v6 g) := (hP.2.2.2 _ 1 (15 + 20 * (cl ((ct_readsStation_v2  g) 0 16)) + 0) ((ct_readsStation_v3  g) 0 16) (by omega) h_v5)
  have h_v7 : P (ct_readsStation_v7 g) := (hP.2.2.2 _ 1 (15 + 20 * (cl ((ct_readsStation_v2  g) 0 16)) + 1) ((ct_readsStation_v4  g) 0 16) (by omega) h_v6)
  have h_v8 : P (ct_readsStation_v8 g) := (hP.2.2.2 _ 1 (15 + 20 * (cl ((ct_readsStation_v2  g) 0 16)) + 2) ((ct_readsStation_v7  g) 0 16) (by omega) h_v7)
  unfold ct_readsStation_w
  exact (iteP (P := P) h_v2 (iteP (P := P) h_v3 (iteP (P := P) h_v4 (iteP (P := P) h_v5 (iteP (P := P) h_v5 h_v8)))))
theorem clo_ct_set6 {P : (Nat → Nat → Int32) → Prop} (hP : clo P) {g : Nat → Nat → Int32} (h0 : P g) : P (ct_set6_w g) := by
  have h_v1 : P (ct_set6_v1 g) := (hP.1 _ h0)
  have h_v2 : P (ct_set6_v2 g) := (hP.2.2.1 _ _ _ h_v1)
  unfold ct_set6_w
  exact (iteP (P := P) (hP.2.2.2 _ 1 6 ((ct_set6_v2  g) 1 6) (by omega) h_v2) (iteP (P := P) (hP.2.2.2 _ 1 6 ((ct_set6_v2  g) 1 6) (by omega) h_v2) (hP.2.2.2 _ 1 6 ((ct_set6_v2  g) 0 16) (by omega) h_v2)))
theorem clo_ct_set7 {P : (Nat → Nat → Int32) → Prop} (hP : clo P) {g : Nat → Nat → Int32} (h0 : P g) : P (ct_set7_w g) := by
  have h_v1 : P (ct_set7_v1 g) := (hP.1 _ h0)
  have h_v2 : P (ct_set7_v2 g) := (hP.2.1 _ _ _ _ h_v1)
  unfold ct_set7_w
  exact (iteP (P := P) (hP.2.2.2 _ 1 7 ((ct_set7_v2  g) 1 7) (by omega) h_v2) (iteP (P := P) (hP.2.2.2 _ 1 7 ((ct_set7_v2  g) 1 7) (by omega) h_v2) (hP.2.2.2 _ 1 7 ((ct_set7_v2  g) 0 16) (by omega) h_v2)))
theorem clo_ct_set10 {P : (Nat → Nat → Int32) → Prop} (hP : clo P) {g : Nat → Nat → Int32} (h0 : P g) : P (ct_set10_w g) := by
  have h_v1 : P (ct_set10_v1 g) := (hP.1 _ h0)
  have h_v2 : P (ct_set10_v2 g) := (hP.2.1 _ _ _ _ h_v1)
  unfold ct_set10_w
  exact (iteP (P := P) (hP.2.2.2 _ 1 10 ((ct_set10_v2  g) 1 10) (by omega) h_v2) (iteP (P := P) (hP.2.2.2 _ 1 10 ((ct_set10_v2  g) 1 10) (by omega) h_v2) (hP.2.2.2 _ 1 10 ((ct_set10_v2  g) 0 16) (by omega) h_v2)))
theorem ct_readsStation_01 {g : Nat → Nat → Int32} : ct_readsStation_r g = 0 ∨ ct_readsStation_r g = 1 := by
  unfold ct_readsStation_r
  exact (ite01 (Or.inl rfl) (ite01 (Or.inl rfl) (ite01 (Or.inl rfl) (ite01 (Or.inl rfl) (Or.inr rfl)))))
def ct_readsPath_v1  (g : Nat → Nat → Int32) : Nat → Nat → Int32 := (nxW g)
def ct_readsPath_v2  (g : Nat → Nat → Int32) : Nat → Nat → Int32 := (rdw (0) (63) (1) (ct_readsPath_v1  g))
def ct_readsPath_v3  (g : Nat → Nat → Int32) : Nat → Nat → Int32 := (rdw (0) (63) (1) (ug (ct_readsPath_v2  g) 8 0 ((ct_readsPath_v2  g) 0 16)))
def ct_readsPath_v4  (g : Nat → Nat → Int32) : Nat → Nat → Int32 := (rdw (0) (300) (1) (ug (ct_readsPath_v3  g) 8 1 ((ct_readsPath_v3  g) 0 16)))
def ct_readsPath_v5  (g : Nat → Nat → Int32) : Nat → Nat → Int32 := (ug (ug (ug (ug (ug (ct_readsPath_v4  g) 8 2 ((ct_readsPath_v4  g) 0 16)) 8 3 (0)) 8 4 (0)) 8 5 (0)) 1 (55 + 6 * (cl (g 0 11)) + 0) ((ct_readsPath_v4  g) 8 0))
def ct_readsPath_v6  (g : Nat → Nat → Int32) : Nat → Nat → Int32 := (ug (ct_readsPath_v5  g) 1 (55 + 6 * (cl (g 0 11)) + 1) ((ct_readsPath_v5  g) 8 1))
def ct_readsPath_v7  (g : Nat → Nat → Int32) : Nat → Nat → Int32 := (ug (ct_readsPath_v6  g) 1 (55 + 6 * (cl (g 0 11)) + 2) ((ct_readsPath_v6  g) 8 2))
def ct_readsPath_v8  (g : Nat → Nat → Int32) : Nat → Nat → Int32 := (ug (ct_readsPath_v7  g) 1 (55 + 6 * (cl (g 0 11)) + 3) ((ct_readsPath_v7  g) 8 3))
def ct_readsPath_v9  (g : Nat → Nat → Int32) : Nat → Nat → Int32 := (ug (ct_readsPath_v8  g) 1 (55 + 6 * (cl (g 0 11)) + 4) ((ct_readsPath_v8  g) 8 4))
def ct_readsPath_v10  (g : Nat → Nat → Int32) : Nat → Nat → Int32 := (ug (ct_readsPath_v9  g) 1 (55 + 6 * (cl (g 0 11)) + 5) ((ct_readsPath_v9  g) 8 5))
def ct_readsPath_v11  (g : Nat → Nat → Int32) : Nat → Nat → Int32 := (nxW (ug (ug (ug (ug (ct_readsPath_v4  g) 8 2 ((ct_readsPath_v4  g) 0 16)) 8 3 (0)) 8 4 (0)) 8 5 (0)))
def ct_readsPath_v12  (g : Nat → Nat → Int32) : Nat → Nat → Int32 := (rsw (-3) (3) (ct_readsPath_v11  g))
def ct_readsPath_v13  (g : Nat → Nat → Int32) : Nat → Nat → Int32 := (rsw (-3) (3) (ug (ct_readsPath_v12  g) 8 4 ((ct_readsPath_v12  g) 0 16)))
def ct_readsPath_v14  (g : Nat → Nat → Int32) : Nat → Nat → Int32 := (ug (ug (ct_readsPath_v13  g) 8 5 ((ct_readsPath_v13  g) 0 16)) 1 (55 + 6 * (cl (g 0 11)) + 0) ((ct_readsPath_v13  g) 8 0))
def ct_readsPath_v15  (g : Nat → Nat → Int32) : Nat → Nat → Int32 := (ug (ct_readsPath_v14  g) 1 (55 + 6 * (cl (g 0 11)) + 1) ((ct_readsPath_v14  g) 8 1))
def ct_readsPath_v16  (g : Nat → Nat → Int32) : Nat → Nat → Int32 := (ug (ct_readsPath_v15  g) 1 (55 + 6 * (cl (g 0 11)) + 2) ((ct_readsPath_v15  g) 8 2))
def ct_readsPath_v17  (g : Nat → Nat → Int32) : Nat → Nat → Int32 := (ug (ct_readsPath_v16  g) 1 (55 + 6 * (cl (g 0 11)) + 3) ((ct_readsPath_v16  g) 8 3))
def ct_readsPath_v18  (g : Nat → Nat → Int32) : Nat → Nat → Int32 := (ug (ct_readsPath_v17  g) 1 (55 + 6 * (cl (g 0 11)) + 4) ((ct_readsPath_v17  g) 8 4))
def ct_readsPath_v19  (g : Nat → Nat → Int32) : Nat → Nat → Int32 := (ug (ct_readsPath_v18  g) 1 (55 + 6 * (cl (g 0 11)) + 5) ((ct_readsPath_v18  g) 8 5))
def ct_readsPath_r  (g : Nat → Nat → Int32) : Int32 := (if (g 0 11) = (8) then (0) else (if (b2i (rdb (0) (63) (1) (ct_readsPath_v1  g))) = 0 then (0) else (if (b2i (rdb (0) (63) (1) (ug (ct_readsPath_v2  g) 8 0 ((ct_readsPath_v2  g) 0 16)))) = 0 then (0) else (if (b2i (rdb (0) (300) (1) (ug (ct_readsPath_v3  g) 8 1 ((ct_readsPath_v3  g) 0 16)))) = 0 then (0) else (if (b2i (iwB 2 (ug (ug (ug (ug (ct_readsPath_v4  g) 8 2 ((ct_readsPath_v4  g) 0 16)) 8 3 (0)) 8 4 (0)) 8 5 (0)))) = 0 then (1) else (if (b2i (rsb (-3) (3) (ct_readsPath_v11  g))) = 0 then (0) else (if (b2i (rsb (-3) (3) (ug (ct_readsPath_v12  g) 8 4 ((ct_readsPath_v12  g) 0 16)))) = 0 then (0) else (1))))))))
def ct_readsPath_w  (g : Nat → Nat → Int32) : Nat → Nat → Int32 := (if (g 0 11) = (8) then g else (if (b2i (rdb (0) (63) (1) (ct_readsPath_v1  g))) = 0 then (ct_readsPath_v2  g) else (if (b2i (rdb (0) (63) (1) (ug (ct_readsPath_v2  g) 8 0 ((ct_readsPath_v2  g) 0 16)))) = 0 then (ct_readsPath_v3  g) else (if (b2i (rdb (0) (300) (1) (ug (ct_readsPath_v3  g) 8 1 ((ct_readsPath_v3  g) 0 16)))) = 0 then (ct_readsPath_v4  g) else (if (b2i (iwB 2 (ug (ug (ug (ug (ct_readsPath_v4  g) 8 2 ((ct_readsPath_v4  g) 0 16)) 8 3 (0)) 8 4 (0)) 8 5 (0)))) = 0 then (if ((ct_readsPath_v4  g) 0 12) = 0 then (ug (ug (ug (ug (ug (ug (ct_readsPath_v4  g) 8 2 ((ct_readsPath_v4  g) 0 16)) 8 3 (0)) 8 4 (0)) 8 5 (0)) 0 11 (((ct_readsPath_v4  g) 0 11) + (1))) 1 12 ((ct_readsPath_v4  g) 1 12)) else (ug (ug (ct_readsPath_v10  g) 0 11 (((ct_readsPath_v10  g) 0 11) + (1))) 1 12 (((ct_readsPath_v10  g) 0 11) + (1)))) else (if (b2i (rsb (-3) (3) (ct_readsPath_v11  g))) = 0 then (ct_readsPath_v12  g) else (if (b2i (rsb (-3) (3) (ug (ct_readsPath_v12  g) 8 4 ((ct_readsPath_v12  g) 0 16)))) = 0 then (ct_readsPath_v13  g) else (if ((ct_readsPath_v13  g) 0 12) = 0 then (ug (ug (ug (ct_readsPath_v13  g) 8 5 ((ct_readsPath_v13  g) 0 16)) 0 11 (((ct_readsPath_v13  g) 0 11) + (1))) 1 12 ((ct_readsPath_v13  g) 1 12)) else (ug (ug (ct_readsPath_v19  g) 0 11 (((ct_readsPath_v19  g) 0 11) + (1))) 1 12 (((ct_readsPath_v19  g) 0 11) + (1)))))))))))
set_option maxRecDepth 100000 in
set_option maxHeartbeats 8000000 in
theorem ct_readsPath {l : Launch} {D : va_G} {cA : FieldType → ClassId} {z0 : Nat} {SK SV : Nat → Nat} {ad : Nat → Nat} (hE : aD (fun q => z0 ≤ q) ad 9) (g : Nat → Nat → Int32) (h : Int64)  (ht : tkI g) (hto : g 0 11 = nI (cl (g 0 11))) (hto8 : cl (g 0 11) ≤ 8) : bF l D cA z0 SK SV ad shM 9 yX9_readsPath cX9_readsPath 2 (some .boolean) 5 [.ref 0] (layM g h) (some (.int (ct_readsPath_r  g))) (layM (ct_readsPath_w  g) h) := by
  refine bCT_intro (tb := tb_X9_readsPath) (own := RX9) hE pn_X9 rfl tk_X9_readsPath rfl (Nat.le_of_ble_eq_true rfl) ?_
  intro p e s0 m args below meth c C hr
  refine bv_blk C frk_X9 csk_X9 3 3 rfl (L1 := ([(0, .ref 0)] : Lc)) (st1 := ([.int (8), .int (g 0 11)] : List Value)) (w1 := (layM g h)) (by rfl) ?_
  refine bv_icmp_ne (j := 6) C rfl rfl (fun c1 => ?_) (fun c1 => ?_)
  · have hto7 : cl (g 0 11) < 8 := by have : ¬ cl (g 0 11) = 8 := fun z => c1 (by rw [hto, z]; rfl); omega
    refine bv_blk C frk_X9 csk_X9 1 7 rfl (L1 := ([(0, .ref 0)] : Lc)) (st1 := ([.ref 0] : List Value)) (w1 := (layM g h)) (by rfl) ?_
    refine bv_fV0 C rfl (cu_next hE g _ ht) ml_X9_221 im_X9_nextToken sel_X9_nextToken ini_X9 cd_X9_nextToken ok_X9_nextToken rfl ⟨Nat.le_of_ble_eq_true rfl, Nat.le_of_ble_eq_true rfl⟩ ⟨Nat.zero_le _, Nat.zero_le _⟩ (by decide) rfl rfl rfl (rest := ([] : List Value)) rfl (Nat.le_of_ble_eq_true rfl) ?_
    obtain ⟨v1, ev1⟩ : ∃ x : Nat → Nat → Int32, x = (ct_readsPath_v1  g) := ⟨_, rfl⟩
    have eq_v1 : (nxW g) = v1 := by rw [ev1, show (ct_readsPath_v1  g) = (nxW g) from rfl]
    refine bv_weq (show (layM (nxW g) h) = (layM v1 h) from by rw [eq_v1]) ?_
    have ht_v1 : tkI v1 := by rw [← eq_v1]; exact (tk_nx ht)
    have hk11_v1 : v1 0 11 = g 0 11 := by rw [← eq_v1]; exact (kq_nx 0 11 (by omega)).trans rfl
    have hk12_v1 : v1 0 12 = g 0 12 := by rw [← eq_v1]; exact (kq_nx 0 12 (by omega)).trans rfl
    refine bv_blk C frk_X9 csk_X9 4 12 rfl (L1 := ([(1, .int (0)), (0, .ref 0)] : Lc)) (st1 := ([.int (3), .int (0)] : List Value)) (w1 := (layM v1 h)) (by rfl) ?_
    refine bv_icmp_ge (j := 34) C rfl rfl (fun h => absurd h (by decide)) (fun _ => ?_)
    refine bv_blk C frk_X9 csk_X9 4 17 rfl (L1 := ([(1, .int (0)), (0, .ref 0)] : Lc)) (st1 := ([.int (2), .int (0), .int (0), .ref 0] : List Value)) (w1 := (layM v1 h)) (by rfl) ?_
    refine bv_icmp_ge (j := 20) C rfl rfl (fun h => absurd h (by decide)) (fun _ => ?_)
    refine bv_blk C frk_X9 csk_X9 1 19 rfl (L1 := ([(1, .int (0)), (0, .ref 0)] : Lc)) (st1 := ([.int (63), .int (0), .ref 0] : List Value)) (w1 := (layM v1 h)) (by rfl) ?_
    refine bv_goto (j := 21) C rfl rfl ?_
    refine bv_blk C frk_X9 csk_X9 1 22 rfl (L1 := ([(1, .int (0)), (0, .ref 0)] : Lc)) (st1 := ([.int (1), .int (63), .int (0), .ref 0] : List Value)) (w1 := (layM v1 h)) (by rfl) ?_
    refine bv_fV1 C rfl (cu_number hE v1 _ (0) (63) (1) ht_v1) ml_X9_224 im_X9_readsNumber sel_X9_readsNumber ini_X9 cd_X9_readsNumber ok_X9_readsNumber rfl ⟨Nat.le_of_ble_eq_true rfl, Nat.le_of_ble_eq_true rfl⟩ ⟨Nat.zero_le _, Nat.zero_le _⟩ (by decide) rfl rfl rfl (rest := ([] : List Value)) rfl (Nat.le_of_ble_eq_true rfl) ?_
    obtain ⟨v2, ev2⟩ : ∃ x : Nat → Nat → Int32, x = (ct_readsPath_v2  g) := ⟨_, rfl⟩
    have eq_v2 : (rdw (0) (63) (1) v1) = v2 := by rw [ev2, show (ct_readsPath_v2  g) = (rdw (0) (63) (1) (ct_readsPath_v1  g)) from rfl, ← ev1]
    refine bv_weq (show (layM (rdw (0) (63) (1) v1) h) = (layM v2 h) from by rw [eq_v2]) ?_
    have ht_v2 : tkI v2 := by rw [← eq_v2]; exact (tk_rd ht_v1)
    have hk11_v2 : v2 0 11 = g 0 11 := by rw [← eq_v2]; exact (kq_rd 0 11 (by omega)).trans hk11_v1
    have hk12_v2 : v2 0 12 = g 0 12 := by rw [← eq_v2]; exact (kq_rd 0 12 (by omega)).trans hk12_v1
    refine bv_if_ne (j := 26) C rfl rfl (fun c4 => ?_) (fun c4 => ?_)
    · refine bv_blk C frk_X9 csk_X9 5 31 rfl (L1 := ([(1, .int (0)), (0, .ref 0)] : Lc)) (st1 := ([.int (v2 0 16), .int (0), .ref 8] : List Value)) (w1 := (layM v2 h)) (by rfl) ?_
      refine bv_iast C rfl rfl (by decide) (j := 0) (by exact rfl) (by first | decide | omega) (by decide) ?_
      rw [lm_up rfl]
      refine bv_blk C frk_X9 csk_X9 1 33 rfl (L1 := ([(1, .int ((0) + Int32.ofInt 1)), (0, .ref 0)] : Lc)) (st1 := ([] : List Value)) (w1 := (layM (ug v2 8 0 (v2 0 16)) h)) (by rfl) ?_
      rw [show ((0) + Int32.ofInt 1) = (1) from by decide]
      refine bv_goto (j := 10) C rfl rfl ?_
      refine bv_blk C frk_X9 csk_X9 2 12 rfl (L1 := ([(1, .int (1)), (0, .ref 0)] : Lc)) (st1 := ([.int (3), .int (1)] : List Value)) (w1 := (layM (ug v2 8 0 (v2 0 16)) h)) (by rfl) ?_
      refine bv_icmp_ge (j := 34) C rfl rfl (fun h => absurd h (by decide)) (fun _ => ?_)
      refine bv_blk C frk_X9 csk_X9 4 17 rfl (L1 := ([(1, .int (1)), (0, .ref 0)] : Lc)) (st1 := ([.int (2), .int (1), .int (0), .ref 0] : List Value)) (w1 := (layM (ug v2 8 0 (v2 0 16)) h)) (by rfl) ?_
      refine bv_icmp_ge (j := 20) C rfl rfl (fun h => absurd h (by decide)) (fun _ => ?_)
      refine bv_blk C frk_X9 csk_X9 1 19 rfl (L1 := ([(1, .int (1)), (0, .ref 0)] : Lc)) (st1 := ([.int (63), .int (0), .ref 0] : List Value)) (w1 := (layM (ug v2 8 0 (v2 0 16)) h)) (by rfl) ?_
      refine bv_goto (j := 21) C rfl rfl ?_
      refine bv_blk C frk_X9 csk_X9 1 22 rfl (L1 := ([(1, .int (1)), (0, .ref 0)] : Lc)) (st1 := ([.int (1), .int (63), .int (0), .ref 0] : List Value)) (w1 := (layM (ug v2 8 0 (v2 0 16)) h)) (by rfl) ?_
      refine bv_fV1 C rfl (cu_number hE (ug v2 8 0 (v2 0 16)) _ (0) (63) (1) (tk_ug (by omega) ht_v2)) ml_X9_224 im_X9_readsNumber sel_X9_readsNumber ini_X9 cd_X9_readsNumber ok_X9_readsNumber rfl ⟨Nat.le_of_ble_eq_true rfl, Nat.le_of_ble_eq_true rfl⟩ ⟨Nat.zero_le _, Nat.zero_le _⟩ (by decide) rfl rfl rfl (rest := ([] : List Value)) rfl (Nat.le_of_ble_eq_true rfl) ?_
      obtain ⟨v3, ev3⟩ : ∃ x : Nat → Nat → Int32, x = (ct_readsPath_v3  g) := ⟨_, rfl⟩
      have eq_v3 : (rdw (0) (63) (1) (ug v2 8 0 (v2 0 16))) = v3 := by rw [ev3, show (ct_readsPath_v3  g) = (rdw (0) (63) (1) (ug (ct_readsPath_v2  g) 8 0 ((ct_readsPath_v2  g) 0 16))) from rfl, ← ev2]
      refine bv_weq (show (layM (rdw (0) (63) (1) (ug v2 8 0 (v2 0 16))) h) = (layM v3 h) from by rw [eq_v3]) ?_
      have ht_v3 : tkI v3 := by rw [← eq_v3]; exact (tk_rd (tk_ug (by omega) ht_v2))
      have hk11_v3 : v3 0 11 = g 0 11 := by rw [← eq_v3]; exact (kq_rd 0 11 (by omega)).trans ((ug_ne (by omega)).trans hk11_v2)
      have hk12_v3 : v3 0 12 = g 0 12 := by rw [← eq_v3]; exact (kq_rd 0 12 (by omega)).trans ((ug_ne (by omega)).trans hk12_v2)
      refine bv_if_ne (j := 26) C rfl rfl (fun c7 => ?_) (fun c7 => ?_)
      · refine bv_blk C frk_X9 csk_X9 5 31 rfl (L1 := ([(1, .int (1)), (0, .ref 0)] : Lc)) (st1 := ([.int (v3 0 16), .int (1), .ref 8] : List Value)) (w1 := (layM v3 h)) (by rfl) ?_
        refine bv_iast C rfl rfl (by decide) (j := 1) (by exact rfl) (by first | decide | omega) (by decide) ?_
        rw [lm_up rfl]
        refine bv_blk C frk_X9 csk_X9 1 33 rfl (L1 := ([(1, .int ((1) + Int32.ofInt 1)), (0, .ref 0)] : Lc)) (st1 := ([] : List Value)) (w1 := (layM (ug v3 8 1 (v3 0 16)) h)) (by rfl) ?_
        rw [show ((1) + Int32.ofInt 1) = (2) from by decide]
        refine bv_goto (j := 10) C rfl rfl ?_
        refine bv_blk C frk_X9 csk_X9 2 12 rfl (L1 := ([(1, .int (2)), (0, .ref 0)] : Lc)) (st1 := ([.int (3), .int (2)] : List Value)) (w1 := (layM (ug v3 8 1 (v3 0 16)) h)) (by rfl) ?_
        refine bv_icmp_ge (j := 34) C rfl rfl (fun h => absurd h (by decide)) (fun _ => ?_)
        refine bv_blk C frk_X9 csk_X9 4 17 rfl (L1 := ([(1, .int (2)), (0, .ref 0)] : Lc)) (st1 := ([.int (2), .int (2), .int (0), .ref 0] : List Value)) (w1 := (layM (ug v3 8 1 (v3 0 16)) h)) (by rfl) ?_
        refine bv_icmp_ge (j := 20) C rfl rfl (fun _ => ?_) (fun h => absurd h (by decide))
        refine bv_blk C frk_X9 csk_X9 2 22 rfl (L1 := ([(1, .int (2)), (0, .ref 0)] : Lc)) (st1 := ([.int (1), .int (300), .int (0), .ref 0] : List Value)) (w1 := (layM (ug v3 8 1 (v3 0 16)) h)) (by rfl) ?_
        refine bv_fV1 C rfl (cu_number hE (ug v3 8 1 (v3 0 16)) _ (0) (300) (1) (tk_ug (by omega) ht_v3)) ml_X9_224 im_X9_readsNumber sel_X9_readsNumber ini_X9 cd_X9_readsNumber ok_X9_readsNumber rfl ⟨Nat.le_of_ble_eq_true rfl, Nat.le_of_ble_eq_true rfl⟩ ⟨Nat.zero_le _, Nat.zero_le _⟩ (by decide) rfl rfl rfl (rest := ([] : List Value)) rfl (Nat.le_of_ble_eq_true rfl) ?_
        obtain ⟨v4, ev4⟩ : ∃ x : Nat → Nat → Int32, x = (ct_readsPath_v4  g) := ⟨_, rfl⟩
        have eq_v4 : (rdw (0) (300) (1) (ug v3 8 1 (v3 0 16))) = v4 := by rw [ev4, show (ct_readsPath_v4  g) = (rdw (0) (300) (1) (ug (ct_readsPath_v3  g) 8 1 ((ct_readsPath_v3  g) 0 16))) from rfl, ← ev3]
        refine bv_weq (show (layM (rdw (0) (300) (1) (ug v3 8 1 (v3 0 16))) h) = (layM v4 h) from by rw [eq_v4]) ?_
        have ht_v4 : tkI v4 := by rw [← eq_v4]; exact (tk_rd (tk_ug (by omega) ht_v3))
        have hk11_v4 : v4 0 11 = g 0 11 := by rw [← eq_v4]; exact (kq_rd 0 11 (by omega)).trans ((ug_ne (by omega)).trans hk11_v3)
        have hk12_v4 : v4 0 12 = g 0 12 := by rw [← eq_v4]; exact (kq_rd 0 12 (by omega)).trans ((ug_ne (by omega)).trans hk12_v3)
        refine bv_if_ne (j := 26) C rfl rfl (fun c10 => ?_) (fun c10 => ?_)
        · refine bv_blk C frk_X9 csk_X9 5 31 rfl (L1 := ([(1, .int (2)), (0, .ref 0)] : Lc)) (st1 := ([.int (v4 0 16), .int (2), .ref 8] : List Value)) (w1 := (layM v4 h)) (by rfl) ?_
          refine bv_iast C rfl rfl (by decide) (j := 2) (by exact rfl) (by first | decide | omega) (by decide) ?_
          rw [lm_up rfl]
          refine bv_blk C frk_X9 csk_X9 1 33 rfl (L1 := ([(1, .int ((2) + Int32.ofInt 1)), (0, .ref 0)] : Lc)) (st1 := ([] : List Value)) (w1 := (layM (ug v4 8 2 (v4 0 16)) h)) (by rfl) ?_
          rw [show ((2) + Int32.ofInt 1) = (3) from by decide]
          refine bv_goto (j := 10) C rfl rfl ?_
          refine bv_blk C frk_X9 csk_X9 2 12 rfl (L1 := ([(1, .int (3)), (0, .ref 0)] : Lc)) (st1 := ([.int (3), .int (3)] : List Value)) (w1 := (layM (ug v4 8 2 (v4 0 16)) h)) (by rfl) ?_
          refine bv_icmp_ge (j := 34) C rfl rfl (fun _ => ?_) (fun h => absurd h (by decide))
          refine bv_blk C frk_X9 csk_X9 4 38 rfl (L1 := ([(1, .int (3)), (0, .ref 0)] : Lc)) (st1 := ([.int (0), .int (3), .ref 8] : List Value)) (w1 := (layM (ug v4 8 2 (v4 0 16)) h)) (by rfl) ?_
          refine bv_iast C rfl rfl (by decide) (j := 3) (by exact rfl) (by first | decide | omega) (by decide) ?_
          rw [lm_up rfl]
          refine bv_blk C frk_X9 csk_X9 4 43 rfl (L1 := ([(1, .int (3)), (0, .ref 0)] : Lc)) (st1 := ([.int (0), .int (4), .ref 8] : List Value)) (w1 := (layM (ug (ug v4 8 2 (v4 0 16)) 8 3 (0)) h)) (by rfl) ?_
          refine bv_iast C rfl rfl (by decide) (j := 4) (by exact rfl) (by first | decide | omega) (by decide) ?_
          rw [lm_up rfl]
          refine bv_blk C frk_X9 csk_X9 4 48 rfl (L1 := ([(1, .int (3)), (0, .ref 0)] : Lc)) (st1 := ([.int (0), .int (5), .ref 8] : List Value)) (w1 := (layM (ug (ug (ug v4 8 2 (v4 0 16)) 8 3 (0)) 8 4 (0)) h)) (by rfl) ?_
          refine bv_iast C rfl rfl (by decide) (j := 5) (by exact rfl) (by first | decide | omega) (by decide) ?_
          rw [lm_up rfl]
          refine bv_blk C frk_X9 csk_X9 2 51 rfl (L1 := ([(1, .int (3)), (0, .ref 0)] : Lc)) (st1 := ([.int (2), .ref 0] : List Value)) (w1 := (layM (ug (ug (ug (ug v4 8 2 (v4 0 16)) 8 3 (0)) 8 4 (0)) 8 5 (0)) h)) (by rfl) ?_
          refine bv_fV1 C rfl (cu_word hE (ug (ug (ug (ug v4 8 2 (v4 0 16)) 8 3 (0)) 8 4 (0)) 8 5 (0)) _ 2 (tk_ug (by omega) (tk_ug (by omega) (tk_ug (by omega) (tk_ug (by omega) ht_v4)))) (by omega)) ml_X9_234 im_X9_isWord sel_X9_isWord ini_X9 cd_X9_isWord ok_X9_isWord rfl ⟨Nat.le_of_ble_eq_true rfl, Nat.le_of_ble_eq_true rfl⟩ ⟨Nat.zero_le _, Nat.zero_le _⟩ (by decide) rfl rfl rfl (rest := ([] : List Value)) rfl (Nat.le_of_ble_eq_true rfl) ?_
          refine bv_if_eq (j := 75) C rfl rfl (fun c12 => ?_) (fun c12 => ?_)
          · refine bv_blk C frk_X9 csk_X9 4 79 rfl (L1 := ([(1, .int (0)), (0, .ref 0)] : Lc)) (st1 := ([.int (6), .int (0)] : List Value)) (w1 := (layM (ug (ug (ug (ug v4 8 2 (v4 0 16)) 8 3 (0)) 8 4 (0)) 8 5 (0)) h)) (by rfl) ?_
            refine bv_icmp_ge (j := 94) C rfl rfl (fun h => absurd h (by decide)) (fun _ => ?_)
            refine bv_blk C frk_X9 csk_X9 2 82 rfl (L1 := ([(1, .int (0)), (0, .ref 0)] : Lc)) (st1 := ([.int (v4 0 12)] : List Value)) (w1 := (layM (ug (ug (ug (ug v4 8 2 (v4 0 16)) 8 3 (0)) 8 4 (0)) 8 5 (0)) h)) (by rfl) ?_
            refine bv_if_eq (j := 94) C rfl rfl (fun c14 => ?_) (fun c14 => ?_)
            · refine bv_blk C frk_X9 csk_X9 6 100 rfl (L1 := ([(1, .int (0)), (0, .ref 0)] : Lc)) (st1 := ([] : List Value)) (w1 := up2 (layM (ug (ug (ug (ug v4 8 2 (v4 0 16)) 8 3 (0)) 8 4 (0)) 8 5 (0)) h) 0 11 (.int ((v4 0 11) + (1)))) (by rfl) ?_
              rw [lm_up rfl]
              refine bv_blk C frk_X9 csk_X9 5 105 rfl (L1 := ([(1, .int (0)), (0, .ref 0)] : Lc)) (st1 := ([.int (v4 0 12), .int (12), .ref 1] : List Value)) (w1 := (layM (ug (ug (ug (ug (ug v4 8 2 (v4 0 16)) 8 3 (0)) 8 4 (0)) 8 5 (0)) 0 11 ((v4 0 11) + (1))) h)) (by rfl) ?_
              refine bv_if_eq (j := 109) C rfl rfl (fun _ => ?_) (fun h => absurd (c14) h)
              refine bv_blk C frk_X9 csk_X9 3 112 rfl (L1 := ([(1, .int (0)), (0, .ref 0)] : Lc)) (st1 := ([.int (12), .ref 1, .int (12), .ref 1] : List Value)) (w1 := (layM (ug (ug (ug (ug (ug v4 8 2 (v4 0 16)) 8 3 (0)) 8 4 (0)) 8 5 (0)) 0 11 ((v4 0 11) + (1))) h)) (by rfl) ?_
              refine bv_iald C rfl rfl (by decide) (j := 12) (by exact rfl) (by first | decide | omega) (by decide) (y := (v4 1 12)) (by rfl) ?_
              refine bv_iast C rfl rfl (by decide) (j := 12) (by exact rfl) (by first | decide | omega) (by decide) ?_
              rw [lm_up rfl]
              refine bv_blk C frk_X9 csk_X9 1 115 rfl (L1 := ([(1, .int (0)), (0, .ref 0)] : Lc)) (st1 := ([.int (1)] : List Value)) (w1 := (layM (ug (ug (ug (ug (ug (ug v4 8 2 (v4 0 16)) 8 3 (0)) 8 4 (0)) 8 5 (0)) 0 11 ((v4 0 11) + (1))) 1 12 (v4 1 12)) h)) (by rfl) ?_
              exact bv_iret C rfl hr rfl ⟨by (replace ev1 := ev1.symm; subst ev1; replace ev2 := ev2.symm; subst ev2; replace ev3 := ev3.symm; subst ev3; replace ev4 := ev4.symm; subst ev4; exact congrArg (fun x => some (Value.int x)) (((if_neg c1).trans ((if_neg c4).trans ((if_neg c7).trans ((if_neg c10).trans ((if_pos c12).trans rfl)))))).symm), by (replace ev1 := ev1.symm; subst ev1; replace ev2 := ev2.symm; subst ev2; replace ev3 := ev3.symm; subst ev3; replace ev4 := ev4.symm; subst ev4; exact congrArg (fun x => (layM x h)) (((if_neg c1).trans ((if_neg c4).trans ((if_neg c7).trans ((if_neg c10).trans ((if_pos c12).trans ((if_pos c14).trans rfl))))))).symm)⟩
            · refine bv_blk C frk_X9 csk_X9 7 90 rfl (L1 := ([(1, .int (0)), (0, .ref 0)] : Lc)) (st1 := ([.int (0), .ref 8, .int (0), .int (v4 0 11), .ref 0] : List Value)) (w1 := (layM (ug (ug (ug (ug v4 8 2 (v4 0 16)) 8 3 (0)) 8 4 (0)) 8 5 (0)) h)) (by rfl) ?_
              refine bv_iald C rfl rfl (by decide) (j := 0) (by exact rfl) (by first | decide | omega) (by decide) (y := (v4 8 0)) (by rfl) ?_
              refine bv_fV0 C rfl (ct_setsPath hE _ _ (cl (g 0 11)) 0 (v4 8 0) (by omega) (by omega)) ml_X9_173 im_X9_setsPath sel_X9_setsPath ini_X9 cd_X9_setsPath ok_X9_setsPath rfl ⟨Nat.le_of_ble_eq_true rfl, Nat.le_of_ble_eq_true rfl⟩ ⟨Nat.zero_le _, Nat.zero_le _⟩ (by decide) rfl rfl rfl (rest := ([] : List Value)) (by first | (rw [show (v4 0 11) = nI (cl (g 0 11)) from (hk11_v4.trans hto)]; done) | (rw [show (v4 0 11) = nI (cl (g 0 11)) from (hk11_v4.trans hto)]; rfl)) (Nat.le_of_ble_eq_true rfl) ?_
              obtain ⟨v5, ev5⟩ : ∃ x : Nat → Nat → Int32, x = (ct_readsPath_v5  g) := ⟨_, rfl⟩
              have eq_v5 : (ug (ug (ug (ug (ug v4 8 2 (v4 0 16)) 8 3 (0)) 8 4 (0)) 8 5 (0)) 1 (55 + 6 * (cl (g 0 11)) + 0) (v4 8 0)) = v5 := by rw [ev5, show (ct_readsPath_v5  g) = (ug (ug (ug (ug (ug (ct_readsPath_v4  g) 8 2 ((ct_readsPath_v4  g) 0 16)) 8 3 (0)) 8 4 (0)) 8 5 (0)) 1 (55 + 6 * (cl (g 0 11)) + 0) ((ct_readsPath_v4  g) 8 0)) from rfl, ← ev4]
              refine bv_weq (show (layM (ug (ug (ug (ug (ug v4 8 2 (v4 0 16)) 8 3 (0)) 8 4 (0)) 8 5 (0)) 1 (55 + 6 * (cl (g 0 11)) + 0) (v4 8 0)) h) = (layM v5 h) from by rw [eq_v5]) ?_
              have ht_v5 : tkI v5 := by rw [← eq_v5]; exact (tk_ug (by omega) (tk_ug (by omega) (tk_ug (by omega) (tk_ug (by omega) (tk_ug (by omega) ht_v4)))))
              have hk11_v5 : v5 0 11 = g 0 11 := by rw [← eq_v5]; exact (ug_ne (by omega)).trans ((ug_ne (by omega)).trans ((ug_ne (by omega)).trans ((ug_ne (by omega)).trans ((ug_ne (by omega)).trans hk11_v4))))
              have hk12_v5 : v5 0 12 = g 0 12 := by rw [← eq_v5]; exact (ug_ne (by omega)).trans ((ug_ne (by omega)).trans ((ug_ne (by omega)).trans ((ug_ne (by omega)).trans ((ug_ne (by omega)).trans hk12_v4))))
              refine bv_blk C frk_X9 csk_X9 1 93 rfl (L1 := ([(1, .int ((0) + Int32.ofInt 1)), (0, .ref 0)] : Lc)) (st1 := ([] : List Value)) (w1 := (layM v5 h)) (by rfl) ?_
              rw [show ((0) + Int32.ofInt 1) = (1) from by decide]
              refine bv_goto (j := 77) C rfl rfl ?_
              refine bv_blk C frk_X9 csk_X9 2 79 rfl (L1 := ([(1, .int (1)), (0, .ref 0)] : Lc)) (st1 := ([.int (6), .int (1)] : List Value)) (w1 := (layM v5 h)) (by rfl) ?_
              refine bv_icmp_ge (j := 94) C rfl rfl (fun h => absurd h (by decide)) (fun _ => ?_)
              refine bv_blk C frk_X9 csk_X9 2 82 rfl (L1 := ([(1, .int (1)), (0, .ref 0)] : Lc)) (st1 := ([.int (v5 0 12)] : List Value)) (w1 := (layM v5 h)) (by rfl) ?_
              refine bv_if_eq (j := 94) C rfl rfl (fun h => absurd h (fun z => c14 (((hk12_v4).trans (hk12_v5).symm).trans z))) (fun _ => ?_)
              refine bv_blk C frk_X9 csk_X9 7 90 rfl (L1 := ([(1, .int (1)), (0, .ref 0)] : Lc)) (st1 := ([.int (1), .ref 8, .int (1), .int (v5 0 11), .ref 0] : List Value)) (w1 := (layM v5 h)) (by rfl) ?_
              refine bv_iald C rfl rfl (by decide) (j := 1) (by exact rfl) (by first | decide | omega) (by decide) (y := (v5 8 1)) (by rfl) ?_
              refine bv_fV0 C rfl (ct_setsPath hE _ _ (cl (g 0 11)) 1 (v5 8 1) (by omega) (by omega)) ml_X9_173 im_X9_setsPath sel_X9_setsPath ini_X9 cd_X9_setsPath ok_X9_setsPath rfl ⟨Nat.le_of_ble_eq_true rfl, Nat.le_of_ble_eq_true rfl⟩ ⟨Nat.zero_le _, Nat.zero_le _⟩ (by decide) rfl rfl rfl (rest := ([] : List Value)) (by first | (rw [show (v5 0 11) = nI (cl (g 0 11)) from (hk11_v5.trans hto)]; done) | (rw [show (v5 0 11) = nI (cl (g 0 11)) from (hk11_v5.trans hto)]; rfl)) (Nat.le_of_ble_eq_true rfl) ?_
              obtain ⟨v6, ev6⟩ : ∃ x : Nat → Nat → Int32, x = (ct_readsPath_v6  g) := ⟨_, rfl⟩
              have eq_v6 : (ug v5 1 (55 + 6 * (cl (g 0 11)) + 1) (v5 8 1)) = v6 := by rw [ev6, show (ct_readsPath_v6  g) = (ug (ct_readsPath_v5  g) 1 (55 + 6 * (cl (g 0 11)) + 1) ((ct_readsPath_v5  g) 8 1)) from rfl, ← ev5]
              refine bv_weq (show (layM (ug v5 1 (55 + 6 * (cl (g 0 11)) + 1) (v5 8 1)) h) = (layM v6 h) from by rw [eq_v6]) ?_
              have ht_v6 : tkI v6 := by rw [← eq_v6]; exact (tk_ug (by omega) ht_v5)
              have hk11_v6 : v6 0 11 = g 0 11 := by rw [← eq_v6]; exact (ug_ne (by omega)).trans hk11_v5
              have hk12_v6 : v6 0 12 = g 0 12 := by rw [← eq_v6]; exact (ug_ne (by omega)).trans hk12_v5
              refine bv_blk C frk_X9 csk_X9 1 93 rfl (L1 := ([(1, .int ((1) + Int32.ofInt 1)), (0, .ref 0)] : Lc)) (st1 := ([] : List Value)) (w1 := (layM v6 h)) (by rfl) ?_
              rw [show ((1) + Int32.ofInt 1) = (2) from by decide]
              refine bv_goto (j := 77) C rfl rfl ?_
              refine bv_blk C frk_X9 csk_X9 2 79 rfl (L1 := ([(1, .int (2)), (0, .ref 0)] : Lc)) (st1 := ([.int (6), .int (2)] : List Value)) (w1 := (layM v6 h)) (by rfl) ?_
              refine bv_icmp_ge (j := 94) C rfl rfl (fun h => absurd h (by decide)) (fun _ => ?_)
              refine bv_blk C frk_X9 csk_X9 2 82 rfl (L1 := ([(1, .int (2)), (0, .ref 0)] : Lc)) (st1 := ([.int (v6 0 12)] : List Value)) (w1 := (layM v6 h)) (by rfl) ?_
              refine bv_if_eq (j := 94) C rfl rfl (fun h => absurd h (fun z => c14 (((hk12_v4).trans (hk12_v6).symm).trans z))) (fun _ => ?_)
              refine bv_blk C frk_X9 csk_X9 7 90 rfl (L1 := ([(1, .int (2)), (0, .ref 0)] : Lc)) (st1 := ([.int (2), .ref 8, .int (2), .int (v6 0 11), .ref 0] : List Value)) (w1 := (layM v6 h)) (by rfl) ?_
              refine bv_iald C rfl rfl (by decide) (j := 2) (by exact rfl) (by first | decide | omega) (by decide) (y := (v6 8 2)) (by rfl) ?_
              refine bv_fV0 C rfl (ct_setsPath hE _ _ (cl (g 0 11)) 2 (v6 8 2) (by omega) (by omega)) ml_X9_173 im_X9_setsPath sel_X9_setsPath ini_X9 cd_X9_setsPath ok_X9_setsPath rfl ⟨Nat.le_of_ble_eq_true rfl, Nat.le_of_ble_eq_true rfl⟩ ⟨Nat.zero_le _, Nat.zero_le _⟩ (by decide) rfl rfl rfl (rest := ([] : List Value)) (by first | (rw [show (v6 0 11) = nI (cl (g 0 11)) from (hk11_v6.trans hto)]; done) | (rw [show (v6 0 11) = nI (cl (g 0 11)) from (hk11_v6.trans hto)]; rfl)) (Nat.le_of_ble_eq_true rfl) ?_
              obtain ⟨v7, ev7⟩ : ∃ x : Nat → Nat → Int32, x = (ct_readsPath_v7  g) := ⟨_, rfl⟩
              have eq_v7 : (ug v6 1 (55 + 6 * (cl (g 0 11)) + 2) (v6 8 2)) = v7 := by rw [ev7, show (ct_readsPath_v7  g) = (ug (ct_readsPath_v6  g) 1 (55 + 6 * (cl (g 0 11)) + 2) ((ct_readsPath_v6  g) 8 2)) from rfl, ← ev6]
              refine bv_weq (show (layM (ug v6 1 (55 + 6 * (cl (g 0 11)) + 2) (v6 8 2)) h) = (layM v7 h) from by rw [eq_v7]) ?_
              have ht_v7 : tkI v7 := by rw [← eq_v7]; exact (tk_ug (by omega) ht_v6)
              have hk11_v7 : v7 0 11 = g 0 11 := by rw [← eq_v7]; exact (ug_ne (by omega)).trans hk11_v6
              have hk12_v7 : v7 0 12 = g 0 12 := by rw [← eq_v7]; exact (ug_ne (by omega)).trans hk12_v6
              refine bv_blk C frk_X9 csk_X9 1 93 rfl (L1 := ([(1, .int ((2) + Int32.ofInt 1)), (0, .ref 0)] : Lc)) (st1 := ([] : List Value)) (w1 := (layM v7 h)) (by rfl) ?_
              rw [show ((2) + Int32.ofInt 1) = (3) from by decide]
              refine bv_goto (j := 77) C rfl rfl ?_
              refine bv_blk C frk_X9 csk_X9 2 79 rfl (L1 := ([(1, .int (3)), (0, .ref 0)] : Lc)) (st1 := ([.int (6), .int (3)] : List Value)) (w1 := (layM v7 h)) (by rfl) ?_
              refine bv_icmp_ge (j := 94) C rfl rfl (fun h => absurd h (by decide)) (fun _ => ?_)
              refine bv_blk C frk_X9 csk_X9 2 82 rfl (L1 := ([(1, .int (3)), (0, .ref 0)] : Lc)) (st1 := ([.int (v7 0 12)] : List Value)) (w1 := (layM v7 h)) (by rfl) ?_
              refine bv_if_eq (j := 94) C rfl rfl (fun h => absurd h (fun z => c14 (((hk12_v4).trans (hk12_v7).symm).trans z))) (fun _ => ?_)
              refine bv_blk C frk_X9 csk_X9 7 90 rfl (L1 := ([(1, .int (3)), (0, .ref 0)] : Lc)) (st1 := ([.int (3), .ref 8, .int (3), .int (v7 0 11), .ref 0] : List Value)) (w1 := (layM v7 h)) (by rfl) ?_
              refine bv_iald C rfl rfl (by decide) (j := 3) (by exact rfl) (by first | decide | omega) (by decide) (y := (v7 8 3)) (by rfl) ?_
              refine bv_fV0 C rfl (ct_setsPath hE _ _ (cl (g 0 11)) 3 (v7 8 3) (by omega) (by omega)) ml_X9_173 im_X9_setsPath sel_X9_setsPath ini_X9 cd_X9_setsPath ok_X9_setsPath rfl ⟨Nat.le_of_ble_eq_true rfl, Nat.le_of_ble_eq_true rfl⟩ ⟨Nat.zero_le _, Nat.zero_le _⟩ (by decide) rfl rfl rfl (rest := ([] : List Value)) (by first | (rw [show (v7 0 11) = nI (cl (g 0 11)) from (hk11_v7.trans hto)]; done) | (rw [show (v7 0 11) = nI (cl (g 0 11)) from (hk11_v7.trans hto)]; rfl)) (Nat.le_of_ble_eq_true rfl) ?_
              obtain ⟨v8, ev8⟩ : ∃ x : Nat → Nat → Int32, x = (ct_readsPath_v8  g) := ⟨_, rfl⟩
              have eq_v8 : (ug v7 1 (55 + 6 * (cl (g 0 11)) + 3) (v7 8 3)) = v8 := by rw [ev8, show (ct_readsPath_v8  g) = (ug (ct_readsPath_v7  g) 1 (55 + 6 * (cl (g 0 11)) + 3) ((ct_readsPath_v7  g) 8 3)) from rfl, ← ev7]
              refine bv_weq (show (layM (ug v7 1 (55 + 6 * (cl (g 0 11)) + 3) (v7 8 3)) h) = (layM v8 h) from by rw [eq_v8]) ?_
              have ht_v8 : tkI v8 := by rw [← eq_v8]; exact (tk_ug (by omega) ht_v7)
              have hk11_v8 : v8 0 11 = g 0 11 := by rw [← eq_v8]; exact (ug_ne (by omega)).trans hk11_v7
              have hk12_v8 : v8 0 12 = g 0 12 := by rw [← eq_v8]; exact (ug_ne (by omega)).trans hk12_v7
              refine bv_blk C frk_X9 csk_X9 1 93 rfl (L1 := ([(1, .int ((3) + Int32.ofInt 1)), (0, .ref 0)] : Lc)) (st1 := ([] : List Value)) (w1 := (layM v8 h)) (by rfl) ?_
              rw [show ((3) + Int32.ofInt 1) = (4) from by decide]
              refine bv_goto (j := 77) C rfl rfl ?_
              refine bv_blk C frk_X9 csk_X9 2 79 rfl (L1 := ([(1, .int (4)), (0, .ref 0)] : Lc)) (st1 := ([.int (6), .int (4)] : List Value)) (w1 := (layM v8 h)) (by rfl) ?_
              refine bv_icmp_ge (j := 94) C rfl rfl (fun h => absurd h (by decide)) (fun _ => ?_)
              refine bv_blk C frk_X9 csk_X9 2 82 rfl (L1 := ([(1, .int (4)), (0, .ref 0)] : Lc)) (st1 := ([.int (v8 0 12)] : List Value)) (w1 := (layM v8 h)) (by rfl) ?_
              refine bv_if_eq (j := 94) C rfl rfl (fun h => absurd h (fun z => c14 (((hk12_v4).trans (hk12_v8).symm).trans z))) (fun _ => ?_)
              refine bv_blk C frk_X9 csk_X9 7 90 rfl (L1 := ([(1, .int (4)), (0, .ref 0)] : Lc)) (st1 := ([.int (4), .ref 8, .int (4), .int (v8 0 11), .ref 0] : List Value)) (w1 := (layM v8 h)) (by rfl) ?_
              refine bv_iald C rfl rfl (by decide) (j := 4) (by exact rfl) (by first | decide | omega) (by decide) (y := (v8 8 4)) (by rfl) ?_
              refine bv_fV0 C rfl (ct_setsPath hE _ _ (cl (g 0 11)) 4 (v8 8 4) (by omega) (by omega)) ml_X9_173 im_X9_setsPath sel_X9_setsPath ini_X9 cd_X9_setsPath ok_X9_setsPath rfl ⟨Nat.le_of_ble_eq_true rfl, Nat.le_of_ble_eq_true rfl⟩ ⟨Nat.zero_le _, Nat.zero_le _⟩ (by decide) rfl rfl rfl (rest := ([] : List Value)) (by first | (rw [show (v8 0 11) = nI (cl (g 0 11)) from (hk11_v8.trans hto)]; done) | (rw [show (v8 0 11) = nI (cl (g 0 11)) from (hk11_v8.trans hto)]; rfl)) (Nat.le_of_ble_eq_true rfl) ?_
              obtain ⟨v9, ev9⟩ : ∃ x : Nat → Nat → Int32, x = (ct_readsPath_v9  g) := ⟨_, rfl⟩
              have eq_v9 : (ug v8 1 (55 + 6 * (cl (g 0 11)) + 4) (v8 8 4)) = v9 := by rw [ev9, show (ct_readsPath_v9  g) = (ug (ct_readsPath_v8  g) 1 (55 + 6 * (cl (g 0 11)) + 4) ((ct_readsPath_v8  g) 8 4)) from rfl, ← ev8]
              refine bv_weq (show (layM (ug v8 1 (55 + 6 * (cl (g 0 11)) + 4) (v8 8 4)) h) = (layM v9 h) from by rw [eq_v9]) ?_
              have ht_v9 : tkI v9 := by rw [← eq_v9]; exact (tk_ug (by omega) ht_v8)
              have hk11_v9 : v9 0 11 = g 0 11 := by rw [← eq_v9]; exact (ug_ne (by omega)).trans hk11_v8
              have hk12_v9 : v9 0 12 = g 0 12 := by rw [← eq_v9]; exact (ug_ne (by omega)).trans hk12_v8
              refine bv_blk C frk_X9 csk_X9 1 93 rfl (L1 := ([(1, .int ((4) + Int32.ofInt 1)), (0, .ref 0)] : Lc)) (st1 := ([] : List Value)) (w1 := (layM v9 h)) (by rfl) ?_
              rw [show ((4) + Int32.ofInt 1) = (5) from by decide]
              refine bv_goto (j := 77) C rfl rfl ?_
              refine bv_blk C frk_X9 csk_X9 2 79 rfl (L1 := ([(1, .int (5)), (0, .ref 0)] : Lc)) (st1 := ([.int (6), .int (5)] : List Value)) (w1 := (layM v9 h)) (by rfl) ?_
              refine bv_icmp_ge (j := 94) C rfl rfl (fun h => absurd h (by decide)) (fun _ => ?_)
              refine bv_blk C frk_X9 csk_X9 2 82 rfl (L1 := ([(1, .int (5)), (0, .ref 0)] : Lc)) (st1 := ([.int (v9 0 12)] : List Value)) (w1 := (layM v9 h)) (by rfl) ?_
              refine bv_if_eq (j := 94) C rfl rfl (fun h => absurd h (fun z => c14 (((hk12_v4).trans (hk12_v9).symm).trans z))) (fun _ => ?_)
              refine bv_blk C frk_X9 csk_X9 7 90 rfl (L1 := ([(1, .int (5)), (0, .ref 0)] : Lc)) (st1 := ([.int (5), .ref 8, .int (5), .int (v9 0 11), .ref 0] : List Value)) (w1 := (layM v9 h)) (by rfl) ?_
              refine bv_iald C rfl rfl (by decide) (j := 5) (by exact rfl) (by first | decide | omega) (by decide) (y := (v9 8 5)) (by rfl) ?_
              refine bv_fV0 C rfl (ct_setsPath hE _ _ (cl (g 0 11)) 5 (v9 8 5) (by omega) (by omega)) ml_X9_173 im_X9_setsPath sel_X9_setsPath ini_X9 cd_X9_setsPath ok_X9_setsPath rfl ⟨Nat.le_of_ble_eq_true rfl, Nat.le_of_ble_eq_true rfl⟩ ⟨Nat.zero_le _, Nat.zero_le _⟩ (by decide) rfl rfl rfl (rest := ([] : List Value)) (by first | (rw [show (v9 0 11) = nI (cl (g 0 11)) from (hk11_v9.trans hto)]; done) | (rw [show (v9 0 11) = nI (cl (g 0 11)) from (hk11_v9.trans hto)]; rfl)) (Nat.le_of_ble_eq_true rfl) ?_
              obtain ⟨v10, ev10⟩ : ∃ x : Nat → Nat → Int32, x = (ct_readsPath_v10  g) := ⟨_, rfl⟩
              have eq_v10 : (ug v9 1 (55 + 6 * (cl (g 0 11)) + 5) (v9 8 5)) = v10 := by rw [ev10, show (ct_readsPath_v10  g) = (ug (ct_readsPath_v9  g) 1 (55 + 6 * (cl (g 0 11)) + 5) ((ct_readsPath_v9  g) 8 5)) from rfl, ← ev9]
              refine bv_weq (show (layM (ug v9 1 (55 + 6 * (cl (g 0 11)) + 5) (v9 8 5)) h) = (layM v10 h) from by rw [eq_v10]) ?_
              have ht_v10 : tkI v10 := by rw [← eq_v10]; exact (tk_ug (by omega) ht_v9)
              have hk11_v10 : v10 0 11 = g 0 11 := by rw [← eq_v10]; exact (ug_ne (by omega)).trans hk11_v9
              have hk12_v10 : v10 0 12 = g 0 12 := by rw [← eq_v10]; exact (ug_ne (by omega)).trans hk12_v9
              refine bv_blk C frk_X9 csk_X9 1 93 rfl (L1 := ([(1, .int ((5) + Int32.ofInt 1)), (0, .ref 0)] : Lc)) (st1 := ([] : List Value)) (w1 := (layM v10 h)) (by rfl) ?_
              rw [show ((5) + Int32.ofInt 1) = (6) from by decide]
              refine bv_goto (j := 77) C rfl rfl ?_
              refine bv_blk C frk_X9 csk_X9 2 79 rfl (L1 := ([(1, .int (6)), (0, .ref 0)] : Lc)) (st1 := ([.int (6), .int (6)] : List Value)) (w1 := (layM v10 h)) (by rfl) ?_
              refine bv_icmp_ge (j := 94) C rfl rfl (fun _ => ?_) (fun h => absurd h (by decide))
              refine bv_blk C frk_X9 csk_X9 6 100 rfl (L1 := ([(1, .int (6)), (0, .ref 0)] : Lc)) (st1 := ([] : List Value)) (w1 := up2 (layM v10 h) 0 11 (.int ((v10 0 11) + (1)))) (by rfl) ?_
              rw [lm_up rfl]
              refine bv_blk C frk_X9 csk_X9 5 105 rfl (L1 := ([(1, .int (6)), (0, .ref 0)] : Lc)) (st1 := ([.int (v10 0 12), .int (12), .ref 1] : List Value)) (w1 := (layM (ug v10 0 11 ((v10 0 11) + (1))) h)) (by rfl) ?_
              refine bv_if_eq (j := 109) C rfl rfl (fun h => absurd h (fun z => c14 (((hk12_v4).trans (hk12_v10).symm).trans z))) (fun _ => ?_)
              refine bv_blk C frk_X9 csk_X9 2 108 rfl (L1 := ([(1, .int (6)), (0, .ref 0)] : Lc)) (st1 := ([.int ((v10 0 11) + (1)), .int (12), .ref 1] : List Value)) (w1 := (layM (ug v10 0 11 ((v10 0 11) + (1))) h)) (by rfl) ?_
              refine bv_goto (j := 113) C rfl rfl ?_
              refine bv_iast C rfl rfl (by decide) (j := 12) (by exact rfl) (by first | decide | omega) (by decide) ?_
              rw [lm_up rfl]
              refine bv_blk C frk_X9 csk_X9 1 115 rfl (L1 := ([(1, .int (6)), (0, .ref 0)] : Lc)) (st1 := ([.int (1)] : List Value)) (w1 := (layM (ug (ug v10 0 11 ((v10 0 11) + (1))) 1 12 ((v10 0 11) + (1))) h)) (by rfl) ?_
              exact bv_iret C rfl hr rfl ⟨by (replace ev1 := ev1.symm; subst ev1; replace ev2 := ev2.symm; subst ev2; replace ev3 := ev3.symm; subst ev3; replace ev4 := ev4.symm; subst ev4; replace ev5 := ev5.symm; subst ev5; replace ev6 := ev6.symm; subst ev6; replace ev7 := ev7.symm; subst ev7; replace ev8 := ev8.symm; subst ev8; replace ev9 := ev9.symm; subst ev9; replace ev10 := ev10.symm; subst ev10; exact congrArg (fun x => some (Value.int x)) (((if_neg c1).trans ((if_neg c4).trans ((if_neg c7).trans ((if_neg c10).trans ((if_pos c12).trans rfl)))))).symm), by (replace ev1 := ev1.symm; subst ev1; replace ev2 := ev2.symm; subst ev2; replace ev3 := ev3.symm; subst ev3; replace ev4 := ev4.symm; subst ev4; replace ev5 := ev5.symm; subst ev5; replace ev6 := ev6.symm; subst ev6; replace ev7 := ev7.symm; subst ev7; replace ev8 := ev8.symm; subst ev8; replace ev9 := ev9.symm; subst ev9; replace ev10 := ev10.symm; subst ev10; exact congrArg (fun x => (layM x h)) (((if_neg c1).trans ((if_neg c4).trans ((if_neg c7).trans ((if_neg c10).trans ((if_pos c12).trans ((if_neg c14).trans rfl))))))).symm)⟩
          · refine bv_blk C frk_X9 csk_X9 1 54 rfl (L1 := ([(1, .int (3)), (0, .ref 0)] : Lc)) (st1 := ([.ref 0] : List Value)) (w1 := (layM (ug (ug (ug (ug v4 8 2 (v4 0 16)) 8 3 (0)) 8 4 (0)) 8 5 (0)) h)) (by rfl) ?_
            refine bv_fV0 C rfl (cu_next hE (ug (ug (ug (ug v4 8 2 (v4 0 16)) 8 3 (0)) 8 4 (0)) 8 5 (0)) _ (tk_ug (by omega) (tk_ug (by omega) (tk_ug (by omega) (tk_ug (by omega) ht_v4))))) ml_X9_221 im_X9_nextToken sel_X9_nextToken ini_X9 cd_X9_nextToken ok_X9_nextToken rfl ⟨Nat.le_of_ble_eq_true rfl, Nat.le_of_ble_eq_true rfl⟩ ⟨Nat.zero_le _, Nat.zero_le _⟩ (by decide) rfl rfl rfl (rest := ([] : List Value)) rfl (Nat.le_of_ble_eq_true rfl) ?_
            obtain ⟨v11, ev11⟩ : ∃ x : Nat → Nat → Int32, x = (ct_readsPath_v11  g) := ⟨_, rfl⟩
            have eq_v11 : (nxW (ug (ug (ug (ug v4 8 2 (v4 0 16)) 8 3 (0)) 8 4 (0)) 8 5 (0))) = v11 := by rw [ev11, show (ct_readsPath_v11  g) = (nxW (ug (ug (ug (ug (ct_readsPath_v4  g) 8 2 ((ct_readsPath_v4  g) 0 16)) 8 3 (0)) 8 4 (0)) 8 5 (0))) from rfl, ← ev4]
            refine bv_weq (show (layM (nxW (ug (ug (ug (ug v4 8 2 (v4 0 16)) 8 3 (0)) 8 4 (0)) 8 5 (0))) h) = (layM v11 h) from by rw [eq_v11]) ?_
            have ht_v11 : tkI v11 := by rw [← eq_v11]; exact (tk_nx (tk_ug (by omega) (tk_ug (by omega) (tk_ug (by omega) (tk_ug (by omega) ht_v4)))))
            have hk11_v11 : v11 0 11 = g 0 11 := by rw [← eq_v11]; exact (kq_nx 0 11 (by omega)).trans ((ug_ne (by omega)).trans ((ug_ne (by omega)).trans ((ug_ne (by omega)).trans ((ug_ne (by omega)).trans hk11_v4))))
            have hk12_v11 : v11 0 12 = g 0 12 := by rw [← eq_v11]; exact (kq_nx 0 12 (by omega)).trans ((ug_ne (by omega)).trans ((ug_ne (by omega)).trans ((ug_ne (by omega)).trans ((ug_ne (by omega)).trans hk12_v4))))
            refine bv_blk C frk_X9 csk_X9 4 59 rfl (L1 := ([(1, .int (4)), (0, .ref 0)] : Lc)) (st1 := ([.int (6), .int (4)] : List Value)) (w1 := (layM v11 h)) (by rfl) ?_
            refine bv_icmp_ge (j := 75) C rfl rfl (fun h => absurd h (by decide)) (fun _ => ?_)
            refine bv_blk C frk_X9 csk_X9 3 63 rfl (L1 := ([(1, .int (4)), (0, .ref 0)] : Lc)) (st1 := ([.int (3), .int (-3), .ref 0] : List Value)) (w1 := (layM v11 h)) (by rfl) ?_
            refine bv_fV1 C rfl (cu_signed hE v11 _ (-3) (3) ht_v11) ml_X9_237 im_X9_readsSigned sel_X9_readsSigned ini_X9 cd_X9_readsSigned ok_X9_readsSigned rfl ⟨Nat.le_of_ble_eq_true rfl, Nat.le_of_ble_eq_true rfl⟩ ⟨Nat.zero_le _, Nat.zero_le _⟩ (by decide) rfl rfl rfl (rest := ([] : List Value)) rfl (Nat.le_of_ble_eq_true rfl) ?_
            obtain ⟨v12, ev12⟩ : ∃ x : Nat → Nat → Int32, x = (ct_readsPath_v12  g) := ⟨_, rfl⟩
            have eq_v12 : (rsw (-3) (3) v11) = v12 := by rw [ev12, show (ct_readsPath_v12  g) = (rsw (-3) (3) (ct_readsPath_v11  g)) from rfl, ← ev11]
            refine bv_weq (show (layM (rsw (-3) (3) v11) h) = (layM v12 h) from by rw [eq_v12]) ?_
            have ht_v12 : tkI v12 := by rw [← eq_v12]; exact (tk_rs ht_v11)
            have hk11_v12 : v12 0 11 = g 0 11 := by rw [← eq_v12]; exact (kq_rs 0 11 (by omega)).trans hk11_v11
            have hk12_v12 : v12 0 12 = g 0 12 := by rw [← eq_v12]; exact (kq_rs 0 12 (by omega)).trans hk12_v11
            refine bv_if_ne (j := 67) C rfl rfl (fun c29 => ?_) (fun c29 => ?_)
            · refine bv_blk C frk_X9 csk_X9 5 72 rfl (L1 := ([(1, .int (4)), (0, .ref 0)] : Lc)) (st1 := ([.int (v12 0 16), .int (4), .ref 8] : List Value)) (w1 := (layM v12 h)) (by rfl) ?_
              refine bv_iast C rfl rfl (by decide) (j := 4) (by exact rfl) (by first | decide | omega) (by decide) ?_
              rw [lm_up rfl]
              refine bv_blk C frk_X9 csk_X9 1 74 rfl (L1 := ([(1, .int ((4) + Int32.ofInt 1)), (0, .ref 0)] : Lc)) (st1 := ([] : List Value)) (w1 := (layM (ug v12 8 4 (v12 0 16)) h)) (by rfl) ?_
              rw [show ((4) + Int32.ofInt 1) = (5) from by decide]
              refine bv_goto (j := 57) C rfl rfl ?_
              refine bv_blk C frk_X9 csk_X9 2 59 rfl (L1 := ([(1, .int (5)), (0, .ref 0)] : Lc)) (st1 := ([.int (6), .int (5)] : List Value)) (w1 := (layM (ug v12 8 4 (v12 0 16)) h)) (by rfl) ?_
              refine bv_icmp_ge (j := 75) C rfl rfl (fun h => absurd h (by decide)) (fun _ => ?_)
              refine bv_blk C frk_X9 csk_X9 3 63 rfl (L1 := ([(1, .int (5)), (0, .ref 0)] : Lc)) (st1 := ([.int (3), .int (-3), .ref 0] : List Value)) (w1 := (layM (ug v12 8 4 (v12 0 16)) h)) (by rfl) ?_
              refine bv_fV1 C rfl (cu_signed hE (ug v12 8 4 (v12 0 16)) _ (-3) (3) (tk_ug (by omega) ht_v12)) ml_X9_237 im_X9_readsSigned sel_X9_readsSigned ini_X9 cd_X9_readsSigned ok_X9_readsSigned rfl ⟨Nat.le_of_ble_eq_true rfl, Nat.le_of_ble_eq_true rfl⟩ ⟨Nat.zero_le _, Nat.zero_le _⟩ (by decide) rfl rfl rfl (rest := ([] : List Value)) rfl (Nat.le_of_ble_eq_true rfl) ?_
              obtain ⟨v13, ev13⟩ : ∃ x : Nat → Nat → Int32, x = (ct_readsPath_v13  g) := ⟨_, rfl⟩
              have eq_v13 : (rsw (-3) (3) (ug v12 8 4 (v12 0 16))) = v13 := by rw [ev13, show (ct_readsPath_v13  g) = (rsw (-3) (3) (ug (ct_readsPath_v12  g) 8 4 ((ct_readsPath_v12  g) 0 16))) from rfl, ← ev12]
              refine bv_weq (show (layM (rsw (-3) (3) (ug v12 8 4 (v12 0 16))) h) = (layM v13 h) from by rw [eq_v13]) ?_
              have ht_v13 : tkI v13 := by rw [← eq_v13]; exact (tk_rs (tk_ug (by omega) ht_v12))
              have hk11_v13 : v13 0 11 = g 0 11 := by rw [← eq_v13]; exact (kq_rs 0 11 (by omega)).trans ((ug_ne (by omega)).trans hk11_v12)
              have hk12_v13 : v13 0 12 = g 0 12 := by rw [← eq_v13]; exact (kq_rs 0 12 (by omega)).trans ((ug_ne (by omega)).trans hk12_v12)
              refine bv_if_ne (j := 67) C rfl rfl (fun c31 => ?_) (fun c31 => ?_)
              · refine bv_blk C frk_X9 csk_X9 5 72 rfl (L1 := ([(1, .int (5)), (0, .ref 0)] : Lc)) (st1 := ([.int (v13 0 16), .int (5), .ref 8] : List Value)) (w1 := (layM v13 h)) (by rfl) ?_
                refine bv_iast C rfl rfl (by decide) (j := 5) (by exact rfl) (by first | decide | omega) (by decide) ?_
                rw [lm_up rfl]
                refine bv_blk C frk_X9 csk_X9 1 74 rfl (L1 := ([(1, .int ((5) + Int32.ofInt 1)), (0, .ref 0)] : Lc)) (st1 := ([] : List Value)) (w1 := (layM (ug v13 8 5 (v13 0 16)) h)) (by rfl) ?_
                rw [show ((5) + Int32.ofInt 1) = (6) from by decide]
                refine bv_goto (j := 57) C rfl rfl ?_
                refine bv_blk C frk_X9 csk_X9 2 59 rfl (L1 := ([(1, .int (6)), (0, .ref 0)] : Lc)) (st1 := ([.int (6), .int (6)] : List Value)) (w1 := (layM (ug v13 8 5 (v13 0 16)) h)) (by rfl) ?_
                refine bv_icmp_ge (j := 75) C rfl rfl (fun _ => ?_) (fun h => absurd h (by decide))
                refine bv_blk C frk_X9 csk_X9 4 79 rfl (L1 := ([(1, .int (0)), (0, .ref 0)] : Lc)) (st1 := ([.int (6), .int (0)] : List Value)) (w1 := (layM (ug v13 8 5 (v13 0 16)) h)) (by rfl) ?_
                refine bv_icmp_ge (j := 94) C rfl rfl (fun h => absurd h (by decide)) (fun _ => ?_)
                refine bv_blk C frk_X9 csk_X9 2 82 rfl (L1 := ([(1, .int (0)), (0, .ref 0)] : Lc)) (st1 := ([.int (v13 0 12)] : List Value)) (w1 := (layM (ug v13 8 5 (v13 0 16)) h)) (by rfl) ?_
                refine bv_if_eq (j := 94) C rfl rfl (fun c34 => ?_) (fun c34 => ?_)
                · refine bv_blk C frk_X9 csk_X9 6 100 rfl (L1 := ([(1, .int (0)), (0, .ref 0)] : Lc)) (st1 := ([] : List Value)) (w1 := up2 (layM (ug v13 8 5 (v13 0 16)) h) 0 11 (.int ((v13 0 11) + (1)))) (by rfl) ?_
                  rw [lm_up rfl]
                  refine bv_blk C frk_X9 csk_X9 5 105 rfl (L1 := ([(1, .int (0)), (0, .ref 0)] : Lc)) (st1 := ([.int (v13 0 12), .int (12), .ref 1] : List Value)) (w1 := (layM (ug (ug v13 8 5 (v13 0 16)) 0 11 ((v13 0 11) + (1))) h)) (by rfl) ?_
                  refine bv_if_eq (j := 109) C rfl rfl (fun _ => ?_) (fun h => absurd (c34) h)
                  refine bv_blk C frk_X9 csk_X9 3 112 rfl (L1 := ([(1, .int (0)), (0, .ref 0)] : Lc)) (st1 := ([.int (12), .ref 1, .int (12), .ref 1] : List Value)) (w1 := (layM (ug (ug v13 8 5 (v13 0 16)) 0 11 ((v13 0 11) + (1))) h)) (by rfl) ?_
                  refine bv_iald C rfl rfl (by decide) (j := 12) (by exact rfl) (by first | decide | omega) (by decide) (y := (v13 1 12)) (by rfl) ?_
                  refine bv_iast C rfl rfl (by decide) (j := 12) (by exact rfl) (by first | decide | omega) (by decide) ?_
                  rw [lm_up rfl]
                  refine bv_blk C frk_X9 csk_X9 1 115 rfl (L1 := ([(1, .int (0)), (0, .ref 0)] : Lc)) (st1 := ([.int (1)] : List Value)) (w1 := (layM (ug (ug (ug v13 8 5 (v13 0 16)) 0 11 ((v13 0 11) + (1))) 1 12 (v13 1 12)) h)) (by rfl) ?_
                  exact bv_iret C rfl hr rfl ⟨by (replace ev1 := ev1.symm; subst ev1; replace ev2 := ev2.symm; subst ev2; replace ev3 := ev3.symm; subst ev3; replace ev4 := ev4.symm; subst ev4; replace ev11 := ev11.symm; subst ev11; replace ev12 := ev12.symm; subst ev12; replace ev13 := ev13.symm; subst ev13; exact congrArg (fun x => some (Value.int x)) (((if_neg c1).trans ((if_neg c4).trans ((if_neg c7).trans ((if_neg c10).trans ((if_neg c12).trans ((if_neg c29).trans ((if_neg c31).trans rfl)))))))).symm), by (replace ev1 := ev1.symm; subst ev1; replace ev2 := ev2.symm; subst ev2; replace ev3 := ev3.symm; subst ev3; replace ev4 := ev4.symm; subst ev4; replace ev11 := ev11.symm; subst ev11; replace ev12 := ev12.symm; subst ev12; replace ev13 := ev13.symm; subst ev13; exact congrArg (fun x => (layM x h)) (((if_neg c1).trans ((if_neg c4).trans ((if_neg c7).trans ((if_neg c10).trans ((if_neg c12).trans ((if_neg c29).trans ((if_neg c31).trans ((if_pos c34).trans rfl))))))))).symm)⟩
                · refine bv_blk C frk_X9 csk_X9 7 90 rfl (L1 := ([(1, .int (0)), (0, .ref 0)] : Lc)) (st1 := ([.int (0), .ref 8, .int (0), .int (v13 0 11), .ref 0] : List Value)) (w1 := (layM (ug v13 8 5 (v13 0 16)) h)) (by rfl) ?_
                  refine bv_iald C rfl rfl (by decide) (j := 0) (by exact rfl) (by first | decide | omega) (by decide) (y := (v13 8 0)) (by rfl) ?_
                  refine bv_fV0 C rfl (ct_setsPath hE _ _ (cl (g 0 11)) 0 (v13 8 0) (by omega) (by omega)) ml_X9_173 im_X9_setsPath sel_X9_setsPath ini_X9 cd_X9_setsPath ok_X9_setsPath rfl ⟨Nat.le_of_ble_eq_true rfl, Nat.le_of_ble_eq_true rfl⟩ ⟨Nat.zero_le _, Nat.zero_le _⟩ (by decide) rfl rfl rfl (rest := ([] : List Value)) (by first | (rw [show (v13 0 11) = nI (cl (g 0 11)) from (hk11_v13.trans hto)]; done) | (rw [show (v13 0 11) = nI (cl (g 0 11)) from (hk11_v13.trans hto)]; rfl)) (Nat.le_of_ble_eq_true rfl) ?_
                  obtain ⟨v14, ev14⟩ : ∃ x : Nat → Nat → Int32, x = (ct_readsPath_v14  g) := ⟨_, rfl⟩
                  have eq_v14 : (ug (ug v13 8 5 (v13 0 16)) 1 (55 + 6 * (cl (g 0 11)) + 0) (v13 8 0)) = v14 := by rw [ev14, show (ct_readsPath_v14  g) = (ug (ug (ct_readsPath_v13  g) 8 5 ((ct_readsPath_v13  g) 0 16)) 1 (55 + 6 * (cl (g 0 11)) + 0) ((ct_readsPath_v13  g) 8 0)) from rfl, ← ev13]
                  refine bv_weq (show (layM (ug (ug v13 8 5 (v13 0 16)) 1 (55 + 6 * (cl (g 0 11)) + 0) (v13 8 0)) h) = (layM v14 h) from by rw [eq_v14]) ?_
                  have ht_v14 : tkI v14 := by rw [← eq_v14]; exact (tk_ug (by omega) (tk_ug (by omega) ht_v13))
                  have hk11_v14 : v14 0 11 = g 0 11 := by rw [← eq_v14]; exact (ug_ne (by omega)).trans ((ug_ne (by omega)).trans hk11_v13)
                  have hk12_v14 : v14 0 12 = g 0 12 := by rw [← eq_v14]; exact (ug_ne (by omega)).trans ((ug_ne (by omega)).trans hk12_v13)
                  refine bv_blk C frk_X9 csk_X9 1 93 rfl (L1 := ([(1, .int ((0) + Int32.ofInt 1)), (0, .ref 0)] : Lc)) (st1 := ([] : List Value)) (w1 := (layM v14 h)) (by rfl) ?_
                  rw [show ((0) + Int32.ofInt 1) = (1) from by decide]
                  refine bv_goto (j := 77) C rfl rfl ?_
                  refine bv_blk C frk_X9 csk_X9 2 79 rfl (L1 := ([(1, .int (1)), (0, .ref 0)] : Lc)) (st1 := ([.int (6), .int (1)] : List Value)) (w1 := (layM v14 h)) (by rfl) ?_
                  refine bv_icmp_ge (j := 94) C rfl rfl (fun h => absurd h (by decide)) (fun _ => ?_)
                  refine bv_blk C frk_X9 csk_X9 2 82 rfl (L1 := ([(1, .int (1)), (0, .ref 0)] : Lc)) (st1 := ([.int (v14 0 12)] : List Value)) (w1 := (layM v14 h)) (by rfl) ?_
                  refine bv_if_eq (j := 94) C rfl rfl (fun h => absurd h (fun z => c34 (((hk12_v13).trans (hk12_v14).symm).trans z))) (fun _ => ?_)
                  refine bv_blk C frk_X9 csk_X9 7 90 rfl (L1 := ([(1, .int (1)), (0, .ref 0)] : Lc)) (st1 := ([.int (1), .ref 8, .int (1), .int (v14 0 11), .ref 0] : List Value)) (w1 := (layM v14 h)) (by rfl) ?_
                  refine bv_iald C rfl rfl (by decide) (j := 1) (by exact rfl) (by first | decide | omega) (by decide) (y := (v14 8 1)) (by rfl) ?_
                  refine bv_fV0 C rfl (ct_setsPath hE _ _ (cl (g 0 11)) 1 (v14 8 1) (by omega) (by omega)) ml_X9_173 im_X9_setsPath sel_X9_setsPath ini_X9 cd_X9_setsPath ok_X9_setsPath rfl ⟨Nat.le_of_ble_eq_true rfl, Nat.le_of_ble_eq_true rfl⟩ ⟨Nat.zero_le _, Nat.zero_le _⟩ (by decide) rfl rfl rfl (rest := ([] : List Value)) (by first | (rw [show (v14 0 11) = nI (cl (g 0 11)) from (hk11_v14.trans hto)]; done) | (rw [show (v14 0 11) = nI (cl (g 0 11)) from (hk11_v14.trans hto)]; rfl)) (Nat.le_of_ble_eq_true rfl) ?_
                  obtain ⟨v15, ev15⟩ : ∃ x : Nat → Nat → Int32, x = (ct_readsPath_v15  g) := ⟨_, rfl⟩
                  have eq_v15 : (ug v14 1 (55 + 6 * (cl (g 0 11)) + 1) (v14 8 1)) = v15 := by rw [ev15, show (ct_readsPath_v15  g) = (ug (ct_readsPath_v14  g) 1 (55 + 6 * (cl (g 0 11)) + 1) ((ct_readsPath_v14  g) 8 1)) from rfl, ← ev14]
                  refine bv_weq (show (layM (ug v14 1 (55 + 6 * (cl (g 0 11)) + 1) (v14 8 1)) h) = (layM v15 h) from by rw [eq_v15]) ?_
                  have ht_v15 : tkI v15 := by rw [← eq_v15]; exact (tk_ug (by omega) ht_v14)
                  have hk11_v15 : v15 0 11 = g 0 11 := by rw [← eq_v15]; exact (ug_ne (by omega)).trans hk11_v14
                  have hk12_v15 : v15 0 12 = g 0 12 := by rw [← eq_v15]; exact (ug_ne (by omega)).trans hk12_v14
                  refine bv_blk C frk_X9 csk_X9 1 93 rfl (L1 := ([(1, .int ((1) + Int32.ofInt 1)), (0, .ref 0)] : Lc)) (st1 := ([] : List Value)) (w1 := (layM v15 h)) (by rfl) ?_
                  rw [show ((1) + Int32.ofInt 1) = (2) from by decide]
                  refine bv_goto (j := 77) C rfl rfl ?_
                  refine bv_blk C frk_X9 csk_X9 2 79 rfl (L1 := ([(1, .int (2)), (0, .ref 0)] : Lc)) (st1 := ([.int (6), .int (2)] : List Value)) (w1 := (layM v15 h)) (by rfl) ?_
                  refine bv_icmp_ge (j := 94) C rfl rfl (fun h => absurd h (by decide)) (fun _ => ?_)
                  refine bv_blk C frk_X9 csk_X9 2 82 rfl (L1 := ([(1, .int (2)), (0, .ref 0)] : Lc)) (st1 := ([.int (v15 0 12)] : List Value)) (w1 := (layM v15 h)) (by rfl) ?_
                  refine bv_if_eq (j := 94) C rfl rfl (fun h => absurd h (fun z => c34 (((hk12_v13).trans (hk12_v15).symm).trans z))) (fun _ => ?_)
                  refine bv_blk C frk_X9 csk_X9 7 90 rfl (L1 := ([(1, .int (2)), (0, .ref 0)] : Lc)) (st1 := ([.int (2), .ref 8, .int (2), .int (v15 0 11), .ref 0] : List Value)) (w1 := (layM v15 h)) (by rfl) ?_
                  refine bv_iald C rfl rfl (by decide) (j := 2) (by exact rfl) (by first | decide | omega) (by decide) (y := (v15 8 2)) (by rfl) ?_
                  refine bv_fV0 C rfl (ct_setsPath hE _ _ (cl (g 0 11)) 2 (v15 8 2) (by omega) (by omega)) ml_X9_173 im_X9_setsPath sel_X9_setsPath ini_X9 cd_X9_setsPath ok_X9_setsPath rfl ⟨Nat.le_of_ble_eq_true rfl, Nat.le_of_ble_eq_true rfl⟩ ⟨Nat.zero_le _, Nat.zero_le _⟩ (by decide) rfl rfl rfl (rest := ([] : List Value)) (by first | (rw [show (v15 0 11) = nI (cl (g 0 11)) from (hk11_v15.trans hto)]; done) | (rw [show (v15 0 11) = nI (cl (g 0 11)) from (hk11_v15.trans hto)]; rfl)) (Nat.le_of_ble_eq_true rfl) ?_
                  obtain ⟨v16, ev16⟩ : ∃ x : Nat → Nat → Int32, x = (ct_readsPath_v16  g) := ⟨_, rfl⟩
                  have eq_v16 : (ug v15 1 (55 + 6 * (cl (g 0 11)) + 2) (v15 8 2)) = v16 := by rw [ev16, show (ct_readsPath_v16  g) = (ug (ct_readsPath_v15  g) 1 (55 + 6 * (cl (g 0 11)) + 2) ((ct_readsPath_v15  g) 8 2)) from rfl, ← ev15]
                  refine bv_weq (show (layM (ug v15 1 (55 + 6 * (cl (g 0 11)) + 2) (v15 8 2)) h) = (layM v16 h) from by rw [eq_v16]) ?_
                  have ht_v16 : tkI v16 := by rw [← eq_v16]; exact (tk_ug (by omega) ht_v15)
                  have hk11_v16 : v16 0 11 = g 0 11 := by rw [← eq_v16]; exact (ug_ne (by omega)).trans hk11_v15
                  have hk12_v16 : v16 0 12 = g 0 12 := by rw [← eq_v16]; exact (ug_ne (by omega)).trans hk12_v15
                  refine bv_blk C frk_X9 csk_X9 1 93 rfl (L1 := ([(1, .int ((2) + Int32.ofInt 1)), (0, .ref 0)] : Lc)) (st1 := ([] : List Value)) (w1 := (layM v16 h)) (by rfl) ?_
                  rw [show ((2) + Int32.ofInt 1) = (3) from by decide]
                  refine bv_goto (j := 77) C rfl rfl ?_
                  refine bv_blk C frk_X9 csk_X9 2 79 rfl (L1 := ([(1, .int (3)), (0, .ref 0)] : Lc)) (st1 := ([.int (6), .int (3)] : List Value)) (w1 := (layM v16 h)) (by rfl) ?_
                  refine bv_icmp_ge (j := 94) C rfl rfl (fun h => absurd h (by decide)) (fun _ => ?_)
                  refine bv_blk C frk_X9 csk_X9 2 82 rfl (L1 := ([(1, .int (3)), (0, .ref 0)] : Lc)) (st1 := ([.int (v16 0 12)] : List Value)) (w1 := (layM v16 h)) (by rfl) ?_
                  refine bv_if_eq (j := 94) C rfl rfl (fun h => absurd h (fun z => c34 (((hk12_v13).trans (hk12_v16).symm).trans z))) (fun _ => ?_)
                  refine bv_blk C frk_X9 csk_X9 7 90 rfl (L1 := ([(1, .int (3)), (0, .ref 0)] : Lc)) (st1 := ([.int (3), .ref 8, .int (3), .int (v16 0 11), .ref 0] : List Value)) (w1 := (layM v16 h)) (by rfl) ?_
                  refine bv_iald C rfl rfl (by decide) (j := 3) (by exact rfl) (by first | decide | omega) (by decide) (y := (v16 8 3)) (by rfl) ?_
                  refine bv_fV0 C rfl (ct_setsPath hE _ _ (cl (g 0 11)) 3 (v16 8 3) (by omega) (by omega)) ml_X9_173 im_X9_setsPath sel_X9_setsPath ini_X9 cd_X9_setsPath ok_X9_setsPath rfl ⟨Nat.le_of_ble_eq_true rfl, Nat.le_of_ble_eq_true rfl⟩ ⟨Nat.zero_le _, Nat.zero_le _⟩ (by decide) rfl rfl rfl (rest := ([] : List Value)) (by first | (rw [show (v16 0 11) = nI (cl (g 0 11)) from (hk11_v16.trans hto)]; done) | (rw [show (v16 0 11) = nI (cl (g 0 11)) from (hk11_v16.trans hto)]; rfl)) (Nat.le_of_ble_eq_true rfl) ?_
                  obtain ⟨v17, ev17⟩ : ∃ x : Nat → Nat → Int32, x = (ct_readsPath_v17  g) := ⟨_, rfl⟩
                  have eq_v17 : (ug v16 1 (55 + 6 * (cl (g 0 11)) + 3) (v16 8 3)) = v17 := by rw [ev17, show (ct_readsPath_v17  g) = (ug (ct_readsPath_v16  g) 1 (55 + 6 * (cl (g 0 11)) + 3) ((ct_readsPath_v16  g) 8 3)) from rfl, ← ev16]
                  refine bv_weq (show (layM (ug v16 1 (55 + 6 * (cl (g 0 11)) + 3) (v16 8 3)) h) = (layM v17 h) from by rw [eq_v17]) ?_
                  have ht_v17 : tkI v17 := by rw [← eq_v17]; exact (tk_ug (by omega) ht_v16)
                  have hk11_v17 : v17 0 11 = g 0 11 := by rw [← eq_v17]; exact (ug_ne (by omega)).trans hk11_v16
                  have hk12_v17 : v17 0 12 = g 0 12 := by rw [← eq_v17]; exact (ug_ne (by omega)).trans hk12_v16
                  refine bv_blk C frk_X9 csk_X9 1 93 rfl (L1 := ([(1, .int ((3) + Int32.ofInt 1)), (0, .ref 0)] : Lc)) (st1 := ([] : List Value)) (w1 := (layM v17 h)) (by rfl) ?_
                  rw [show ((3) + Int32.ofInt 1) = (4) from by decide]
                  refine bv_goto (j := 77) C rfl rfl ?_
                  refine bv_blk C frk_X9 csk_X9 2 79 rfl (L1 := ([(1, .int (4)), (0, .ref 0)] : Lc)) (st1 := ([.int (6), .int (4)] : List Value)) (w1 := (layM v17 h)) (by rfl) ?_
                  refine bv_icmp_ge (j := 94) C rfl rfl (fun h => absurd h (by decide)) (fun _ => ?_)
                  refine bv_blk C frk_X9 csk_X9 2 82 rfl (L1 := ([(1, .int (4)), (0, .ref 0)] : Lc)) (st1 := ([.int (v17 0 12)] : List Value)) (w1 := (layM v17 h)) (by rfl) ?_
                  refine bv_if_eq (j := 94) C rfl rfl (fun h => absurd h (fun z => c34 (((hk12_v13).trans (hk12_v17).symm).trans z))) (fun _ => ?_)
                  refine bv_blk C frk_X9 csk_X9 7 90 rfl (L1 := ([(1, .int (4)), (0, .ref 0)] : Lc)) (st1 := ([.int (4), .ref 8, .int (4), .int (v17 0 11), .ref 0] : List Value)) (w1 := (layM v17 h)) (by rfl) ?_
                  refine bv_iald C rfl rfl (by decide) (j := 4) (by exact rfl) (by first | decide | omega) (by decide) (y := (v17 8 4)) (by rfl) ?_
                  refine bv_fV0 C rfl (ct_setsPath hE _ _ (cl (g 0 11)) 4 (v17 8 4) (by omega) (by omega)) ml_X9_173 im_X9_setsPath sel_X9_setsPath ini_X9 cd_X9_setsPath ok_X9_setsPath rfl ⟨Nat.le_of_ble_eq_true rfl, Nat.le_of_ble_eq_true rfl⟩ ⟨Nat.zero_le _, Nat.zero_le _⟩ (by decide) rfl rfl rfl (rest := ([] : List Value)) (by first | (rw [show (v17 0 11) = nI (cl (g 0 11)) from (hk11_v17.trans hto)]; done) | (rw [show (v17 0 11) = nI (cl (g 0 11)) from (hk11_v17.trans hto)]; rfl)) (Nat.le_of_ble_eq_true rfl) ?_
                  obtain ⟨v18, ev18⟩ : ∃ x : Nat → Nat → Int32, x = (ct_readsPath_v18  g) := ⟨_, rfl⟩
                  have eq_v18 : (ug v17 1 (55 + 6 * (cl (g 0 11)) + 4) (v17 8 4)) = v18 := by rw [ev18, show (ct_readsPath_v18  g) = (ug (ct_readsPath_v17  g) 1 (55 + 6 * (cl (g 0 11)) + 4) ((ct_readsPath_v17  g) 8 4)) from rfl, ← ev17]
                  refine bv_weq (show (layM (ug v17 1 (55 + 6 * (cl (g 0 11)) + 4) (v17 8 4)) h) = (layM v18 h) from by rw [eq_v18]) ?_
                  have ht_v18 : tkI v18 := by rw [← eq_v18]; exact (tk_ug (by omega) ht_v17)
                  have hk11_v18 : v18 0 11 = g 0 11 := by rw [← eq_v18]; exact (ug_ne (by omega)).trans hk11_v17
                  have hk12_v18 : v18 0 12 = g 0 12 := by rw [← eq_v18]; exact (ug_ne (by omega)).trans hk12_v17
                  refine bv_blk C frk_X9 csk_X9 1 93 rfl (L1 := ([(1, .int ((4) + Int32.ofInt 1)), (0, .ref 0)] : Lc)) (st1 := ([] : List Value)) (w1 := (layM v18 h)) (by rfl) ?_
                  rw [show ((4) + Int32.ofInt 1) = (5) from by decide]
                  refine bv_goto (j := 77) C rfl rfl ?_
                  refine bv_blk C frk_X9 csk_X9 2 79 rfl (L1 := ([(1, .int (5)), (0, .ref 0)] : Lc)) (st1 := ([.int (6), .int (5)] : List Value)) (w1 := (layM v18 h)) (by rfl) ?_
                  refine bv_icmp_ge (j := 94) C rfl rfl (fun h => absurd h (by decide)) (fun _ => ?_)
                  refine bv_blk C frk_X9 csk_X9 2 82 rfl (L1 := ([(1, .int (5)), (0, .ref 0)] : Lc)) (st1 := ([.int (v18 0 12)] : List Value)) (w1 := (layM v18 h)) (by rfl) ?_
                  refine bv_if_eq (j := 94) C rfl rfl (fun h => absurd h (fun z => c34 (((hk12_v13).trans (hk12_v18).symm).trans z))) (fun _ => ?_)
                  refine bv_blk C frk_X9 csk_X9 7 90 rfl (L1 := ([(1, .int (5)), (0, .ref 0)] : Lc)) (st1 := ([.int (5), .ref 8, .int (5), .int (v18 0 11), .ref 0] : List Value)) (w1 := (layM v18 h)) (by rfl) ?_
                  refine bv_iald C rfl rfl (by decide) (j := 5) (by exact rfl) (by first | decide | omega) (by decide) (y := (v18 8 5)) (by rfl) ?_
                  refine bv_fV0 C rfl (ct_setsPath hE _ _ (cl (g 0 11)) 5 (v18 8 5) (by omega) (by omega)) ml_X9_173 im_X9_setsPath sel_X9_setsPath ini_X9 cd_X9_setsPath ok_X9_setsPath rfl ⟨Nat.le_of_ble_eq_true rfl, Nat.le_of_ble_eq_true rfl⟩ ⟨Nat.zero_le _, Nat.zero_le _⟩ (by decide) rfl rfl rfl (rest := ([] : List Value)) (by first | (rw [show (v18 0 11) = nI (cl (g 0 11)) from (hk11_v18.trans hto)]; done) | (rw [show (v18 0 11) = nI (cl (g 0 11)) from (hk11_v18.trans hto)]; rfl)) (Nat.le_of_ble_eq_true rfl) ?_
                  obtain ⟨v19, ev19⟩ : ∃ x : Nat → Nat → Int32, x = (ct_readsPath_v19  g) := ⟨_, rfl⟩
                  have eq_v19 : (ug v18 1 (55 + 6 * (cl (g 0 11)) + 5) (v18 8 5)) = v19 := by rw [ev19, show (ct_readsPath_v19  g) = (ug (ct_readsPath_v18  g) 1 (55 + 6 * (cl (g 0 11)) + 5) ((ct_readsPath_v18  g) 8 5)) from rfl, ← ev18]
                  refine bv_weq (show (layM (ug v18 1 (55 + 6 * (cl (g 0 11)) + 5) (v18 8 5)) h) = (layM v19 h) from by rw [eq_v19]) ?_
                  have ht_v19 : tkI v19 := by rw [← eq_v19]; exact (tk_ug (by omega) ht_v18)
                  have hk11_v19 : v19 0 11 = g 0 11 := by rw [← eq_v19]; exact (ug_ne (by omega)).trans hk11_v18
                  have hk12_v19 : v19 0 12 = g 0 12 := by rw [← eq_v19]; exact (ug_ne (by omega)).trans hk12_v18
                  refine bv_blk C frk_X9 csk_X9 1 93 rfl (L1 := ([(1, .int ((5) + Int32.ofInt 1)), (0, .ref 0)] : Lc)) (st1 := ([] : List Value)) (w1 := (layM v19 h)) (by rfl) ?_
                  rw [show ((5) + Int32.ofInt 1) = (6) from by decide]
                  refine bv_goto (j := 77) C rfl rfl ?_
                  refine bv_blk C frk_X9 csk_X9 2 79 rfl (L1 := ([(1, .int (6)), (0, .ref 0)] : Lc)) (st1 := ([.int (6), .int (6)] : List Value)) (w1 := (layM v19 h)) (by rfl) ?_
                  refine bv_icmp_ge (j := 94) C rfl rfl (fun _ => ?_) (fun h => absurd h (by decide))
                  refine bv_blk C frk_X9 csk_X9 6 100 rfl (L1 := ([(1, .int (6)), (0, .ref 0)] : Lc)) (st1 := ([] : List Value)) (w1 := up2 (layM v19 h) 0 11 (.int ((v19 0 11) + (1)))) (by rfl) ?_
                  rw [lm_up rfl]
                  refine bv_blk C frk_X9 csk_X9 5 105 rfl (L1 := ([(1, .int (6)), (0, .ref 0)] : Lc)) (st1 := ([.int (v19 0 12), .int (12), .ref 1] : List Value)) (w1 := (layM (ug v19 0 11 ((v19 0 11) + (1))) h)) (by rfl) ?_
                  refine bv_if_eq (j := 109) C rfl rfl (fun h => absurd h (fun z => c34 (((hk12_v13).trans (hk12_v19).symm).trans z))) (fun _ => ?_)
                  refine bv_blk C frk_X9 csk_X9 2 108 rfl (L1 := ([(1, .int (6)), (0, .ref 0)] : Lc)) (st1 := ([.int ((v19 0 11) + (1)), .int (12), .ref 1] : List Value)) (w1 := (layM (ug v19 0 11 ((v19 0 11) + (1))) h)) (by rfl) ?_
                  refine bv_goto (j := 113) C rfl rfl ?_
                  refine bv_iast C rfl rfl (by decide) (j := 12) (by exact rfl) (by first | decide | omega) (by decide) ?_
                  rw [lm_up rfl]
                  refine bv_blk C frk_X9 csk_X9 1 115 rfl (L1 := ([(1, .int (6)), (0, .ref 0)] : Lc)) (st1 := ([.int (1)] : List Value)) (w1 := (layM (ug (ug v19 0 11 ((v19 0 11) + (1))) 1 12 ((v19 0 11) + (1))) h)) (by rfl) ?_
                  exact bv_iret C rfl hr rfl ⟨by (replace ev1 := ev1.symm; subst ev1; replace ev2 := ev2.symm; subst ev2; replace ev3 := ev3.symm; subst ev3; replace ev4 := ev4.symm; subst ev4; replace ev11 := ev11.symm; subst ev11; replace ev12 := ev12.symm; subst ev12; replace ev13 := ev13.symm; subst ev13; replace ev14 := ev14.symm; subst ev14; replace ev15 := ev15.symm; subst ev15; replace ev16 := ev16.symm; subst ev16; replace ev17 := ev17.symm; subst ev17; replace ev18 := ev18.symm; subst ev18; replace ev19 := ev19.symm; subst ev19; exact congrArg (fun x => some (Value.int x)) (((if_neg c1).trans ((if_neg c4).trans ((if_neg c7).trans ((if_neg c10).trans ((if_neg c12).trans ((if_neg c29).trans ((if_neg c31).trans rfl)))))))).symm), by (replace ev1 := ev1.symm; subst ev1; replace ev2 := ev2.symm; subst ev2; replace ev3 := ev3.symm; subst ev3; replace ev4 := ev4.symm; subst ev4; replace ev11 := ev11.symm; subst ev11; replace ev12 := ev12.symm; subst ev12; replace ev13 := ev13.symm; subst ev13; replace ev14 := ev14.symm; subst ev14; replace ev15 := ev15.symm; subst ev15; replace ev16 := ev16.symm; subst ev16; replace ev17 := ev17.symm; subst ev17; replace ev18 := ev18.symm; subst ev18; replace ev19 := ev19.symm; subst ev19; exact congrArg (fun x => (layM x h)) (((if_neg c1).trans ((if_neg c4).trans ((if_neg c7).trans ((if_neg c10).trans ((if_neg c12).trans ((if_neg c29).trans ((if_neg c31).trans ((if_neg c34).trans rfl))))))))).symm)⟩
              · refine bv_blk C frk_X9 csk_X9 1 66 rfl (L1 := ([(1, .int (5)), (0, .ref 0)] : Lc)) (st1 := ([.int (0)] : List Value)) (w1 := (layM v13 h)) (by rfl) ?_
                exact bv_iret C rfl hr rfl ⟨by (replace ev1 := ev1.symm; subst ev1; replace ev2 := ev2.symm; subst ev2; replace ev3 := ev3.symm; subst ev3; replace ev4 := ev4.symm; subst ev4; replace ev11 := ev11.symm; subst ev11; replace ev12 := ev12.symm; subst ev12; replace ev13 := ev13.symm; subst ev13; exact congrArg (fun x => some (Value.int x)) (((if_neg c1).trans ((if_neg c4).trans ((if_neg c7).trans ((if_neg c10).trans ((if_neg c12).trans ((if_neg c29).trans ((if_pos c31).trans rfl)))))))).symm), by (replace ev1 := ev1.symm; subst ev1; replace ev2 := ev2.symm; subst ev2; replace ev3 := ev3.symm; subst ev3; replace ev4 := ev4.symm; subst ev4; replace ev11 := ev11.symm; subst ev11; replace ev12 := ev12.symm; subst ev12; replace ev13 := ev13.symm; subst ev13; exact congrArg (fun x => (layM x h)) (((if_neg c1).trans ((if_neg c4).trans ((if_neg c7).trans ((if_neg c10).trans ((if_neg c12).trans ((if_neg c29).trans ((if_pos c31).trans rfl)))))))).symm)⟩
            · refine bv_blk C frk_X9 csk_X9 1 66 rfl (L1 := ([(1, .int (4)), (0, .ref 0)] : Lc)) (st1 := ([.int (0)] : List Value)) (w1 := (layM v12 h)) (by rfl) ?_
              exact bv_iret C rfl hr rfl ⟨by (replace ev1 := ev1.symm; subst ev1; replace ev2 := ev2.symm; subst ev2; replace ev3 := ev3.symm; subst ev3; replace ev4 := ev4.symm; subst ev4; replace ev11 := ev11.symm; subst ev11; replace ev12 := ev12.symm; subst ev12; exact congrArg (fun x => some (Value.int x)) (((if_neg c1).trans ((if_neg c4).trans ((if_neg c7).trans ((if_neg c10).trans ((if_neg c12).trans ((if_pos c29).trans rfl))))))).symm), by (replace ev1 := ev1.symm; subst ev1; replace ev2 := ev2.symm; subst ev2; replace ev3 := ev3.symm; subst ev3; replace ev4 := ev4.symm; subst ev4; replace ev11 := ev11.symm; subst ev11; replace ev12 := ev12.symm; subst ev12; exact congrArg (fun x => (layM x h)) (((if_neg c1).trans ((if_neg c4).trans ((if_neg c7).trans ((if_neg c10).trans ((if_neg c12).trans ((if_pos c29).trans rfl))))))).symm)⟩
        · refine bv_blk C frk_X9 csk_X9 1 25 rfl (L1 := ([(1, .int (2)), (0, .ref 0)] : Lc)) (st1 := ([.int (0)] : List Value)) (w1 := (layM v4 h)) (by rfl) ?_
          exact bv_iret C rfl hr rfl ⟨by (replace ev1 := ev1.symm; subst ev1; replace ev2 := ev2.symm; subst ev2; replace ev3 := ev3.symm; subst ev3; replace ev4 := ev4.symm; subst ev4; exact congrArg (fun x => some (Value.int x)) (((if_neg c1).trans ((if_neg c4).trans ((if_neg c7).trans ((if_pos c10).trans rfl))))).symm), by (replace ev1 := ev1.symm; subst ev1; replace ev2 := ev2.symm; subst ev2; replace ev3 := ev3.symm; subst ev3; replace ev4 := ev4.symm; subst ev4; exact congrArg (fun x => (layM x h)) (((if_neg c1).trans ((if_neg c4).trans ((if_neg c7).trans ((if_pos c10).trans rfl))))).symm)⟩
      · refine bv_blk C frk_X9 csk_X9 1 25 rfl (L1 := ([(1, .int (1)), (0, .ref 0)] : Lc)) (st1 := ([.int (0)] : List Value)) (w1 := (layM v3 h)) (by rfl) ?_
        exact bv_iret C rfl hr rfl ⟨by (replace ev1 := ev1.symm; subst ev1; replace ev2 := ev2.symm; subst ev2; replace ev3 := ev3.symm; subst ev3; exact congrArg (fun x => some (Value.int x)) (((if_neg c1).trans ((if_neg c4).trans ((if_pos c7).trans rfl)))).symm), by (replace ev1 := ev1.symm; subst ev1; replace ev2 := ev2.symm; subst ev2; replace ev3 := ev3.symm; subst ev3; exact congrArg (fun x => (layM x h)) (((if_neg c1).trans ((if_neg c4).trans ((if_pos c7).trans rfl)))).symm)⟩
    · refine bv_blk C frk_X9 csk_X9 1 25 rfl (L1 := ([(1, .int (0)), (0, .ref 0)] : Lc)) (st1 := ([.int (0)] : List Value)) (w1 := (layM v2 h)) (by rfl) ?_
      exact bv_iret C rfl hr rfl ⟨by (replace ev1 := ev1.symm; subst ev1; replace ev2 := ev2.symm; subst ev2; exact congrArg (fun x => some (Value.int x)) (((if_neg c1).trans ((if_pos c4).trans rfl))).symm), by (replace ev1 := ev1.symm; subst ev1; replace ev2 := ev2.symm; subst ev2; exact congrArg (fun x => (layM x h)) (((if_neg c1).trans ((if_pos c4).trans rfl))).symm)⟩
  · refine bv_blk C frk_X9 csk_X9 1 5 rfl (L1 := ([(0, .ref 0)] : Lc)) (st1 := ([.int (0)] : List Value)) (w1 := (layM g h)) (by rfl) ?_
    exact bv_iret C rfl hr rfl ⟨by (exact congrArg (fun x => some (Value.int x)) (((if_pos c1).trans rfl)).symm), by (exact congrArg (fun x => (layM x h)) (((if_pos c1).trans rfl)).symm)⟩
theorem clo_ct_readsPath {P : (Nat → Nat → Int32) → Prop} (hP : clo P) {g : Nat → Nat → Int32} (h0 : P g) : P (ct_readsPath_w g) := by
  have h_v1 : P (ct_readsPath_v1 g) := (hP.1 _ h0)
  have h_v2 : P (ct_readsPath_v2 g) := (hP.2.1 _ _ _ _ h_v1)
  have h_v3 : P (ct_readsPath_v3 g) := (hP.2.1 _ _ _ _ (hP.2.2.2 _ 8 0 ((ct_readsPath_v2  g) 0 16) (by omega) h_v2))
  have h_v4 : P (ct_readsPath_v4 g) := (hP.2.1 _ _ _ _ (hP.2.2.2 _ 8 1 ((ct_readsPath_v3  g) 0 16) (by omega) h_v3))
  have h_v5 : P (ct_readsPath_v5 g) := (hP.2.2.2 _ 1 (55 + 6 * (cl (g 0 11)) + 0) ((ct_readsPath_v4  g) 8 0) (by omega) (hP.2.2.2 _ 8 5 (0) (by omega) (hP.2.2.2 _ 8 4 (0) (by omega) (hP.2.2.2 _ 8 3 (0) (by omega) (hP.2.2.2 _ 8 2 ((ct_readsPath_v4  g) 0 16) (by omega) h_v4)))))
  have h_v6 : P (ct_readsPath_v6 g) := (hP.2.2.2 _ 1 (55 + 6 * (cl (g 0 11)) + 1) ((ct_readsPath_v5  g) 8 1) (by omega) h_v5)
  have h_v7 : P (ct_readsPath_v7 g) := (hP.2.2.2 _ 1 (55 + 6 * (cl (g 0 11)) + 2) ((ct_readsPath_v6  g) 8 2) (by omega) h_v6)
  have h_v8 : P (ct_readsPath_v8 g) := (hP.2.2.2 _ 1 (55 + 6 * (cl (g 0 11)) + 3) ((ct_readsPath_v7  g) 8 3) (by omega) h_v7)
  have h_v9 : P (ct_readsPath_v9 g) := (hP.2.2.2 _ 1 (55 + 6 * (cl (g 0 11)) + 4) ((ct_readsPath_v8  g) 8 4) (by omega) h_v8)
  have h_v10 : P (ct_readsPath_v10 g) := (hP.2.2.2 _ 1 (55 + 6 * (cl (g 0 11)) + 5) ((ct_readsPath_v9  g) 8 5) (by omega) h_v9)
  have h_v11 : P (ct_readsPath_v11 g) := (hP.1 _ (hP.2.2.2 _ 8 5 (0) (by omega) (hP.2.2.2 _ 8 4 (0) (by omega) (hP.2.2.2 _ 8 3 (0) (by omega) (hP.2.2.2 _ 8 2 ((ct_readsPath_v4  g) 0 16) (by omega) h_v4)))))
  have h_v12 : P (ct_readsPath_v12 g) := (hP.2.2.1 _ _ _ h_v11)
  have h_v13 : P (ct_readsPath_v13 g) := (hP.2.2.1 _ _ _ (hP.2.2.2 _ 8 4 ((ct_readsPath_v12  g) 0 16) (by omega) h_v12))
  have h_v14 : P (ct_readsPath_v14 g) := (hP.2.2.2 _ 1 (55 + 6 * (cl (g 0 11)) + 0) ((ct_readsPath_v13  g) 8 0) (by omega) (hP.2.2.2 _ 8 5 ((ct_readsPath_v13  g) 0 16) (by omega) h_v13))
  have h_v15 : P (ct_readsPath_v15 g) := (hP.2.2.2 _ 1 (55 + 6 * (cl (g 0 11)) + 1) ((ct_readsPath_v14  g) 8 1) (by omega) h_v14)
  have h_v16 : P (ct_readsPath_v16 g) := (hP.2.2.2 _ 1 (55 + 6 * (cl (g 0 11)) + 2) ((ct_readsPath_v15  g) 8 2) (by omega) h_v15)
  have h_v17 : P (ct_readsPath_v17 g) := (hP.2.2.2 _ 1 (55 + 6 * (cl (g 0 11)) + 3) ((ct_readsPath_v16  g) 8 3) (by omega) h_v16)
  have h_v18 : P (ct_readsPath_v18 g) := (hP.2.2.2 _ 1 (55 + 6 * (cl (g 0 11)) + 4) ((ct_readsPath_v17  g) 8 4) (by omega) h_v17)
  have h_v19 : P (ct_readsPath_v19 g) := (hP.2.2.2 _ 1 (55 + 6 * (cl (g 0 11)) + 5) ((ct_readsPath_v18  g) 8 5) (by omega) h_v18)
  unfold ct_readsPath_w
  exact (iteP (P := P) h0 (iteP (P := P) h_v2 (iteP (P := P) h_v3 (iteP (P := P) h_v4 (iteP (P := P) (iteP (P := P) (hP.2.2.2 _ 1 12 ((ct_readsPath_v4  g) 1 12) (by omega) (hP.2.2.2 _ 0 11 (((ct_readsPath_v4  g) 0 11) + (1)) (by omega) (hP.2.2.2 _ 8 5 (0) (by omega) (hP.2.2.2 _ 8 4 (0) (by omega) (hP.2.2.2 _ 8 3 (0) (by omega) (hP.2.2.2 _ 8 2 ((ct_readsPath_v4  g) 0 16) (by omega) h_v4)))))) (hP.2.2.2 _ 1 12 (((ct_readsPath_v10  g) 0 11) + (1)) (by omega) (hP.2.2.2 _ 0 11 (((ct_readsPath_v10  g) 0 11) + (1)) (by omega) h_v10))) (iteP (P := P) h_v12 (iteP (P := P) h_v13 (iteP (P := P) (hP.2.2.2 _ 1 12 ((ct_readsPath_v13  g) 1 12) (by omega) (hP.2.2.2 _ 0 11 (((ct_readsPath_v13  g) 0 11) + (1)) (by omega) (hP.2.2.2 _ 8 5 ((ct_readsPath_v13  g) 0 16) (by omega) h_v13))) (hP.2.2.2 _ 1 12 (((ct_readsPath_v19  g) 0 11) + (1)) (by omega) (hP.2.2.2 _ 0 11 (((ct_readsPath_v19  g) 0 11) + (1)) (by omega) h_v19))))))))))
theorem ct_readsPath_01 {g : Nat → Nat → Int32} : ct_readsPath_r g = 0 ∨ ct_readsPath_r g = 1 := by
  unfold ct_readsPath_r
  exact (ite01 (Or.inl rfl) (ite01 (Or.inl rfl) (ite01 (Or.inl rfl) (ite01 (Or.inl rfl) (ite01 (Or.inr rfl) (ite01 (Or.inl rfl) (ite01 (Or.inl rfl) (Or.inr rfl))))))))
