theorem nar_z {x : Int32} (h : x = 0 ∨ x = 1) : narrow .boolean (.int x) = .int x := by rcases h with rfl | rfl <;> rfl
def ct_readsItem_r  (g : Nat → Nat → Int32) : Int32 := (if (b2i (iwB 0 g)) = 0 then (if (b2i (iwB 1 g)) = 0 then (if (b2i (iwB 3 g)) = 0 then (if (b2i (iwB 4 g)) = 0 then (if (b2i (iwB 5 g)) = 0 then (0) else (if (ct_set10_r g) = 0 then (0) else (1))) else (ct_set7_r g)) else (ct_set6_r g)) else (ct_readsPath_r g)) else (ct_readsStation_r g))
def ct_readsItem_w  (g : Nat → Nat → Int32) : Nat → Nat → Int32 := (if (b2i (iwB 0 g)) = 0 then (if (b2i (iwB 1 g)) = 0 then (if (b2i (iwB 3 g)) = 0 then (if (b2i (iwB 4 g)) = 0 then (if (b2i (iwB 5 g)) = 0 then g else (ct_set10_w g)) else (ct_set7_w g)) else (ct_set6_w g)) else (ct_readsPath_w g)) else (ct_readsStation_w g))
set_option maxRecDepth 100000 in
set_option maxHeartbeats 8000000 in
theorem ct_readsItem {l : Launch} {D : va_G} {cA : FieldType → ClassId} {z0 : Nat} {SK SV : Nat → Nat} {ad : Nat → Nat} (hE : aD (fun q => z0 ≤ q) ad 9) (g : Nat → Nat → Int32) (h : Int64)  (ht : tkI g) (hto : g 0 11 = nI (cl (g 0 11))) (hto8 : cl (g 0 11) ≤ 8) : bF l D cA z0 SK SV ad shM 9 yX9_readsItem cX9_readsItem 1 (some .boolean) 6 [.ref 0] (layM g h) (some (.int (ct_readsItem_r  g))) (layM (ct_readsItem_w  g) h) := by
  refine bCT_intro (tb := tb_X9_readsItem) (own := RX9) hE pn_X9 rfl tk_X9_readsItem rfl (Nat.le_of_ble_eq_true rfl) ?_
  intro p e s0 m args below meth c C hr
  refine bv_blk C frk_X9 csk_X9 2 2 rfl (L1 := ([(0, .ref 0)] : Lc)) (st1 := ([.int (0), .ref 0] : List Value)) (w1 := (layM g h)) (by rfl) ?_
  refine bv_fV1 C rfl (cu_word hE g _ 0 ht (by omega)) ml_X9_234 im_X9_isWord sel_X9_isWord ini_X9 cd_X9_isWord ok_X9_isWord rfl ⟨Nat.le_of_ble_eq_true rfl, Nat.le_of_ble_eq_true rfl⟩ ⟨Nat.zero_le _, Nat.zero_le _⟩ (by decide) rfl rfl rfl (rest := ([] : List Value)) rfl (Nat.le_of_ble_eq_true rfl) ?_
  refine bv_if_eq (j := 7) C rfl rfl (fun c1 => ?_) (fun c1 => ?_)
  · refine bv_blk C frk_X9 csk_X9 2 9 rfl (L1 := ([(0, .ref 0)] : Lc)) (st1 := ([.int (1), .ref 0] : List Value)) (w1 := (layM g h)) (by rfl) ?_
    refine bv_fV1 C rfl (cu_word hE g _ 1 ht (by omega)) ml_X9_234 im_X9_isWord sel_X9_isWord ini_X9 cd_X9_isWord ok_X9_isWord rfl ⟨Nat.le_of_ble_eq_true rfl, Nat.le_of_ble_eq_true rfl⟩ ⟨Nat.zero_le _, Nat.zero_le _⟩ (by decide) rfl rfl rfl (rest := ([] : List Value)) rfl (Nat.le_of_ble_eq_true rfl) ?_
    refine bv_if_eq (j := 14) C rfl rfl (fun c2 => ?_) (fun c2 => ?_)
    · refine bv_blk C frk_X9 csk_X9 2 16 rfl (L1 := ([(0, .ref 0)] : Lc)) (st1 := ([.int (3), .ref 0] : List Value)) (w1 := (layM g h)) (by rfl) ?_
      refine bv_fV1 C rfl (cu_word hE g _ 3 ht (by omega)) ml_X9_234 im_X9_isWord sel_X9_isWord ini_X9 cd_X9_isWord ok_X9_isWord rfl ⟨Nat.le_of_ble_eq_true rfl, Nat.le_of_ble_eq_true rfl⟩ ⟨Nat.zero_le _, Nat.zero_le _⟩ (by decide) rfl rfl rfl (rest := ([] : List Value)) rfl (Nat.le_of_ble_eq_true rfl) ?_
      refine bv_if_eq (j := 24) C rfl rfl (fun c3 => ?_) (fun c3 => ?_)
      · refine bv_blk C frk_X9 csk_X9 2 26 rfl (L1 := ([(0, .ref 0)] : Lc)) (st1 := ([.int (4), .ref 0] : List Value)) (w1 := (layM g h)) (by rfl) ?_
        refine bv_fV1 C rfl (cu_word hE g _ 4 ht (by omega)) ml_X9_234 im_X9_isWord sel_X9_isWord ini_X9 cd_X9_isWord ok_X9_isWord rfl ⟨Nat.le_of_ble_eq_true rfl, Nat.le_of_ble_eq_true rfl⟩ ⟨Nat.zero_le _, Nat.zero_le _⟩ (by decide) rfl rfl rfl (rest := ([] : List Value)) rfl (Nat.le_of_ble_eq_true rfl) ?_
        refine bv_if_eq (j := 34) C rfl rfl (fun c4 => ?_) (fun c4 => ?_)
        · refine bv_blk C frk_X9 csk_X9 2 36 rfl (L1 := ([(0, .ref 0)] : Lc)) (st1 := ([.int (5), .ref 0] : List Value)) (w1 := (layM g h)) (by rfl) ?_
          refine bv_fV1 C rfl (cu_word hE g _ 5 ht (by omega)) ml_X9_234 im_X9_isWord sel_X9_isWord ini_X9 cd_X9_isWord ok_X9_isWord rfl ⟨Nat.le_of_ble_eq_true rfl, Nat.le_of_ble_eq_true rfl⟩ ⟨Nat.zero_le _, Nat.zero_le _⟩ (by decide) rfl rfl rfl (rest := ([] : List Value)) rfl (Nat.le_of_ble_eq_true rfl) ?_
          refine bv_if_eq (j := 46) C rfl rfl (fun c5 => ?_) (fun c5 => ?_)
          · refine bv_blk C frk_X9 csk_X9 1 47 rfl (L1 := ([(0, .ref 0)] : Lc)) (st1 := ([.int (0)] : List Value)) (w1 := (layM g h)) (by rfl) ?_
            exact bv_iret C rfl hr rfl ⟨by (exact congrArg (fun x => some (Value.int x)) (((if_pos c1).trans ((if_pos c2).trans ((if_pos c3).trans ((if_pos c4).trans ((if_pos c5).trans rfl)))))).symm), by (exact congrArg (fun x => (layM x h)) (((if_pos c1).trans ((if_pos c2).trans ((if_pos c3).trans ((if_pos c4).trans ((if_pos c5).trans rfl)))))).symm)⟩
          · refine bv_blk C frk_X9 csk_X9 4 42 rfl (L1 := ([(0, .ref 0)] : Lc)) (st1 := ([.int (9), .int (1), .int (10), .ref 0] : List Value)) (w1 := (layM g h)) (by rfl) ?_
            refine bv_fV1 C rfl (ct_set10 hE g _ ht) ml_X9_248 im_X9_readsSetting sel_X9_readsSetting ini_X9 cd_X9_readsSetting ok_X9_readsSetting rfl ⟨Nat.le_of_ble_eq_true rfl, Nat.le_of_ble_eq_true rfl⟩ ⟨Nat.zero_le _, Nat.zero_le _⟩ (by decide) rfl rfl rfl (rest := ([] : List Value)) rfl (Nat.le_of_ble_eq_true rfl) ?_
            refine bv_if_eq (j := 46) C rfl rfl (fun c6 => ?_) (fun c6 => ?_)
            · refine bv_blk C frk_X9 csk_X9 1 47 rfl (L1 := ([(0, .ref 0)] : Lc)) (st1 := ([.int (0)] : List Value)) (w1 := (layM (ct_set10_w g) h)) (by rfl) ?_
              exact bv_iret C rfl hr rfl ⟨by (exact congrArg (fun x => some (Value.int x)) (((if_pos c1).trans ((if_pos c2).trans ((if_pos c3).trans ((if_pos c4).trans ((if_neg c5).trans ((if_pos c6).trans rfl))))))).symm), by (exact congrArg (fun x => (layM x h)) (((if_pos c1).trans ((if_pos c2).trans ((if_pos c3).trans ((if_pos c4).trans ((if_neg c5).trans rfl)))))).symm)⟩
            · refine bv_blk C frk_X9 csk_X9 1 45 rfl (L1 := ([(0, .ref 0)] : Lc)) (st1 := ([.int (1)] : List Value)) (w1 := (layM (ct_set10_w g) h)) (by rfl) ?_
              refine bv_goto (j := 47) C rfl rfl ?_
              exact bv_iret C rfl hr rfl ⟨by (exact congrArg (fun x => some (Value.int x)) (((if_pos c1).trans ((if_pos c2).trans ((if_pos c3).trans ((if_pos c4).trans ((if_neg c5).trans ((if_neg c6).trans rfl))))))).symm), by (exact congrArg (fun x => (layM x h)) (((if_pos c1).trans ((if_pos c2).trans ((if_pos c3).trans ((if_pos c4).trans ((if_neg c5).trans rfl)))))).symm)⟩
        · refine bv_blk C frk_X9 csk_X9 4 32 rfl (L1 := ([(0, .ref 0)] : Lc)) (st1 := ([.int (60), .int (0), .int (7), .ref 0] : List Value)) (w1 := (layM g h)) (by rfl) ?_
          refine bv_fV1 C rfl (ct_set7 hE g _ ht) ml_X9_248 im_X9_readsSetting sel_X9_readsSetting ini_X9 cd_X9_readsSetting ok_X9_readsSetting rfl ⟨Nat.le_of_ble_eq_true rfl, Nat.le_of_ble_eq_true rfl⟩ ⟨Nat.zero_le _, Nat.zero_le _⟩ (by decide) rfl rfl rfl (rest := ([] : List Value)) rfl (Nat.le_of_ble_eq_true rfl) ?_
          exact bv_iret C rfl hr (nar_z ct_set7_01) ⟨by (exact congrArg (fun x => some (Value.int x)) (((if_pos c1).trans ((if_pos c2).trans ((if_pos c3).trans ((if_neg c4).trans rfl))))).symm), by (exact congrArg (fun x => (layM x h)) (((if_pos c1).trans ((if_pos c2).trans ((if_pos c3).trans ((if_neg c4).trans rfl))))).symm)⟩
      · refine bv_blk C frk_X9 csk_X9 4 22 rfl (L1 := ([(0, .ref 0)] : Lc)) (st1 := ([.int (200), .int (-200), .int (6), .ref 0] : List Value)) (w1 := (layM g h)) (by rfl) ?_
        refine bv_fV1 C rfl (ct_set6 hE g _ ht) ml_X9_248 im_X9_readsSetting sel_X9_readsSetting ini_X9 cd_X9_readsSetting ok_X9_readsSetting rfl ⟨Nat.le_of_ble_eq_true rfl, Nat.le_of_ble_eq_true rfl⟩ ⟨Nat.zero_le _, Nat.zero_le _⟩ (by decide) rfl rfl rfl (rest := ([] : List Value)) rfl (Nat.le_of_ble_eq_true rfl) ?_
        exact bv_iret C rfl hr (nar_z ct_set6_01) ⟨by (exact congrArg (fun x => some (Value.int x)) (((if_pos c1).trans ((if_pos c2).trans ((if_neg c3).trans rfl)))).symm), by (exact congrArg (fun x => (layM x h)) (((if_pos c1).trans ((if_pos c2).trans ((if_neg c3).trans rfl)))).symm)⟩
    · refine bv_blk C frk_X9 csk_X9 1 12 rfl (L1 := ([(0, .ref 0)] : Lc)) (st1 := ([.ref 0] : List Value)) (w1 := (layM g h)) (by rfl) ?_
      refine bv_fV1 C rfl (ct_readsPath hE g _ ht hto hto8) ml_X9_245 im_X9_readsPath sel_X9_readsPath ini_X9 cd_X9_readsPath ok_X9_readsPath rfl ⟨Nat.le_of_ble_eq_true rfl, Nat.le_of_ble_eq_true rfl⟩ ⟨Nat.zero_le _, Nat.zero_le _⟩ (by decide) rfl rfl rfl (rest := ([] : List Value)) rfl (Nat.le_of_ble_eq_true rfl) ?_
      exact bv_iret C rfl hr (nar_z ct_readsPath_01) ⟨by (exact congrArg (fun x => some (Value.int x)) (((if_pos c1).trans ((if_neg c2).trans rfl))).symm), by (exact congrArg (fun x => (layM x h)) (((if_pos c1).trans ((if_neg c2).trans rfl))).symm)⟩
  · refine bv_blk C frk_X9 csk_X9 1 5 rfl (L1 := ([(0, .ref 0)] : Lc)) (st1 := ([.ref 0] : List Value)) (w1 := (layM g h)) (by rfl) ?_
    refine bv_fV1 C rfl (ct_readsStation hE g _ ht) ml_X9_241 im_X9_readsStation sel_X9_readsStation ini_X9 cd_X9_readsStation ok_X9_readsStation rfl ⟨Nat.le_of_ble_eq_true rfl, Nat.le_of_ble_eq_true rfl⟩ ⟨Nat.zero_le _, Nat.zero_le _⟩ (by decide) rfl rfl rfl (rest := ([] : List Value)) rfl (Nat.le_of_ble_eq_true rfl) ?_
    exact bv_iret C rfl hr (nar_z ct_readsStation_01) ⟨by (exact congrArg (fun x => some (Value.int x)) (((if_neg c1).trans rfl)).symm), by (exact congrArg (fun x => (layM x h)) (((if_neg c1).trans rfl)).symm)⟩
theorem clo_ct_readsItem {P : (Nat → Nat → Int32) → Prop} (hP : clo P) {g : Nat → Nat → Int32} (h0 : P g) : P (ct_readsItem_w g) := by
  unfold ct_readsItem_w
  exact (iteP (P := P) (iteP (P := P) (iteP (P := P) (iteP (P := P) (iteP (P := P) h0 (clo_ct_set10 hP h0)) (clo_ct_set7 hP h0)) (clo_ct_set6 hP h0)) (clo_ct_readsPath hP h0)) (clo_ct_readsStation hP h0))
theorem ct_readsItem_01 {g : Nat → Nat → Int32} : ct_readsItem_r g = 0 ∨ ct_readsItem_r g = 1 := by
  unfold ct_readsItem_r
  exact (ite01 (ite01 (ite01 (ite01 (ite01 (Or.inl rfl) (ite01 (Or.inl rfl) (Or.inr rfl))) ct_set7_01) ct_set6_01) ct_readsPath_01) ct_readsStation_01)
