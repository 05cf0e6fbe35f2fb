def shK3 : Sh := fun _ => .inr (3, 6)
def shK0 : Sh := fun i => match i with
  | 0 => .inr (0, 4)
  | _ => .inl (.int, 3)
def shK1 : Sh := fun i => match i with
  | 0 => .inr (1, 4)
  | _ => .inl (.int, 20)
def shK2 : Sh := fun i => match i with
  | 0 => .inr (2, 1)
  | _ => .inl (.int, 256)
def shK5 : Sh := fun i => match i with
  | 0 => .inr (4, 5)
  | _ => .inl (.char, 120)
def layK0 : Wd := fun i k => match i with
  | 0 => (match k with
    | 0 => .ref 1
    | 1 => .ref 2
    | 2 => .ref 3
    | _ => .int 0)
  | _ => .int 0
def layK2 : Wd := fun i _ => match i with
  | 0 => .ref 1
  | _ => .int 0
def layK5 : Wd := fun i k => match i with
  | 0 => (match k with
    | 0 => .ref 1
    | 4 => .int (-100000)
    | _ => .int 0)
  | _ => .int 0
def zG : Nat → Nat → Int32 := fun _ _ => 0
def g0S : Nat → Nat → Int32 := zG
def kw_X3_0 : Wd := fun _ k => defaultValue (tyX3 k)
set_option maxRecDepth 100000 in
set_option maxHeartbeats 8000000 in
theorem ki_X3 {l : Launch} {D : va_G} {cA : FieldType → ClassId} {z0 : Nat} {SK : Nat → Nat} {SV : Nat → Int32} : bCN l D cA z0 SK SV yX3_init cX3_init 1 1 0 0 shK3 kw_X3_0 1 kw_X3_0 := by
  refine bCN_intro (tb := tb_X3_init) (own := RX3) pn_X3 rfl tk_X3_init rfl (Nat.le_of_ble_eq_true rfl) rfl ?_
  intro a sz p e s m args below meth c hA C hr hin hAO
  refine bv_blk C frk_X3 csk_X3 1 1 rfl (L1 := ([(0, .ref 0)] : Lc)) (st1 := ([.ref 0] : List Value)) (w1 := kw_X3_0) (by rfl) ?_
  refine bv_obj C rfl (mw (mT_1 115 rfl) rfl) (mw (mT_1 17 rfl) rfl) (mw (mT_1 18 rfl) rfl) ⟨Nat.le_of_ble_eq_true rfl, Nat.le_of_ble_eq_true rfl⟩ ?_
  exact bv_vretN C rfl hr (rfl)
def kw_X0_0 : Wd := fun _ k => defaultValue (tyX0 k)
def kw_X0_1 : Wd := extW kw_X0_0 1 (fun _ => defaultValue .int)
def kw_X0_2 : Wd := up2 kw_X0_1 0 0 (.ref 1)
def kw_X0_3 : Wd := extW kw_X0_2 2 (fun _ => defaultValue .int)
def kw_X0_4 : Wd := up2 kw_X0_3 0 1 (.ref 2)
def kw_X0_5 : Wd := extW kw_X0_4 3 (fun _ => defaultValue .int)
def kw_X0_6 : Wd := up2 kw_X0_5 0 2 (.ref 3)
def kw_X0_7 : Wd := up2 kw_X0_6 0 3 (.int (0))
set_option maxRecDepth 100000 in
set_option maxHeartbeats 8000000 in
theorem ki_X0 {l : Launch} {D : va_G} {cA : FieldType → ClassId} {z0 : Nat} {SK : Nat → Nat} {SV : Nat → Int32} : bCN l D cA z0 SK SV yX0_init cX0_init 1 1 3 9 shK0 kw_X0_0 4 layK0 := by
  refine bCN_intro (tb := tb_X0_init) (own := RX0) pn_X0 rfl tk_X0_init rfl (Nat.le_of_ble_eq_true rfl) rfl ?_
  intro a sz p e s m args below meth c hA C hr hin hAO
  refine bv_blk C frk_X0 csk_X0 1 1 rfl (L1 := ([(0, .ref 0)] : Lc)) (st1 := ([.ref 0] : List Value)) (w1 := kw_X0_0) (by rfl) ?_
  refine bv_obj C rfl (mw (mT_1 63 rfl) rfl) (mw (mT_1 17 rfl) rfl) (mw (mT_1 18 rfl) rfl) ⟨Nat.le_of_ble_eq_true rfl, Nat.le_of_ble_eq_true rfl⟩ ?_
  refine bv_blk C frk_X0 csk_X0 2 4 rfl (L1 := ([(0, .ref 0)] : Lc)) (st1 := ([.int (3), .ref 0] : List Value)) (w1 := kw_X0_0) (by rfl) ?_
  refine bv_newaC (N := 1) (n := 3) (t0 := 0) (ty := .int) (w1 := kw_X0_1) C rfl rfl (by decide) rfl (mw (mT_1 55 rfl) rfl) hA rfl rfl (by decide) (by decide +kernel) rfl rfl (by decide) rfl (by decide) (fun ad1 hg1 => ?_)
  refine bv_putF (ty := .array .int) C rfl cl_X0 fl_X0_9 (by decide) rfl hin rfl (by decide +kernel) rfl rfl rfl (by decide) (by decide) ?_
  refine bv_weq (w2 := kw_X0_2) rfl ?_
  refine bv_blk C frk_X0 csk_X0 2 8 rfl (L1 := ([(0, .ref 0)] : Lc)) (st1 := ([.int (3), .ref 0] : List Value)) (w1 := kw_X0_2) (by rfl) ?_
  refine bv_newaC (N := 2) (n := 3) (t0 := 0) (ty := .int) (w1 := kw_X0_3) C rfl rfl (by decide) rfl (mw (mT_1 55 rfl) rfl) hA rfl rfl (by decide) (by decide +kernel) rfl rfl (by decide) rfl (by decide) (fun ad2 hg2 => ?_)
  refine bv_putF (ty := .array .int) C rfl cl_X0 fl_X0_15 (by decide) rfl hin rfl (by decide +kernel) rfl rfl rfl (by decide) (by decide) ?_
  refine bv_weq (w2 := kw_X0_4) rfl ?_
  refine bv_blk C frk_X0 csk_X0 2 12 rfl (L1 := ([(0, .ref 0)] : Lc)) (st1 := ([.int (3), .ref 0] : List Value)) (w1 := kw_X0_4) (by rfl) ?_
  refine bv_newaC (N := 3) (n := 3) (t0 := 0) (ty := .int) (w1 := kw_X0_5) C rfl rfl (by decide) rfl (mw (mT_1 55 rfl) rfl) hA rfl rfl (by decide) (by decide +kernel) rfl rfl (by decide) rfl (by decide) (fun ad3 hg3 => ?_)
  refine bv_putF (ty := .array .int) C rfl cl_X0 fl_X0_18 (by decide) rfl hin rfl (by decide +kernel) rfl rfl rfl (by decide) (by decide) ?_
  refine bv_weq (w2 := kw_X0_6) rfl ?_
  refine bv_blk C frk_X0 csk_X0 2 16 rfl (L1 := ([(0, .ref 0)] : Lc)) (st1 := ([.int (0), .ref 0] : List Value)) (w1 := kw_X0_6) (by rfl) ?_
  refine bv_put (ty := .int) C rfl cl_X0 fl_X0_21 (by decide) rfl (by decide +kernel) rfl rfl rfl (by decide) (by decide) ?_
  refine bv_weq (w2 := kw_X0_7) rfl ?_
  refine bv_w (eqB_ok (w' := layK0) (by decide +kernel)) ?_
  exact bv_vretN C rfl hr ((hg3 0 (Or.inl (by decide))).trans ((hg2 0 (Or.inl (by decide))).trans ((hg1 0 (Or.inl (by decide))))))
def kw_X1_0 : Wd := fun _ k => defaultValue (tyX1 k)
def kw_X1_1 : Wd := extW kw_X1_0 1 (fun _ => defaultValue .int)
def kw_X1_2 : Wd := up2 kw_X1_1 0 0 (.ref 1)
def kw_X1_3 : Wd := extW kw_X1_2 2 (fun _ => defaultValue .int)
def kw_X1_4 : Wd := up2 kw_X1_3 0 1 (.ref 2)
def kw_X1_5 : Wd := extW kw_X1_4 3 (fun _ => defaultValue .int)
def kw_X1_6 : Wd := up2 kw_X1_5 0 2 (.ref 3)
def kw_X1_7 : Wd := up2 kw_X1_6 0 3 (.int (0))
set_option maxRecDepth 100000 in
set_option maxHeartbeats 8000000 in
theorem ki_X1 {l : Launch} {D : va_G} {cA : FieldType → ClassId} {z0 : Nat} {SK : Nat → Nat} {SV : Nat → Int32} : bCN l D cA z0 SK SV yX1_init cX1_init 1 1 3 60 shK1 kw_X1_0 4 layK0 := by
  refine bCN_intro (tb := tb_X1_init) (own := RX1) pn_X1 rfl tk_X1_init rfl (Nat.le_of_ble_eq_true rfl) rfl ?_
  intro a sz p e s m args below meth c hA C hr hin hAO
  refine bv_blk C frk_X1 csk_X1 1 1 rfl (L1 := ([(0, .ref 0)] : Lc)) (st1 := ([.ref 0] : List Value)) (w1 := kw_X1_0) (by rfl) ?_
  refine bv_obj C rfl (mw (mT_1 92 rfl) rfl) (mw (mT_1 17 rfl) rfl) (mw (mT_1 18 rfl) rfl) ⟨Nat.le_of_ble_eq_true rfl, Nat.le_of_ble_eq_true rfl⟩ ?_
  refine bv_blk C frk_X1 csk_X1 2 4 rfl (L1 := ([(0, .ref 0)] : Lc)) (st1 := ([.int (20), .ref 0] : List Value)) (w1 := kw_X1_0) (by rfl) ?_
  refine bv_newaC (N := 1) (n := 20) (t0 := 0) (ty := .int) (w1 := kw_X1_1) C rfl rfl (by decide) rfl (mw (mT_1 55 rfl) rfl) hA rfl rfl (by decide) (by decide +kernel) rfl rfl (by decide) rfl (by decide) (fun ad1 hg1 => ?_)
  refine bv_putF (ty := .array .int) C rfl cl_X1 fl_X1_9 (by decide) rfl hin rfl (by decide +kernel) rfl rfl rfl (by decide) (by decide) ?_
  refine bv_weq (w2 := kw_X1_2) rfl ?_
  refine bv_blk C frk_X1 csk_X1 2 8 rfl (L1 := ([(0, .ref 0)] : Lc)) (st1 := ([.int (20), .ref 0] : List Value)) (w1 := kw_X1_2) (by rfl) ?_
  refine bv_newaC (N := 2) (n := 20) (t0 := 0) (ty := .int) (w1 := kw_X1_3) C rfl rfl (by decide) rfl (mw (mT_1 55 rfl) rfl) hA rfl rfl (by decide) (by decide +kernel) rfl rfl (by decide) rfl (by decide) (fun ad2 hg2 => ?_)
  refine bv_putF (ty := .array .int) C rfl cl_X1 fl_X1_15 (by decide) rfl hin rfl (by decide +kernel) rfl rfl rfl (by decide) (by decide) ?_
  refine bv_weq (w2 := kw_X1_4) rfl ?_
  refine bv_blk C frk_X1 csk_X1 2 12 rfl (L1 := ([(0, .ref 0)] : Lc)) (st1 := ([.int (20), .ref 0] : List Value)) (w1 := kw_X1_4) (by rfl) ?_
  refine bv_newaC (N := 3) (n := 20) (t0 := 0) (ty := .int) (w1 := kw_X1_5) C rfl rfl (by decide) rfl (mw (mT_1 55 rfl) rfl) hA rfl rfl (by decide) (by decide +kernel) rfl rfl (by decide) rfl (by decide) (fun ad3 hg3 => ?_)
  refine bv_putF (ty := .array .int) C rfl cl_X1 fl_X1_18 (by decide) rfl hin rfl (by decide +kernel) rfl rfl rfl (by decide) (by decide) ?_
  refine bv_weq (w2 := kw_X1_6) rfl ?_
  refine bv_blk C frk_X1 csk_X1 2 16 rfl (L1 := ([(0, .ref 0)] : Lc)) (st1 := ([.int (0), .ref 0] : List Value)) (w1 := kw_X1_6) (by rfl) ?_
  refine bv_put (ty := .int) C rfl cl_X1 fl_X1_21 (by decide) rfl (by decide +kernel) rfl rfl rfl (by decide) (by decide) ?_
  refine bv_weq (w2 := kw_X1_7) rfl ?_
  refine bv_w (eqB_ok (w' := layK0) (by decide +kernel)) ?_
  exact bv_vretN C rfl hr ((hg3 0 (Or.inl (by decide))).trans ((hg2 0 (Or.inl (by decide))).trans ((hg1 0 (Or.inl (by decide))))))
def kw_X2_0 : Wd := fun _ k => defaultValue (tyX2 k)
def kw_X2_1 : Wd := extW kw_X2_0 1 (fun _ => defaultValue .int)
def kw_X2_2 : Wd := up2 kw_X2_1 0 0 (.ref 1)
set_option maxRecDepth 100000 in
set_option maxHeartbeats 8000000 in
theorem ki_X2 {l : Launch} {D : va_G} {cA : FieldType → ClassId} {z0 : Nat} {SK : Nat → Nat} {SV : Nat → Int32} : bCN l D cA z0 SK SV yX2_init cX2_init 1 1 1 256 shK2 kw_X2_0 2 layK2 := by
  refine bCN_intro (tb := tb_X2_init) (own := RX2) pn_X2 rfl tk_X2_init rfl (Nat.le_of_ble_eq_true rfl) rfl ?_
  intro a sz p e s m args below meth c hA C hr hin hAO
  refine bv_blk C frk_X2 csk_X2 1 1 rfl (L1 := ([(0, .ref 0)] : Lc)) (st1 := ([.ref 0] : List Value)) (w1 := kw_X2_0) (by rfl) ?_
  refine bv_obj C rfl (mw (mT_2 21 rfl) rfl) (mw (mT_1 17 rfl) rfl) (mw (mT_1 18 rfl) rfl) ⟨Nat.le_of_ble_eq_true rfl, Nat.le_of_ble_eq_true rfl⟩ ?_
  refine bv_blk C frk_X2 csk_X2 2 4 rfl (L1 := ([(0, .ref 0)] : Lc)) (st1 := ([.int (256), .ref 0] : List Value)) (w1 := kw_X2_0) (by rfl) ?_
  refine bv_newaC (N := 1) (n := 256) (t0 := 0) (ty := .int) (w1 := kw_X2_1) C rfl rfl (by decide) rfl (mw (mT_1 55 rfl) rfl) hA rfl rfl (by decide) (by decide +kernel) rfl rfl (by decide) rfl (by decide) (fun ad1 hg1 => ?_)
  refine bv_putF (ty := .array .int) C rfl cl_X2 fl_X2_9 (by decide) rfl hin rfl (by decide +kernel) rfl rfl rfl (by decide) (by decide) ?_
  refine bv_weq (w2 := kw_X2_2) rfl ?_
  refine bv_w (eqB_ok (w' := layK2) (by decide +kernel)) ?_
  exact bv_vretN C rfl hr ((hg1 0 (Or.inl (by decide))))
def kw_X5_0 : Wd := fun _ k => defaultValue (tyX5 k)
def kw_X5_1 : Wd := extW kw_X5_0 1 (fun _ => defaultValue .char)
def kw_X5_2 : Wd := up2 kw_X5_1 0 0 (.ref 1)
def kw_X5_3 : Wd := up2 kw_X5_2 0 1 (.int (0))
def kw_X5_4 : Wd := up2 kw_X5_3 0 2 (.int (0))
def kw_X5_5 : Wd := up2 kw_X5_4 0 3 (.int (0))
def kw_X5_6 : Wd := up2 kw_X5_5 0 4 (.int (-100000))
set_option maxRecDepth 100000 in
set_option maxHeartbeats 8000000 in
theorem ki_X5 {l : Launch} {D : va_G} {cA : FieldType → ClassId} {z0 : Nat} {SK : Nat → Nat} {SV : Nat → Int32} : bCN l D cA z0 SK SV yX5_init cX5_init 1 1 1 120 shK5 kw_X5_0 2 layK5 := by
  refine bCN_intro (tb := tb_X5_init) (own := RX5) pn_X5 rfl tk_X5_init rfl (Nat.le_of_ble_eq_true rfl) rfl ?_
  intro a sz p e s m args below meth c hA C hr hin hAO
  refine bv_blk C frk_X5 csk_X5 1 1 rfl (L1 := ([(0, .ref 0)] : Lc)) (st1 := ([.ref 0] : List Value)) (w1 := kw_X5_0) (by rfl) ?_
  refine bv_obj C rfl (mw (mT_1 237 rfl) rfl) (mw (mT_1 17 rfl) rfl) (mw (mT_1 18 rfl) rfl) ⟨Nat.le_of_ble_eq_true rfl, Nat.le_of_ble_eq_true rfl⟩ ?_
  refine bv_blk C frk_X5 csk_X5 2 4 rfl (L1 := ([(0, .ref 0)] : Lc)) (st1 := ([.int (120), .ref 0] : List Value)) (w1 := kw_X5_0) (by rfl) ?_
  refine bv_newaC (N := 1) (n := 120) (t0 := 1) (ty := .char) (w1 := kw_X5_1) C rfl rfl (by decide) rfl (mw (mT_2 15 rfl) rfl) hA rfl rfl (by decide) (by decide +kernel) rfl rfl (by decide) rfl (by decide) (fun ad1 hg1 => ?_)
  refine bv_putF (ty := .array .char) C rfl cl_X5 fl_X5_9 (by decide) rfl hin rfl (by decide +kernel) rfl rfl rfl (by decide) (by decide) ?_
  refine bv_weq (w2 := kw_X5_2) rfl ?_
  refine bv_blk C frk_X5 csk_X5 2 8 rfl (L1 := ([(0, .ref 0)] : Lc)) (st1 := ([.int (0), .ref 0] : List Value)) (w1 := kw_X5_2) (by rfl) ?_
  refine bv_put (ty := .int) C rfl cl_X5 fl_X5_15 (by decide) rfl (by decide +kernel) rfl rfl rfl (by decide) (by decide) ?_
  refine bv_weq (w2 := kw_X5_3) rfl ?_
  refine bv_blk C frk_X5 csk_X5 2 11 rfl (L1 := ([(0, .ref 0)] : Lc)) (st1 := ([.int (0), .ref 0] : List Value)) (w1 := kw_X5_3) (by rfl) ?_
  refine bv_put (ty := .int) C rfl cl_X5 fl_X5_19 (by decide) rfl (by decide +kernel) rfl rfl rfl (by decide) (by decide) ?_
  refine bv_weq (w2 := kw_X5_4) rfl ?_
  refine bv_blk C frk_X5 csk_X5 2 14 rfl (L1 := ([(0, .ref 0)] : Lc)) (st1 := ([.int (0), .ref 0] : List Value)) (w1 := kw_X5_4) (by rfl) ?_
  refine bv_put (ty := .int) C rfl cl_X5 fl_X5_22 (by decide) rfl (by decide +kernel) rfl rfl rfl (by decide) (by decide) ?_
  refine bv_weq (w2 := kw_X5_5) rfl ?_
  refine bv_blk C frk_X5 csk_X5 2 17 rfl (L1 := ([(0, .ref 0)] : Lc)) (st1 := ([.int (-100000), .ref 0] : List Value)) (w1 := kw_X5_5) (by rfl) ?_
  refine bv_put (ty := .int) C rfl cl_X5 fl_X5_26 (by decide) rfl (by decide +kernel) rfl rfl rfl (by decide) (by decide) ?_
  refine bv_weq (w2 := kw_X5_6) rfl ?_
  refine bv_w (eqB_ok (w' := layK5) (by decide +kernel)) ?_
  exact bv_vretN C rfl hr ((hg1 0 (Or.inl (by decide))))
def kw_X7_0 : Wd := fun _ k => defaultValue (tyX7 k)
def kw_X7_1 : Wd := extW kw_X7_0 1 (fun _ => defaultValue .int)
def kw_X7_2 : Wd := up2 kw_X7_1 0 4 (.ref 1)
set_option maxRecDepth 100000 in
set_option maxHeartbeats 8000000 in
theorem ki_X7 {l : Launch} {D : va_G} {cA : FieldType → ClassId} {z0 : Nat} {SK : Nat → Nat} {SV : Nat → Int32} : bCN l D cA z0 SK SV yX7_init cX7_init 1 1 1 16 shS kw_X7_0 2 (layS g0S) := by
  refine bCN_intro (tb := tb_X7_init) (own := RX7) pn_X7 rfl tk_X7_init rfl (Nat.le_of_ble_eq_true rfl) rfl ?_
  intro a sz p e s m args below meth c hA C hr hin hAO
  refine bv_blk C frk_X7 csk_X7 1 1 rfl (L1 := ([(0, .ref 0)] : Lc)) (st1 := ([.ref 0] : List Value)) (w1 := kw_X7_0) (by rfl) ?_
  refine bv_obj C rfl (mw (mT_1 30 rfl) rfl) (mw (mT_1 17 rfl) rfl) (mw (mT_1 18 rfl) rfl) ⟨Nat.le_of_ble_eq_true rfl, Nat.le_of_ble_eq_true rfl⟩ ?_
  refine bv_blk C frk_X7 csk_X7 2 4 rfl (L1 := ([(0, .ref 0)] : Lc)) (st1 := ([.int (16), .ref 0] : List Value)) (w1 := kw_X7_0) (by rfl) ?_
  refine bv_newaC (N := 1) (n := 16) (t0 := 0) (ty := .int) (w1 := kw_X7_1) C rfl rfl (by decide) rfl (mw (mT_1 55 rfl) rfl) hA rfl rfl (by decide) (by decide +kernel) rfl rfl (by decide) rfl (by decide) (fun ad1 hg1 => ?_)
  refine bv_putF (ty := .array .int) C rfl cl_X7 fl_X7_9 (by decide) rfl hin rfl (by decide +kernel) rfl rfl rfl (by decide) (by decide) ?_
  refine bv_weq (w2 := kw_X7_2) rfl ?_
  refine bv_w (eqB_ok (w' := (layS g0S)) (by decide +kernel)) ?_
  exact bv_vretN C rfl hr ((hg1 0 (Or.inl (by decide))))
