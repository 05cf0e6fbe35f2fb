def kw_X8_0 : Wd := fun _ k => defaultValue (tyX8 k)
def kw_X8_1 : Wd := extW kw_X8_0 1 (fun k => defaultValue (tyX6 k))
def kw_X8_2 : Wd := catW kw_X8_1 2 1 (layB gA6 (fun o => o) (fun o => o))
def kw_X8_3 : Wd := up2 kw_X8_2 0 0 (.ref 1)
def kw_X8_4 : Wd := extW kw_X8_3 23 (fun k => defaultValue (tyX6 k))
def kw_X8_5 : Wd := catW kw_X8_4 24 23 (layB gA6 (fun o => o) (fun o => o))
def kw_X8_6 : Wd := up2 kw_X8_5 0 1 (.ref 23)
def kw_X8_7 : Wd := extW kw_X8_6 45 (fun _ => .null)
def kw_X8_8 : Wd := up2 kw_X8_7 0 2 (.ref 45)
def kw_X8_9 : Wd := up2 kw_X8_8 0 3 (.int (0))
def kw_X8_10 : Wd := extW kw_X8_9 46 (fun k => defaultValue (tyX5 k))
def kw_X8_11 : Wd := catW kw_X8_10 47 46 layK5
def kw_X8_12 : Wd := up2 kw_X8_11 0 4 (.ref 46)
def kw_X8_13 : Wd := extW kw_X8_12 48 (fun k => defaultValue (tyX2 k))
def kw_X8_14 : Wd := catW kw_X8_13 49 48 layK2
def kw_X8_15 : Wd := up2 kw_X8_14 0 5 (.ref 48)
def kw_X8_16 : Wd := extW kw_X8_15 50 (fun k => defaultValue (tyX6 k))
def kw_X8_17 : Wd := catW kw_X8_16 51 50 (layB gA6 (fun o => o) (fun o => o))
def kw_X8_18 : Wd := up2 kw_X8_17 45 0 (.ref 50)
def kw_X8_19 : Wd := extW kw_X8_18 72 (fun k => defaultValue (tyX6 k))
def kw_X8_20 : Wd := catW kw_X8_19 73 72 (layB gA6 (fun o => o) (fun o => o))
def kw_X8_21 : Wd := up2 kw_X8_20 45 1 (.ref 72)
def kw_X8_22 : Wd := extW kw_X8_21 94 (fun k => defaultValue (tyX6 k))
def kw_X8_23 : Wd := catW kw_X8_22 95 94 (layB gA6 (fun o => o) (fun o => o))
def kw_X8_24 : Wd := up2 kw_X8_23 45 2 (.ref 94)
def kw_X8_25 : Wd := extW kw_X8_24 116 (fun k => defaultValue (tyX6 k))
def kw_X8_26 : Wd := catW kw_X8_25 117 116 (layB gA6 (fun o => o) (fun o => o))
def kw_X8_27 : Wd := up2 kw_X8_26 45 3 (.ref 116)
def kw_X8_28 : Wd := extW kw_X8_27 138 (fun k => defaultValue (tyX6 k))
def kw_X8_29 : Wd := catW kw_X8_28 139 138 (layB gA6 (fun o => o) (fun o => o))
def kw_X8_30 : Wd := up2 kw_X8_29 45 4 (.ref 138)
def kw_X8_31 : Wd := extW kw_X8_30 160 (fun k => defaultValue (tyX6 k))
def kw_X8_32 : Wd := catW kw_X8_31 161 160 (layB gA6 (fun o => o) (fun o => o))
def kw_X8_33 : Wd := up2 kw_X8_32 45 5 (.ref 160)
set_option maxRecDepth 100000 in
set_option maxHeartbeats 8000000 in
theorem ki_X8 {l : Launch} {D : va_G} {cA : FieldType → ClassId} {z0 : Nat} {SK : Nat → Nat} {SV : Nat → Int32} : bCN l D cA z0 SK SV yX8_init cX8_init 2 4 181 1932 shF kw_X8_0 182 (layF gF8 sF8 idF idF (fun j => j) 0) := by
  refine bCN_intro (tb := tb_X8_init) (own := RX8) pn_X8 rfl tk_X8_init rfl (Nat.le_of_ble_eq_true rfl) rfl ?_
  intro a sz p e s m args below meth c hA C hr hin hAO
  refine bv_ren (N := 1) (π := fun o => o) (sh' := shC8) (w' := kw_X8_0) (L' := [(0, .ref 0)]) (st' := []) (by decide +kernel) (by decide +kernel) rfl rfl (fun ad0 hq0 => ?_)
  refine bv_blk C frk_X8 csk_X8 1 1 rfl (L1 := ([(0, .ref 0)] : Lc)) (st1 := ([.ref 0] : List Value)) (w1 := kw_X8_0) (by rfl) ?_
  refine bv_obj C rfl (mw (mT_1 16 rfl) rfl) (mw (mT_1 17 rfl) rfl) (mw (mT_1 18 rfl) rfl) ⟨Nat.le_of_ble_eq_true rfl, Nat.le_of_ble_eq_true rfl⟩ ?_
  refine bv_blk C frk_X8 csk_X8 1 3 rfl (L1 := ([(0, .ref 0)] : Lc)) (st1 := ([.ref 0] : List Value)) (w1 := kw_X8_0) (by rfl) ?_
  refine bv_newC (N := 1) (w1 := kw_X8_1) C rfl cl_X6 tyX6_ok (mw (mT_1 19 rfl) rfl) (mw (mT_1 20 rfl) rfl) (mw (mT_1 2 rfl) rfl) hA rfl (by decide +kernel) rfl rfl (by decide) rfl (by decide) (fun ad1 hg1 => ?_)
  refine bv_blk C frk_X8 csk_X8 1 5 rfl (L1 := ([(0, .ref 0)] : Lc)) (st1 := ([.ref 1, .ref 1, .ref 0] : List Value)) (w1 := kw_X8_1) (by rfl) ?_
  refine bv_callIC (N := 2) (N' := 22) (r0 := 1) (w1 := kw_X8_2) C rfl ki_X6 ml_X8_9 im_X6_init ini_X6 cd_X6_init ok_X6_init rfl ⟨Nat.le_of_ble_eq_true rfl, Nat.le_of_ble_eq_true rfl⟩ ⟨Nat.le_of_ble_eq_true rfl, Nat.le_of_ble_eq_true rfl⟩ hA hAO (by decide) (by decide) (by decide +kernel) (by decide +kernel) (by decide +kernel) (by decide +kernel) rfl rfl (Nat.le_of_ble_eq_true rfl) rfl (by decide) (fun ad2 hg2 => ?_)
  refine bv_putF (ty := .object "BeamTraining$State") C rfl cl_X8 fl_X8_10 (by decide) rfl hin rfl (by decide +kernel) rfl rfl rfl (by decide) (by decide) ?_
  refine bv_weq (w2 := kw_X8_3) rfl ?_
  refine bv_blk C frk_X8 csk_X8 1 8 rfl (L1 := ([(0, .ref 0)] : Lc)) (st1 := ([.ref 0] : List Value)) (w1 := kw_X8_3) (by rfl) ?_
  refine bv_newC (N := 23) (w1 := kw_X8_4) C rfl cl_X6 tyX6_ok (mw (mT_1 19 rfl) rfl) (mw (mT_1 20 rfl) rfl) (mw (mT_1 2 rfl) rfl) hA rfl (by decide +kernel) rfl rfl (by decide) rfl (by decide) (fun ad3 hg3 => ?_)
  refine bv_blk C frk_X8 csk_X8 1 10 rfl (L1 := ([(0, .ref 0)] : Lc)) (st1 := ([.ref 23, .ref 23, .ref 0] : List Value)) (w1 := kw_X8_4) (by rfl) ?_
  refine bv_callIC (N := 24) (N' := 22) (r0 := 23) (w1 := kw_X8_5) C rfl ki_X6 ml_X8_9 im_X6_init ini_X6 cd_X6_init ok_X6_init rfl ⟨Nat.le_of_ble_eq_true rfl, Nat.le_of_ble_eq_true rfl⟩ ⟨Nat.le_of_ble_eq_true rfl, Nat.le_of_ble_eq_true rfl⟩ hA hAO (by decide) (by decide) (by decide +kernel) (by decide +kernel) (by decide +kernel) (by decide +kernel) rfl rfl (Nat.le_of_ble_eq_true rfl) rfl (by decide) (fun ad4 hg4 => ?_)
  refine bv_putF (ty := .object "BeamTraining$State") C rfl cl_X8 fl_X8_16 (by decide) rfl hin rfl (by decide +kernel) rfl rfl rfl (by decide) (by decide) ?_
  refine bv_weq (w2 := kw_X8_6) rfl ?_
  refine bv_blk C frk_X8 csk_X8 2 14 rfl (L1 := ([(0, .ref 0)] : Lc)) (st1 := ([.int (6), .ref 0] : List Value)) (w1 := kw_X8_6) (by rfl) ?_
  refine bv_newqC (N := 45) (n := 6) (t0 := 3) (w1 := kw_X8_7) C rfl rfl (mw (mT_1 19 rfl) rfl) hAO.1 hA rfl rfl (by decide) (by decide +kernel) rfl rfl (by decide) rfl (by decide) (fun ad5 hg5 => ?_)
  refine bv_putF (ty := .array (.object "BeamTraining$State")) C rfl cl_X8 fl_X8_19 (by decide) rfl hin rfl (by decide +kernel) rfl rfl rfl (by decide) (by decide) ?_
  refine bv_weq (w2 := kw_X8_8) rfl ?_
  refine bv_blk C frk_X8 csk_X8 2 18 rfl (L1 := ([(0, .ref 0)] : Lc)) (st1 := ([.int (0), .ref 0] : List Value)) (w1 := kw_X8_8) (by rfl) ?_
  refine bv_put (ty := .int) C rfl cl_X8 fl_X8_23 (by decide) rfl (by decide +kernel) rfl rfl rfl (by decide) (by decide) ?_
  refine bv_weq (w2 := kw_X8_9) rfl ?_
  refine bv_blk C frk_X8 csk_X8 1 20 rfl (L1 := ([(0, .ref 0)] : Lc)) (st1 := ([.ref 0] : List Value)) (w1 := kw_X8_9) (by rfl) ?_
  refine bv_newC (N := 46) (w1 := kw_X8_10) C rfl cl_X5 tyX5_ok (mw (mT_1 232 rfl) rfl) (mw (mT_1 233 rfl) rfl) (mw (mT_1 7 rfl) rfl) hA rfl (by decide +kernel) rfl rfl (by decide) rfl (by decide) (fun ad6 hg6 => ?_)
  refine bv_blk C frk_X8 csk_X8 1 22 rfl (L1 := ([(0, .ref 0)] : Lc)) (st1 := ([.ref 46, .ref 46, .ref 0] : List Value)) (w1 := kw_X8_10) (by rfl) ?_
  refine bv_callIC (N := 47) (N' := 2) (r0 := 46) (w1 := kw_X8_11) C rfl ki_X5 ml_X8_29 im_X5_init ini_X5 cd_X5_init ok_X5_init rfl ⟨Nat.le_of_ble_eq_true rfl, Nat.le_of_ble_eq_true rfl⟩ ⟨Nat.le_of_ble_eq_true rfl, Nat.le_of_ble_eq_true rfl⟩ hA hAO (by decide) (by decide) (by decide +kernel) (by decide +kernel) (by decide +kernel) (by decide +kernel) rfl rfl (Nat.le_of_ble_eq_true rfl) rfl (by decide) (fun ad7 hg7 => ?_)
  refine bv_putF (ty := .object "BeamTraining$Scenario") C rfl cl_X8 fl_X8_30 (by decide) rfl hin rfl (by decide +kernel) rfl rfl rfl (by decide) (by decide) ?_
  refine bv_weq (w2 := kw_X8_12) rfl ?_
  refine bv_blk C frk_X8 csk_X8 1 25 rfl (L1 := ([(0, .ref 0)] : Lc)) (st1 := ([.ref 0] : List Value)) (w1 := kw_X8_12) (by rfl) ?_
  refine bv_newC (N := 48) (w1 := kw_X8_13) C rfl cl_X2 tyX2_ok (mw (mT_2 16 rfl) rfl) (mw (mT_2 17 rfl) rfl) (mw (mT_1 8 rfl) rfl) hA rfl (by decide +kernel) rfl rfl (by decide) rfl (by decide) (fun ad8 hg8 => ?_)
  refine bv_blk C frk_X8 csk_X8 1 27 rfl (L1 := ([(0, .ref 0)] : Lc)) (st1 := ([.ref 48, .ref 48, .ref 0] : List Value)) (w1 := kw_X8_13) (by rfl) ?_
  refine bv_callIC (N := 49) (N' := 2) (r0 := 48) (w1 := kw_X8_14) C rfl ki_X2 ml_X8_36 im_X2_init ini_X2 cd_X2_init ok_X2_init rfl ⟨Nat.le_of_ble_eq_true rfl, Nat.le_of_ble_eq_true rfl⟩ ⟨Nat.le_of_ble_eq_true rfl, Nat.le_of_ble_eq_true rfl⟩ hA hAO (by decide) (by decide) (by decide +kernel) (by decide +kernel) (by decide +kernel) (by decide +kernel) rfl rfl (Nat.le_of_ble_eq_true rfl) rfl (by decide) (fun ad9 hg9 => ?_)
  refine bv_putF (ty := .object "BeamTraining$PairSurvey") C rfl cl_X8 fl_X8_37 (by decide) rfl hin rfl (by decide +kernel) rfl rfl rfl (by decide) (by decide) ?_
  refine bv_weq (w2 := kw_X8_15) rfl ?_
  refine bv_blk C frk_X8 csk_X8 5 34 rfl (L1 := ([(1, .int (0)), (0, .ref 0)] : Lc)) (st1 := ([.ref 45, .int (0)] : List Value)) (w1 := kw_X8_15) (by rfl) ?_
  refine bv_alen C 3 rfl rfl rfl (by decide) ?_
  refine bv_icmp_ge (j := 45) C rfl rfl (fun h => absurd h (nI_ge (a := 0) (b := 6) (by omega) (by omega))) (fun _ => ?_)
  refine bv_blk C frk_X8 csk_X8 3 39 rfl (L1 := ([(1, .int (0)), (0, .ref 0)] : Lc)) (st1 := ([.int (0), .ref 45] : List Value)) (w1 := kw_X8_15) (by rfl) ?_
  refine bv_newC (N := 50) (w1 := kw_X8_16) C rfl cl_X6 tyX6_ok (mw (mT_1 19 rfl) rfl) (mw (mT_1 20 rfl) rfl) (mw (mT_1 2 rfl) rfl) hA rfl (by decide +kernel) rfl rfl (by decide) rfl (by decide) (fun ad10 hg10 => ?_)
  refine bv_blk C frk_X8 csk_X8 1 41 rfl (L1 := ([(1, .int (0)), (0, .ref 0)] : Lc)) (st1 := ([.ref 50, .ref 50, .int (0), .ref 45] : List Value)) (w1 := kw_X8_16) (by rfl) ?_
  refine bv_callIC (N := 51) (N' := 22) (r0 := 50) (w1 := kw_X8_17) C rfl ki_X6 ml_X8_9 im_X6_init ini_X6 cd_X6_init ok_X6_init rfl ⟨Nat.le_of_ble_eq_true rfl, Nat.le_of_ble_eq_true rfl⟩ ⟨Nat.le_of_ble_eq_true rfl, Nat.le_of_ble_eq_true rfl⟩ hA hAO (by decide) (by decide) (by decide +kernel) (by decide +kernel) (by decide +kernel) (by decide +kernel) rfl rfl (Nat.le_of_ble_eq_true rfl) rfl (by decide) (fun ad11 hg11 => ?_)
  refine bv_aastState (y := 50) C rfl rfl (by decide) (j := 0) (by decide) (by decide) (by decide) rfl (by decide) ?_
  refine bv_weq (w2 := kw_X8_18) rfl ?_
  refine bv_blk C frk_X8 csk_X8 1 44 rfl (L1 := ([(1, .int ((0) + Int32.ofInt 1)), (0, .ref 0)] : Lc)) (st1 := ([] : List Value)) (w1 := kw_X8_18) (by rfl) ?_
  rw [show ((0) + Int32.ofInt 1) = (1) from by decide]
  refine bv_goto (j := 31) C rfl rfl ?_
  refine bv_blk C frk_X8 csk_X8 3 34 rfl (L1 := ([(1, .int (1)), (0, .ref 0)] : Lc)) (st1 := ([.ref 45, .int (1)] : List Value)) (w1 := kw_X8_18) (by rfl) ?_
  refine bv_alen C 3 rfl rfl rfl (by decide) ?_
  refine bv_icmp_ge (j := 45) C rfl rfl (fun h => absurd h (nI_ge (a := 1) (b := 6) (by omega) (by omega))) (fun _ => ?_)
  refine bv_blk C frk_X8 csk_X8 3 39 rfl (L1 := ([(1, .int (1)), (0, .ref 0)] : Lc)) (st1 := ([.int (1), .ref 45] : List Value)) (w1 := kw_X8_18) (by rfl) ?_
  refine bv_newC (N := 72) (w1 := kw_X8_19) C rfl cl_X6 tyX6_ok (mw (mT_1 19 rfl) rfl) (mw (mT_1 20 rfl) rfl) (mw (mT_1 2 rfl) rfl) hA rfl (by decide +kernel) rfl rfl (by decide) rfl (by decide) (fun ad12 hg12 => ?_)
  refine bv_blk C frk_X8 csk_X8 1 41 rfl (L1 := ([(1, .int (1)), (0, .ref 0)] : Lc)) (st1 := ([.ref 72, .ref 72, .int (1), .ref 45] : List Value)) (w1 := kw_X8_19) (by rfl) ?_
  refine bv_callIC (N := 73) (N' := 22) (r0 := 72) (w1 := kw_X8_20) C rfl ki_X6 ml_X8_9 im_X6_init ini_X6 cd_X6_init ok_X6_init rfl ⟨Nat.le_of_ble_eq_true rfl, Nat.le_of_ble_eq_true rfl⟩ ⟨Nat.le_of_ble_eq_true rfl, Nat.le_of_ble_eq_true rfl⟩ hA hAO (by decide) (by decide) (by decide +kernel) (by decide +kernel) (by decide +kernel) (by decide +kernel) rfl rfl (Nat.le_of_ble_eq_true rfl) rfl (by decide) (fun ad13 hg13 => ?_)
  refine bv_aastState (y := 72) C rfl rfl (by decide) (j := 1) (by decide) (by decide) (by decide) rfl (by decide) ?_
  refine bv_weq (w2 := kw_X8_21) rfl ?_
  refine bv_blk C frk_X8 csk_X8 1 44 rfl (L1 := ([(1, .int ((1) + Int32.ofInt 1)), (0, .ref 0)] : Lc)) (st1 := ([] : List Value)) (w1 := kw_X8_21) (by rfl) ?_
  rw [show ((1) + Int32.ofInt 1) = (2) from by decide]
  refine bv_goto (j := 31) C rfl rfl ?_
  refine bv_blk C frk_X8 csk_X8 3 34 rfl (L1 := ([(1, .int (2)), (0, .ref 0)] : Lc)) (st1 := ([.ref 45, .int (2)] : List Value)) (w1 := kw_X8_21) (by rfl) ?_
  refine bv_alen C 3 rfl rfl rfl (by decide) ?_
  refine bv_icmp_ge (j := 45) C rfl rfl (fun h => absurd h (nI_ge (a := 2) (b := 6) (by omega) (by omega))) (fun _ => ?_)
  refine bv_blk C frk_X8 csk_X8 3 39 rfl (L1 := ([(1, .int (2)), (0, .ref 0)] : Lc)) (st1 := ([.int (2), .ref 45] : List Value)) (w1 := kw_X8_21) (by rfl) ?_
  refine bv_newC (N := 94) (w1 := kw_X8_22) C rfl cl_X6 tyX6_ok (mw (mT_1 19 rfl) rfl) (mw (mT_1 20 rfl) rfl) (mw (mT_1 2 rfl) rfl) hA rfl (by decide +kernel) rfl rfl (by decide) rfl (by decide) (fun ad14 hg14 => ?_)
  refine bv_blk C frk_X8 csk_X8 1 41 rfl (L1 := ([(1, .int (2)), (0, .ref 0)] : Lc)) (st1 := ([.ref 94, .ref 94, .int (2), .ref 45] : List Value)) (w1 := kw_X8_22) (by rfl) ?_
  refine bv_callIC (N := 95) (N' := 22) (r0 := 94) (w1 := kw_X8_23) C rfl ki_X6 ml_X8_9 im_X6_init ini_X6 cd_X6_init ok_X6_init rfl ⟨Nat.le_of_ble_eq_true rfl, Nat.le_of_ble_eq_true rfl⟩ ⟨Nat.le_of_ble_eq_true rfl, Nat.le_of_ble_eq_true rfl⟩ hA hAO (by decide) (by decide) (by decide +kernel) (by decide +kernel) (by decide +kernel) (by decide +kernel) rfl rfl (Nat.le_of_ble_eq_true rfl) rfl (by decide) (fun ad15 hg15 => ?_)
  refine bv_aastState (y := 94) C rfl rfl (by decide) (j := 2) (by decide) (by decide) (by decide) rfl (by decide) ?_
  refine bv_weq (w2 := kw_X8_24) rfl ?_
  refine bv_blk C frk_X8 csk_X8 1 44 rfl (L1 := ([(1, .int ((2) + Int32.ofInt 1)), (0, .ref 0)] : Lc)) (st1 := ([] : List Value)) (w1 := kw_X8_24) (by rfl) ?_
  rw [show ((2) + Int32.ofInt 1) = (3) from by decide]
  refine bv_goto (j := 31) C rfl rfl ?_
  refine bv_blk C frk_X8 csk_X8 3 34 rfl (L1 := ([(1, .int (3)), (0, .ref 0)] : Lc)) (st1 := ([.ref 45, .int (3)] : List Value)) (w1 := kw_X8_24) (by rfl) ?_
  refine bv_alen C 3 rfl rfl rfl (by decide) ?_
  refine bv_icmp_ge (j := 45) C rfl rfl (fun h => absurd h (nI_ge (a := 3) (b := 6) (by omega) (by omega))) (fun _ => ?_)
  refine bv_blk C frk_X8 csk_X8 3 39 rfl (L1 := ([(1, .int (3)), (0, .ref 0)] : Lc)) (st1 := ([.int (3), .ref 45] : List Value)) (w1 := kw_X8_24) (by rfl) ?_
  refine bv_newC (N := 116) (w1 := kw_X8_25) C rfl cl_X6 tyX6_ok (mw (mT_1 19 rfl) rfl) (mw (mT_1 20 rfl) rfl) (mw (mT_1 2 rfl) rfl) hA rfl (by decide +kernel) rfl rfl (by decide) rfl (by decide) (fun ad16 hg16 => ?_)
  refine bv_blk C frk_X8 csk_X8 1 41 rfl (L1 := ([(1, .int (3)), (0, .ref 0)] : Lc)) (st1 := ([.ref 116, .ref 116, .int (3), .ref 45] : List Value)) (w1 := kw_X8_25) (by rfl) ?_
  refine bv_callIC (N := 117) (N' := 22) (r0 := 116) (w1 := kw_X8_26) C rfl ki_X6 ml_X8_9 im_X6_init ini_X6 cd_X6_init ok_X6_init rfl ⟨Nat.le_of_ble_eq_true rfl, Nat.le_of_ble_eq_true rfl⟩ ⟨Nat.le_of_ble_eq_true rfl, Nat.le_of_ble_eq_true rfl⟩ hA hAO (by decide) (by decide) (by decide +kernel) (by decide +kernel) (by decide +kernel) (by decide +kernel) rfl rfl (Nat.le_of_ble_eq_true rfl) rfl (by decide) (fun ad17 hg17 => ?_)
  refine bv_aastState (y := 116) C rfl rfl (by decide) (j := 3) (by decide) (by decide) (by decide) rfl (by decide) ?_
  refine bv_weq (w2 := kw_X8_27) rfl ?_
  refine bv_blk C frk_X8 csk_X8 1 44 rfl (L1 := ([(1, .int ((3) + Int32.ofInt 1)), (0, .ref 0)] : Lc)) (st1 := ([] : List Value)) (w1 := kw_X8_27) (by rfl) ?_
  rw [show ((3) + Int32.ofInt 1) = (4) from by decide]
  refine bv_goto (j := 31) C rfl rfl ?_
  refine bv_blk C frk_X8 csk_X8 3 34 rfl (L1 := ([(1, .int (4)), (0, .ref 0)] : Lc)) (st1 := ([.ref 45, .int (4)] : List Value)) (w1 := kw_X8_27) (by rfl) ?_
  refine bv_alen C 3 rfl rfl rfl (by decide) ?_
  refine bv_icmp_ge (j := 45) C rfl rfl (fun h => absurd h (nI_ge (a := 4) (b := 6) (by omega) (by omega))) (fun _ => ?_)
  refine bv_blk C frk_X8 csk_X8 3 39 rfl (L1 := ([(1, .int (4)), (0, .ref 0)] : Lc)) (st1 := ([.int (4), .ref 45] : List Value)) (w1 := kw_X8_27) (by rfl) ?_
  refine bv_newC (N := 138) (w1 := kw_X8_28) C rfl cl_X6 tyX6_ok (mw (mT_1 19 rfl) rfl) (mw (mT_1 20 rfl) rfl) (mw (mT_1 2 rfl) rfl) hA rfl (by decide +kernel) rfl rfl (by decide) rfl (by decide) (fun ad18 hg18 => ?_)
  refine bv_blk C frk_X8 csk_X8 1 41 rfl (L1 := ([(1, .int (4)), (0, .ref 0)] : Lc)) (st1 := ([.ref 138, .ref 138, .int (4), .ref 45] : List Value)) (w1 := kw_X8_28) (by rfl) ?_
  refine bv_callIC (N := 139) (N' := 22) (r0 := 138) (w1 := kw_X8_29) C rfl ki_X6 ml_X8_9 im_X6_init ini_X6 cd_X6_init ok_X6_init rfl ⟨Nat.le_of_ble_eq_true rfl, Nat.le_of_ble_eq_true rfl⟩ ⟨Nat.le_of_ble_eq_true rfl, Nat.le_of_ble_eq_true rfl⟩ hA hAO (by decide) (by decide) (by decide +kernel) (by decide +kernel) (by decide +kernel) (by decide +kernel) rfl rfl (Nat.le_of_ble_eq_true rfl) rfl (by decide) (fun ad19 hg19 => ?_)
  refine bv_aastState (y := 138) C rfl rfl (by decide) (j := 4) (by decide) (by decide) (by decide) rfl (by decide) ?_
  refine bv_weq (w2 := kw_X8_30) rfl ?_
  refine bv_blk C frk_X8 csk_X8 1 44 rfl (L1 := ([(1, .int ((4) + Int32.ofInt 1)), (0, .ref 0)] : Lc)) (st1 := ([] : List Value)) (w1 := kw_X8_30) (by rfl) ?_
  rw [show ((4) + Int32.ofInt 1) = (5) from by decide]
  refine bv_goto (j := 31) C rfl rfl ?_
  refine bv_blk C frk_X8 csk_X8 3 34 rfl (L1 := ([(1, .int (5)), (0, .ref 0)] : Lc)) (st1 := ([.ref 45, .int (5)] : List Value)) (w1 := kw_X8_30) (by rfl) ?_
  refine bv_alen C 3 rfl rfl rfl (by decide) ?_
  refine bv_icmp_ge (j := 45) C rfl rfl (fun h => absurd h (nI_ge (a := 5) (b := 6) (by omega) (by omega))) (fun _ => ?_)
  refine bv_blk C frk_X8 csk_X8 3 39 rfl (L1 := ([(1, .int (5)), (0, .ref 0)] : Lc)) (st1 := ([.int (5), .ref 45] : List Value)) (w1 := kw_X8_30) (by rfl) ?_
  refine bv_newC (N := 160) (w1 := kw_X8_31) C rfl cl_X6 tyX6_ok (mw (mT_1 19 rfl) rfl) (mw (mT_1 20 rfl) rfl) (mw (mT_1 2 rfl) rfl) hA rfl (by decide +kernel) rfl rfl (by decide) rfl (by decide) (fun ad20 hg20 => ?_)
  refine bv_blk C frk_X8 csk_X8 1 41 rfl (L1 := ([(1, .int (5)), (0, .ref 0)] : Lc)) (st1 := ([.ref 160, .ref 160, .int (5), .ref 45] : List Value)) (w1 := kw_X8_31) (by rfl) ?_
  refine bv_callIC (N := 161) (N' := 22) (r0 := 160) (w1 := kw_X8_32) C rfl ki_X6 ml_X8_9 im_X6_init ini_X6 cd_X6_init ok_X6_init rfl ⟨Nat.le_of_ble_eq_true rfl, Nat.le_of_ble_eq_true rfl⟩ ⟨Nat.le_of_ble_eq_true rfl, Nat.le_of_ble_eq_true rfl⟩ hA hAO (by decide) (by decide) (by decide +kernel) (by decide +kernel) (by decide +kernel) (by decide +kernel) rfl rfl (Nat.le_of_ble_eq_true rfl) rfl (by decide) (fun ad21 hg21 => ?_)
  refine bv_aastState (y := 160) C rfl rfl (by decide) (j := 5) (by decide) (by decide) (by decide) rfl (by decide) ?_
  refine bv_weq (w2 := kw_X8_33) rfl ?_
  refine bv_blk C frk_X8 csk_X8 1 44 rfl (L1 := ([(1, .int ((5) + Int32.ofInt 1)), (0, .ref 0)] : Lc)) (st1 := ([] : List Value)) (w1 := kw_X8_33) (by rfl) ?_
  rw [show ((5) + Int32.ofInt 1) = (6) from by decide]
  refine bv_goto (j := 31) C rfl rfl ?_
  refine bv_blk C frk_X8 csk_X8 3 34 rfl (L1 := ([(1, .int (6)), (0, .ref 0)] : Lc)) (st1 := ([.ref 45, .int (6)] : List Value)) (w1 := kw_X8_33) (by rfl) ?_
  refine bv_alen C 3 rfl rfl rfl (by decide) ?_
  refine bv_icmp_ge (j := 45) C rfl rfl (fun _ => ?_) (fun h => absurd (nI_le (a := 6) (b := 6) (by omega) (by omega)) h)
  refine bv_sub [1] (by rfl) ?_
  refine bv_ren (N := 182) (π := pi8) (sh' := shF) (w' := (layF gF8 sF8 idF idF (fun j => j) 0)) (L' := [(0, .ref 0)]) (st' := []) (by decide +kernel) (by decide +kernel) rfl rfl (fun ad22 hq22 => ?_)
  exact bv_vretN C rfl hr ((hq22 0).trans ((hg21 0 (Or.inl (by decide))).trans ((hg20 0 (Or.inl (by decide))).trans ((hg19 0 (Or.inl (by decide))).trans ((hg18 0 (Or.inl (by decide))).trans ((hg17 0 (Or.inl (by decide))).trans ((hg16 0 (Or.inl (by decide))).trans ((hg15 0 (Or.inl (by decide))).trans ((hg14 0 (Or.inl (by decide))).trans ((hg13 0 (Or.inl (by decide))).trans ((hg12 0 (Or.inl (by decide))).trans ((hg11 0 (Or.inl (by decide))).trans ((hg10 0 (Or.inl (by decide))).trans ((hg9 0 (Or.inl (by decide))).trans ((hg8 0 (Or.inl (by decide))).trans ((hg7 0 (Or.inl (by decide))).trans ((hg6 0 (Or.inl (by decide))).trans ((hg5 0 (Or.inl (by decide))).trans ((hg4 0 (Or.inl (by decide))).trans ((hg3 0 (Or.inl (by decide))).trans ((hg2 0 (Or.inl (by decide))).trans ((hg1 0 (Or.inl (by decide))).trans ((hq0 0))))))))))))))))))))))))
