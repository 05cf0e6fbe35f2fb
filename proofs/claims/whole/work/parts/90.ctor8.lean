def kw_X8_0 : Wd := fun _ k => defaultValue (tyX8 k)
def kw_X8_1 : Wd := extW kw_X8_0 1 (fun k => defaultValue (tyX6 k))
def kw_X8_2 : Wd := catW kw_X8_1 2 1 (layB gA6 (fun o => o) (fun o => o))
def kw_X8_3 : Wd := up2 kw_X8_2 0 0 (.ref 1)
def kw_X8_4 : Wd := extW kw_X8_3 23 (fun k => defaultValue (tyX6 k))
def kw_X8_5 : Wd := catW kw_X8_4 24 23 (layB gA6 (fun o => o) (fun o => o))
def kw_X8_6 : Wd := up2 kw_X8_5 0 1 (.ref 23)
def kw_X8_7 : Wd := extW kw_X8_6 45 (fun _ => .null)
def kw_X8_8 : Wd := up2 kw_X8_7 0 2 (.ref 45)
def kw_X8_9 : Wd := up2 kw_X8_8 0 3 (.int (0))
def kw_X8_10 : Wd := extW kw_X8_9 46 (fun k => defaultValue (tyX5 k))
def kw_X8_11 : Wd := catW kw_X8_10 47 46 layK5
def kw_X8_12 : Wd := up2 kw_X8_11 0 4 (.ref 46)
def kw_X8_13 : Wd := extW kw_X8_12 48 (fun k => defaultValue (tyX2 k))
def kw_X8_14 : Wd := catW kw_X8_13 49 48 layK2
def kw_X8_15 : Wd := up2 kw_X8_14 0 5 (.ref 48)
def kw_X8_16 : Wd := extW kw_X8_15 50 (fun k => defaultValue (tyX6 k))
def kw_X8_17 : Wd := catW kw_X8_16 51 50 (layB gA6 (fun o => o) (fun o => o))
def kw_X8_18 : Wd := up2 kw_X8_17 45 0 (.ref 50)
def kw_X8_19 : Wd := extW kw_X8_18 72 (fun k => defaultValue (tyX6 k))
def kw_X8_20 : Wd := catW kw_X8_19 73 72 (layB gA6 (fun o => o) (fun o => o))
def kw_X8_21 : Wd := up2 kw_X8_20 45 1 (.ref 72)
def kw_X8_22 : Wd := extW kw_X8_21 94 (fun k => defaultValue (tyX6 k))
def kw_X8_23 : Wd := catW kw_X8_22 95 94 (layB gA6 (fun o => o) (fun o => o))
def kw_X8_24 : Wd := up2 kw_X8_23 45 2 (.ref 94)
def kw_X8_25 : Wd := extW kw_X8_24 116 (fun k => defaultValue (tyX6 k))
def kw_X8_26 : Wd := catW kw_X8_25 117 116 (layB gA6 (fun o => o) (fun o => o))
def kw_X8_27 : Wd := up2 kw_X8_26 45 3 (.ref 116)
def kw_X8_28 : Wd := extW kw_X8_27 138 (fun k => defaultValue (tyX6 k))
def kw_X8_29 : Wd := catW kw_X8_28 139 138 (layB gA6 (fun o => o) (fun o => o))
def kw_X8_30 : Wd := up2 kw_X8_29 45 4 (.ref 138)
def kw_X8_31 : Wd := extW kw_X8_30 160 (fun k => defaultValue (tyX6 k))
def kw_X8_32 : Wd := catW kw_X8_31 161 160 (layB gA6 (fun o => o) (fun o => o))
def kw_X8_33 : Wd := up2 kw_X8_32 45 5 (.ref 160)
set_option maxRecDepth 100000 in
set_option maxHeartbeats 8000000 in
theorem ki_X8 {l : Launch} {D : va_G} {cA : FieldType → ClassId} {z0 : Nat} {SK SV : Nat → Nat} : bCN l D cA z0 SK SV yX8_init cX8_init 2 4 181 1932 shF kw_X8_0 182 (layF gF8 sF8 idF idF (fun j => j) 0) := by
  refine bCN_intro (tb := tb_X8_init) (own := RX8) pn_X8 rfl tk_X8_init rfl (Nat.le_of_ble_eq_true rfl) rfl ?_
  intro a sz p e s m args below meth c hA C hr hin hAO
  refine bv_ren (N := 1) (π := fun o => o) (sh' := shC8) (w' := kw_X8_0) (L' := [(0, .ref 0)]) (st' := []) (by decide +kernel) (by decide +kernel) rfl rfl (fun ad0 hq0 => ?_)
  refine bv_blk C frk_X8 csk_X8 1 1 rfl (L1 := ([(0, .ref 0)] : Lc)) (st1 := ([.ref 0] : List Value)) (w1 := kw_X8_0) (by rfl) ?_
  refine bv_obj C rfl (mw (mT_1 22 rfl) rfl) (mw (mT_1 23 rfl) rfl) (mw (mT_1 24 rfl) rfl) ⟨Nat.le_of_ble_eq_true rfl, Nat.le_of_ble_eq_true rfl⟩ ?_
  refine bv_blk C frk_X8 csk_X8 1 3 rfl (L1 := ([(0, .ref 0)] : Lc)) (st1 := ([.ref 0] : List Value)) (w1 := kw_X8_0) (by rfl) ?_
  refine bv_newC (N := 1) (w1 := kw_X8_1) C rfl cl_X6 tyX6_ok (mw (mT_1 25 rfl) rfl) (mw (mT_1 26 rfl) rfl) (mw (mT_1 2 rfl) rfl) hA rfl (by decide +kernel) rfl rfl (by decide) rfl (by decide) (fun ad1 hg1 => ?_)
  refine bv_blk C frk_X8 csk_X8 1 5 rfl (L1 := ([(0, .ref 0)] : Lc)) (st1 := ([.ref 1, .ref 1, .ref 0] : List Value)) (w1 := kw_X8_1) (by rfl) ?_
  refine bv_callIC (N := 2) (N' := 22) (r0 := 1) (w1 := kw_X8_2) C rfl ki_X6 ml_X8_9 im_X6_init ini_X6 cd_X6_init ok_X6_init rfl ⟨Nat.le_of_ble_eq_true rfl, Nat.le_of_ble_eq_true rfl⟩ ⟨Nat.le_of_ble_eq_true rfl, Nat.le_of_ble_eq_true rfl⟩ hA hAO (by decide) (by decide) (by decide +kernel) (by decide +kernel) (by decide +kernel) (by decide +kernel) rfl rfl (Nat.le_of_ble_eq_true rfl) rfl (by decide) (fun ad2 hg2 => ?_)
  refine bv_putF (ty := .object "BeamTraining$State") C rfl cl_X8 fl_X8_10 (by decide) rfl hin rfl (by decide +kernel) rfl rfl rfl (by decide) (by decide) ?_
  refine bv_weq (w2 := kw_X8_3) rfl ?_
  refine bv_blk C frk_X8 csk_X8 1 8 rfl (L1 := ([(0, .ref 0)] : Lc)) (st1 := ([.ref 0] : List Value)) (w1 := kw_X8_3) (by rfl) ?_
  refine bv_newC (N := 23) (w1 := kw_X8_4) C rfl cl_X6 tyX6_ok (mw (mT_1 25 rfl) rfl) (mw (mT_1 26 rfl) rfl) (mw (mT_1 2 rfl) rfl) hA rfl (by decide +kernel) rfl rfl (by decide) rfl (by decide) (fun ad3 hg3 => ?_)
  refine bv_blk C frk_X8 csk_X8 1 10 rfl (L1 := ([(0, .ref 0)] : Lc)) (st1 := ([.ref 23, .ref 23, .ref 0] : List Value)) (w1 := kw_X8_4) (by rfl) ?_
  refine bv_callIC (N := 24) (N' := 22) (r0 := 23) (w1 := kw_X8_5) C rfl ki_X6 ml_X8_9 im_X6_init ini_X6 cd_X6_init ok_X6_init rfl ⟨Nat.le_of_ble_eq_true rfl, Nat.le_of_ble_eq_true rfl⟩ ⟨Nat.le_of_ble_eq_true rfl, Nat.le_of_ble_eq_true rfl⟩ hA hAO (by decide) (by decide) (by decide +kernel) (by decide +kernel) (by decide +kernel) (by decide +kernel) rfl rfl (Nat.le_of_ble_eq_true rfl) rfl (by decide) (fun ad4 hg4 => ?_)
  refine bv_putF (ty := .object "BeamTraining$State") C rfl cl_X8 fl_X8_16 (by decide) rfl hin rfl (by decide +kernel) rfl rfl rfl (by decide) (by decide) ?_
  refine bv_weq (w2 := kw_X8_6) rfl ?_
  refine bv_blk C frk_X8 csk_X8 2 14 rfl (L1 := ([(0, .ref 0)] : Lc)) (st1 := ([.int (6), .ref 0] : List Value)) (w1 := kw_X8_6) (by rfl) ?_
  refine bv_newqC (N := 45) (n := 6) (t0 := 3) (w1 := kw_X8_7) C rfl rfl (mw (mT_1 25 rfl) rfl) hAO.1 hA rfl rfl (by decide) (by decide +kernel) rfl rfl (by decide) rfl (by decide) (fun ad5 hg5 => ?_)
  refine bv_putF (ty := .array (.object "BeamTraining$State")) C rfl cl_X8 fl_X8_19 (by decide) rfl hin rfl (by decide +kernel) rfl rfl rfl (by decide) (by decide) ?_
  refine bv_weq (w2 := kw_X8_8) rfl ?_
  refine bv_blk C frk_X8 csk_X8 2 18 rfl (L1 := ([(0, .ref 0)] : Lc)) (st1 := ([.int (0), .ref 0] : List Value)) (w1 := kw_X8_8) (by rfl) ?_
  refine bv_put (ty := .int) C rfl cl_X8 fl_X8_23 (by decide) rfl (by decide +kernel) rfl rfl rfl (by decide) (by decide) ?_
  refine bv_weq (w2 := kw_X8_9) rfl ?_
  refine bv_blk C frk_X8 csk_X8 1 20 rfl (L1 := ([(0, .ref 0)] : Lc)) (st1 := ([.ref 0] : List Value)) (w1 := kw_X8_9) (by rfl) ?_
  refine bv_newC (N := 46) (w1 := kw_X8_10) C rfl cl_X5 tyX5_ok (mw (mT_2 6 rfl) rfl) (mw (mT_2 7 rfl) rfl) (mw (mT_1 7 rfl) rfl) hA rfl (by decide +kernel) rfl rfl (by decide) rfl (by decide) (fun ad6 hg6 => ?_)
  refine bv_blk C frk_X8 csk_X8 1 22 rfl (L1 := ([(0, .ref 0)] : Lc)) (st1 := ([.ref 46, .ref 46, .ref 0] : List Value)) (w1 := kw_X8_10) (by rfl) ?_
  refine bv_callIC (N := 47) (N' := 2) (r0 := 46) (w1 := kw_X8_11) C rfl ki_X5 ml_X8_29 im_X5_init ini_X5 cd_X5_init ok_X5_init rfl ⟨Nat.le_of_ble_eq_true rfl, Nat.le_of_ble_eq_true rfl⟩ ⟨Nat.le_of_ble_eq_true rfl, Nat.le_of_ble_eq_true rfl⟩ hA hAO (by decide) (by decide) (by decide +kernel) (by decide +kernel) (by decide +kernel) (by decide +kernel) rfl rfl (Nat.le_of_ble_eq_true rfl) rfl (by decide) (fun ad7 hg7 => ?_)
  refine bv_putF (ty := .object "BeamTraining$Scenario") C rfl cl_X8 fl_X8_30 (by decide) rfl hin rfl (by decide +kernel) rfl rfl rfl (by decide) (by decide) ?_
  refine bv_weq (w2 := kw_X8_12) rfl ?_
  refine bv_blk C frk_X8 csk_X8 1 25 rfl (L1 := ([(0, .ref 0)] : Lc)) (st1 := ([.ref 0] : List Value)) (w1 := kw_X8_12) (by rfl) ?_
  refine bv_newC (N := 48) (w1 := kw_X8_13) C rfl cl_X2 tyX2_ok (mw (mT_2 31 rfl) rfl) (mw (mT_2 32 rfl) rfl) (mw (mT_1 8 rfl) rfl) hA rfl (by decide +kernel) rfl rfl (by decide) rfl (by decide) (fun ad8 hg8 => ?_)
  refine bv_blk C frk_X8 csk_X8 1 27 rfl (L1 := ([(0, .ref 0)] : Lc)) (st1 := ([.ref 48, .ref 48, .ref 0] : List Value)) (w1 := kw_X8_13) (by rfl) ?_
  refine bv_callIC (N := 49) (N' := 2) (r0 := 48) (w1 := kw_X8_14) C rfl ki_X2 ml_X8_36 im_X2_init ini_X2 cd_X2_init ok_X2_init rfl ⟨Nat.le_of_ble_eq_true rfl, Nat.le_of_ble_eq_true rfl⟩ ⟨Nat.le_of_ble_eq_true rfl, Nat.le_of_ble_eq_true rfl⟩ hA hAO (by decide) (by decide) (by decide +kernel) (by decide +kernel) (by decide +kernel) (by decide +kernel) rfl rfl (Nat.le_of_ble_eq_true rfl) rfl (by decide) (fun ad9 hg9 => ?_)
  refine bv_putF (ty := .object "BeamTraining$PairSurvey") C rfl cl_X8 fl_X8_37 (by decide) rfl hin rfl (by decide +kernel) rfl rfl rfl (by decide) (by decide) ?_
  refine bv_weq (w2 := kw_X8_15) rfl ?_
  refine bv_blk C frk_X8 csk_X8 5 34 rfl (L1 := ([(1, .int (0)), (0, .ref 0)] : Lc)) (st1 := ([.ref 45, .int (0)] : List Value)) (w1 := kw_X8_15) (by rfl) ?_
  refine bv_alen C 3 rfl rfl rfl (by decide) ?_
  refine bv_icmp_ge (j := 45) C rfl rfl (fun h => absurd h (nI_ge (a := 0) (b := 6) (by omega) (by omega))) (fun _ => ?_)
  refine bv_blk C frk_X8 csk_X8 3 39 rfl (L1 := ([(1, .int (0)), (0, .ref 0)] : Lc)) (st1 := ([.int (0), .ref 45] : List Value)) (w1 := kw_X8_15) (by rfl) ?_
  refine bv_newC (N := 50) (w1 := kw_X8_16) C rfl cl_X6 tyX6_ok (mw (mT_1 25 rfl) rfl) (mw (mT_1 26 rfl) rfl) (mw (mT_1 2 rfl) rfl) hA rfl (by decide +kernel) rfl rfl (by decide) rfl (by decide) (fun ad10 hg10 => ?_)
  refine bv_blk C frk_X8 csk_X8 1 41 rfl (L1 := ([(1, .int (0)), (0, .ref 0)] : Lc)) (st1 := ([.ref 50, .ref 50, .int (0), .ref 45] : List Value)) (w1 := kw_X8_16) (by rfl) ?_
  refine bv_callIC (N := 51) (N' := 22) (r0 := 50) (w1 := kw_X8_17) C rfl ki_X6 ml_X8_9 im_X6_init ini_X6 cd_X6_init ok_X6_init rfl ⟨Nat.le_of_ble_eq_true rfl, Nat.le_of_ble_eq_true rfl⟩ ⟨Nat.le_of_ble_eq_true rfl, Nat.le_of_ble_eq_true rfl⟩ hA hAO (by decide) (by decide) (by decide +kernel) (by decide +kernel) (by decide +kernel) (by decide +kernel) rfl rfl (Nat.le_of_ble_eq_true rfl) rfl (by decide) (fun ad11 hg11 => ?_)
  refine bv_aastState (y := 50) C rfl rfl (by decide) (j := 0) (by decide) (by decide) (by decide) rfl (by decide) ?_
  refine bv_weq (w2 := kw_X8_18) rfl ?_
  refine bv_blk C frk_X8 csk_X8 1 44 rfl (L1 := ([(1, .int ((0) + Int32.ofInt 1)), (0, .ref 0)] : Lc)) (st1 := ([] : List Value)) (w1 := kw_X8_18) (by rfl) ?_
  rw [show ((0) + Int32.ofInt 1) = (1) from by decide]
  refine bv_goto (j := 31) C rfl rfl ?_
  refine bv_blk C frk_X8 csk_X8 3 34 rfl (L1 := ([(1, .int (1)), (0, .ref 0)] : Lc)) (st1 := ([.ref 45, .int (1)] : List Value)) (w1 := kw_X8_18) (by rfl) ?_
  refine bv_alen C 3 rfl rfl rfl (by decide) ?_
  refine bv_icmp_ge (j := 45) C rfl rfl (fun h => absurd h (nI_ge (a := 1) (b := 6) (by omega) (by omega))) (fun _ => ?_)
  refine bv_blk C frk_X8 csk_X8 3 39 rfl (L1 := ([(1, .int (1)), (0, .ref 0)] : Lc)) (st1 := ([.int (1), .ref 45] : List Value)) (w1 := kw_X8_18) (by rfl) ?_
  refine bv_newC (N := 72) (w1 := kw_X8_19) C rfl cl_X6 tyX6_ok (mw (mT_1 25 rfl) rfl) (mw (mT_1 26 rfl) rfl) (mw (mT_1 2 rfl) rfl) hA rfl (by decide +kernel) rfl rfl (by decide) rfl (by decide) (fun ad12 hg12 => ?_)
  refine bv_blk C frk_X8 csk_X8 1 41 rfl (L1 := ([(1, .int (1)), (0, .ref 0)] : Lc)) (st1 := ([.ref 72, .ref 72, .int (1), .ref 45] : List Value)) (w1 := kw_X8_19) (by rfl) ?_
  refine bv_callIC (N := 73) (N' := 22) (r0 := 72) (w1 := kw_X8_20) C rfl ki_X6 ml_X8_9 im_X6_init ini_X6 cd_X6_init ok_X6_init rfl ⟨Nat.le_of_ble_eq_true rfl, Nat.le_of_ble_eq_true rfl⟩ ⟨Nat.le_of_ble_eq_true rfl, Nat.le_of_ble_eq_true rfl⟩ hA hAO (by decide) (by decide) (by decide +kernel) (by decide +kernel) (by decide +kernel) (by decide +kernel) rfl rfl (Nat.le_of_ble_eq_true rfl) rfl (by decide) (fun ad13 hg13 => ?_)
  refine bv_aastState (y := 72) C rfl rfl (by decide) (j := 1) (by decide) (by decide) (by decide) rfl (by decide) ?_
  refine bv_weq (w2 := kw_X8_21) rfl ?_
  refine bv_blk C frk_X8 csk_X8 1 44 rfl (L1 := ([(1, .int ((1) + Int32.ofInt 1)), (0, .ref 0)] : Lc)) (st1 := ([] : List Value)) (w1 := kw_X8_21) (by rfl) ?_
  rw [show ((1) + Int32.ofInt 1) = (2) from by decide]
  refine bv_goto (j := 31) C rfl rfl ?_
  refine bv_blk C frk_X8 csk_X8 3 34 rfl (L1 := ([(1, .int (2)), (0, .ref 0)] : Lc)) (st1 := ([.ref 45, .int (2)] : List Value)) (w1 := kw_X8_21) (by rfl) ?_
  refine bv_alen C 3 rfl rfl rfl (by decide) ?_
  refine bv_icmp_ge (j := 45) C rfl rfl (fun h => absurd h (nI_ge (a := 2) (b := 6) (by omega) (by omega))) (fun _ => ?_)
  refine bv_blk C frk_X8 csk_X8 3 39 rfl (L1 := ([(1, .int (2)), (0, .ref 0)] : Lc)) (st1 := ([.int (2), .ref 45] : List Value)) (w1 := kw_X8_21) (by rfl) ?_
  refine bv_newC (N := 94) (w1 := kw_X8_22) C rfl cl_X6 tyX6_ok (mw (mT_1 25 rfl) rfl) (mw (mT_1 26 rfl) rfl) (mw (mT_1 2 rfl) rfl) hA rfl (by decide +kernel) rfl rfl (by decide) rfl (by decide) (fun ad14 hg14 => ?_)
  refine bv_blk C frk_X8 csk_X8 1 41 rfl (L1 := ([(1, .int (2)), (0, .ref 0)] : Lc)) (st1 := ([.ref 94, .ref 94, .int (2), .ref 45] : List Value)) (w1 := kw_X8_22) (by rfl) ?_
  refine bv_callIC (N := 95) (N' := 22) (r0 := 94) (w1 := kw_X8_23) C rfl ki_X6 ml_X8_9 im_X6_init ini_X6 cd_X6_init ok_X6_init rfl ⟨Nat.le_of_ble_eq_true rfl, Nat.le_of_ble_eq_true rfl⟩ ⟨Nat.le_of_ble_eq_true rfl, Nat.le_of_ble_eq_true rfl⟩ hA hAO (by decide) (by decide) (by decide +kernel) (by decide +kernel) (by decide +kernel) (by decide +kernel) rfl rfl (Nat.le_of_ble_eq_true rfl) rfl (by decide) (fun ad15 hg15 => ?_)
  refine bv_aastState (y := 94) C rfl rfl (by decide) (j := 2) (by decide) (by decide) (by decide) rfl (by decide) ?_
  refine bv_weq (w2 := kw_X8_24) rfl ?_
  refine bv_blk C frk_X8 csk_X8 1 44 rfl (L1 := ([(1, .int ((2) + Int32.ofInt 1)), (0, .ref 0)] : Lc)) (st1 := ([] : List Value)) (w1 := kw_X8_24) (by rfl) ?_
  rw [show ((2) + Int32.ofInt 1) = (3) from by decide]
  refine bv_goto (j := 31) C rfl rfl ?_
  refine bv_blk C frk_X8 csk_X8 3 34 rfl (L1 := ([(1, .int (3)), (0, .ref 0)] : Lc)) (st1 := ([.ref 45, .int (3)] : List Value)) (w1 := kw_X8_24) (by rfl) ?_
  refine bv_alen C 3 rfl rfl rfl (by decide) ?_
  refine bv_icmp_ge (j := 45) C rfl rfl (fun h => absurd h (nI_ge (a := 3) (b := 6) (by omega) (by omega))) (fun _ => ?_)
  refine bv_blk C frk_X8 csk_X8 3 39 rfl (L1 := ([(1, .int (3)), (0, .ref 0)] : Lc)) (st1 := ([.int (3), .ref 45] : List Value)) (w1 := kw_X8_24) (by rfl) ?_
  refine bv_newC (N := 116) (w1 := kw_X8_25) C rfl cl_X6 tyX6_ok (mw (mT_1 25 rfl) rfl) (mw (mT_1 26 rfl) rfl) (mw (mT_1 2 rfl) rfl) hA rfl (by decide +kernel) rfl rfl (by decide) rfl (by decide) (fun ad16 hg16 => ?_)
  refine bv_blk C frk_X8 csk_X8 1 41 rfl (L1 := ([(1, .int (3)), (0, .ref 0)] : Lc)) (st1 := ([.ref 116, .ref 116, .int (3), .ref 45] : List Value)) (w1 := kw_X8_25) (by rfl) ?_
  refine bv_callIC (N := 117) (N' := 22) (r0 := 116) (w1 := kw_X8_26) C rfl ki_X6 ml_X8_9 im_X6_init ini_X6 cd_X6_init ok_X6_init rfl ⟨Nat.le_of_ble_eq_true rfl, Nat.le_of_ble_eq_true rfl⟩ ⟨Nat.le_of_ble_eq_true rfl, Nat.le_of_ble_eq_true rfl⟩ hA hAO (by decide) (by decide) (by decide +kernel) (by decide +kernel) (by decide +kernel) (by decide +kernel) rfl rfl (Nat.le_of_ble_eq_true rfl) rfl (by decide) (fun ad17 hg17 => ?_)
  refine bv_aastState (y := 116) C rfl rfl (by decide) (j := 3) (by decide) (by decide) (by decide) rfl (by decide) ?_
  refine bv_weq (w2 := kw_X8_27) rfl ?_
  refine bv_blk C frk_X8 csk_X8 1 44 rfl (L1 := ([(1, .int ((3) + Int32.ofInt 1)), (0, .ref 0)] : Lc)) (st1 := ([] : List Value)) (w1 := kw_X8_27) (by rfl) ?_
  rw [show ((3) + Int32.ofInt 1) = (4) from by decide]
  refine bv_goto (j := 31) C rfl rfl ?_
  refine bv_blk C frk_X8 csk_X8 3 34 rfl (L1 := ([(1, .int (4)), (0, .ref 0)] : Lc)) (st1 := ([.ref 45, .int (4)] : List Value)) (w1 := kw_X8_27) (by rfl) ?_
  refine bv_alen C 3 rfl rfl rfl (by decide) ?_
  refine bv_icmp_ge (j := 45) C rfl rfl (fun h => absurd h (nI_ge (a := 4) (b := 6) (by omega) (by omega))) (fun _ => ?_)
  refine bv_blk C frk_X8 csk_X8 3 39 rfl (L1 := ([(1, .int (4)), (0, .ref 0)] : Lc)) (st1 := ([.int (4), .ref 45] : List Value)) (w1 := kw_X8_27) (by rfl) ?_
  refine bv_newC (N := 138) (w1 := kw_X8_28) C rfl cl_X6 tyX6_ok (mw (mT_1 25 rfl) rfl) (mw (mT_1 26 rfl) rfl) (mw (mT_1 2 rfl) rfl) hA rfl (by decide +kernel) rfl rfl (by decide) rfl (by decide) (fun ad18 hg18 => ?_)
  refine bv_blk C frk_X8 csk_X8 1 41 rfl (L1 := ([(1, .int (4)), (0, .ref 0)] : Lc)) (st1 := ([.ref 138, .ref 138, .int (4), .ref 45] : List Value)) (w1 := kw_X8_28) (by rfl) ?_
  refine bv_callIC (N := 139) (N' := 22) (r0 := 138) (w1 := kw_X8_29) C rfl ki_X6 ml_X8_9 im_X6_init ini_X6 cd_X6_init ok_X6_init rfl ⟨Nat.le_of_ble_eq_true rfl, Nat.le_of_ble_eq_true rfl⟩ ⟨Nat.le_of_ble_eq_true rfl, Nat.le_of_ble_eq_true rfl⟩ hA hAO (by decide) (by decide) (by decide +kernel) (by decide +kernel) (by decide +kernel) (by decide +kernel) rfl rfl (Nat.le_of_ble_eq_true rfl) rfl (by decide) (fun ad19 hg19 => ?_)
  refine bv_aastState (y := 138) C rfl rfl (by decide) (j := 4) (by decide) (by decide) (by decide) rfl (by decide) ?_
  refine bv_weq (w2 := kw_X8_30) rfl ?_
  refine bv_blk C frk_X8 csk_X8 1 44 rfl (L1 := ([(1, .int ((4) + Int32.ofInt 1)), (0, .ref 0)] : Lc)) (st1 := ([] : List Value)) (w1 := kw_X8_30) (by rfl) ?_
  rw [show ((4) + Int32.ofInt 1) = (5) from by decide]
  refine bv_goto (j := 31) C rfl rfl ?_
  refine bv_blk C frk_X8 csk_X8 3 34 rfl (L1 := ([(1, .int (5)), (0, .ref 0)] : Lc)) (st1 := ([.ref 45, .int (5)] : List Value)) (w1 := kw_X8_30) (by rfl) ?_
  refine bv_alen C 3 rfl rfl rfl (by decide) ?_
  refine bv_icmp_ge (j := 45) C rfl rfl (fun h => absurd h (nI_ge (a := 5) (b := 6) (by omega) (by omega))) (fun _ => ?_)
  refine bv_blk C frk_X8 csk_X8 3 39 rfl (L1 := ([(1, .int (5)), (0, .ref 0)] : Lc)) (st1 := ([.int (5), .ref 45] : List Value)) (w1 := kw_X8_30) (by rfl) ?_
  refine bv_newC (N := 160) (w1 := kw_X8_31) C rfl cl_X6 tyX6_ok (mw (mT_1 25 rfl) rfl) (mw (mT_1 26 rfl) rfl) (mw (mT_1 2 rfl) rfl) hA rfl (by decide +kernel) rfl rfl (by decide) rfl (by decide) (fun ad20 hg20 => ?_)
  refine bv_blk C frk_X8 csk_X8 1 41 rfl (L1 := ([(1, .int (5)), (0, .ref 0)] : Lc)) (st1 := ([.ref 160, .ref 160, .int (5), .ref 45] : List Value)) (w1 := kw_X8_31) (by rfl) ?_
  refine bv_callIC (N := 161) (N' := 22) (r0 := 160) (w1 := kw_X8_32) C rfl ki_X6 ml_X8_9 im_X6_init ini_X6 cd_X6_init ok_X6_init rfl ⟨Nat.le_of_ble_eq_true rfl, Nat.le_of_ble_eq_true rfl⟩ ⟨Nat.le_of_ble_eq_true rfl, Nat.le_of_ble_eq_true rfl⟩ hA hAO (by decide) (by decide) (by decide +kernel) (by decide +kernel) (by decide +kernel) (by decide +kernel) rfl rfl (Nat.le_of_ble_eq_true rfl) rfl (by decide) (fun ad21 hg21 => ?_)
  refine bv_aastState (y := 160) C rfl rfl (by decide) (j := 5) (by decide) (by decide) (by decide) rfl (by decide) ?_
  refine bv_weq (w2 := kw_X8_33) rfl ?_
  refine bv_blk C frk_X8 csk_X8 1 44 rfl (L1 := ([(1, .int ((5) + Int32.ofInt 1)), (0, .ref 0)] : Lc)) (st1 := ([] : List Value)) (w1 := kw_X8_33) (by rfl) ?_
  rw [show ((5) + Int32.ofInt 1) = (6) from by decide]
  refine bv_goto (j := 31) C rfl rfl ?_
  refine bv_blk C frk_X8 csk_X8 3 34 rfl (L1 := ([(1, .int (6)), (0, .ref 0)] : Lc)) (st1 := ([.ref 45, .int (6)] : List Value)) (w1 := kw_X8_33) (by rfl) ?_
  refine bv_alen C 3 rfl rfl rfl (by decide) ?_
  refine bv_icmp_ge (j := 45) C rfl rfl (fun _ => ?_) (fun h => absurd (nI_le (a := 6) (b := 6) (by omega) (by omega)) h)
  refine bv_sub [1] (by rfl) ?_
  refine bv_ren (N := 182) (π := pi8) (sh' := shF) (w' := (layF gF8 sF8 idF idF (fun j => j) 0)) (L' := [(0, .ref 0)]) (st' := []) (by decide +kernel) (by decide +kernel) rfl rfl (fun ad22 hq22 => ?_)
  exact bv_vretN C rfl hr ((hq22 0).trans ((hg21 0 (Or.inl (by decide))).trans ((hg20 0 (Or.inl (by decide))).trans ((hg19 0 (Or.inl (by decide))).trans ((hg18 0 (Or.inl (by decide))).trans ((hg17 0 (Or.inl (by decide))).trans ((hg16 0 (Or.inl (by decide))).trans ((hg15 0 (Or.inl (by decide))).trans ((hg14 0 (Or.inl (by decide))).trans ((hg13 0 (Or.inl (by decide))).trans ((hg12 0 (Or.inl (by decide))).trans ((hg11 0 (Or.inl (by decide))).trans ((hg10 0 (Or.inl (by decide))).trans ((hg9 0 (Or.inl (by decide))).trans ((hg8 0 (Or.inl (by decide))).trans ((hg7 0 (Or.inl (by decide))).trans ((hg6 0 (Or.inl (by decide))).trans ((hg5 0 (Or.inl (by decide))).trans ((hg4 0 (Or.inl (by decide))).trans ((hg3 0 (Or.inl (by decide))).trans ((hg2 0 (Or.inl (by decide))).trans ((hg1 0 (Or.inl (by decide))).trans ((hq0 0))))))))))))))))))))))))
def kw_X9_0 : Wd := fun _ k => defaultValue (tyX9 k)
def kw_X9_1 : Wd := extW kw_X9_0 1 (fun _ => defaultValue .int)
def kw_X9_2 : Wd := up2 kw_X9_1 0 0 (.ref 1)
def kw_X9_3 : Wd := extW kw_X9_2 2 (fun _ => defaultValue .float)
def kw_X9_4 : Wd := up2 kw_X9_3 2 0 (.float FP.fconst1)
def kw_X9_5 : Wd := up2 kw_X9_4 2 1 (.float (1065852029))
def kw_X9_6 : Wd := up2 kw_X9_5 2 2 (.float (1066380502))
def kw_X9_7 : Wd := up2 kw_X9_6 2 3 (.float (1066940400))
def kw_X9_8 : Wd := up2 kw_X9_7 2 4 (.float (1067533592))
def kw_X9_9 : Wd := up2 kw_X9_8 2 5 (.float (1068162056))
def kw_X9_10 : Wd := up2 kw_X9_9 2 6 (.float (1068827891))
def kw_X9_11 : Wd := up2 kw_X9_10 2 7 (.float (1069533319))
def kw_X9_12 : Wd := up2 kw_X9_11 2 8 (.float (1070280693))
def kw_X9_13 : Wd := up2 kw_X9_12 2 9 (.float (1071072509))
def kw_X9_14 : Wd := up2 kw_X9_13 2 10 (.float (1071911408))
def kw_X9_15 : Wd := up2 kw_X9_14 2 11 (.float (1072800191))
def kw_X9_16 : Wd := up2 kw_X9_15 0 2 (.ref 2)
def kw_X9_17 : Wd := extW kw_X9_16 3 (fun _ => defaultValue .int)
def kw_X9_18 : Wd := up2 kw_X9_17 0 3 (.ref 3)
def kw_X9_19 : Wd := extW kw_X9_18 4 (fun _ => defaultValue .int)
def kw_X9_20 : Wd := up2 kw_X9_19 0 8 (.ref 4)
def kw_X9_21 : Wd := extW kw_X9_20 5 (fun _ => defaultValue .int)
def kw_X9_22 : Wd := up2 kw_X9_21 5 0 (.int (115))
def kw_X9_23 : Wd := up2 kw_X9_22 5 1 (.int (116))
def kw_X9_24 : Wd := up2 kw_X9_23 5 2 (.int (97))
def kw_X9_25 : Wd := up2 kw_X9_24 5 3 (.int (116))
def kw_X9_26 : Wd := up2 kw_X9_25 5 4 (.int (105))
def kw_X9_27 : Wd := up2 kw_X9_26 5 5 (.int (111))
def kw_X9_28 : Wd := up2 kw_X9_27 5 6 (.int (110))
def kw_X9_29 : Wd := up2 kw_X9_28 5 7 (.int (112))
def kw_X9_30 : Wd := up2 kw_X9_29 5 8 (.int (97))
def kw_X9_31 : Wd := up2 kw_X9_30 5 9 (.int (116))
def kw_X9_32 : Wd := up2 kw_X9_31 5 10 (.int (104))
def kw_X9_33 : Wd := up2 kw_X9_32 5 11 (.int (100))
def kw_X9_34 : Wd := up2 kw_X9_33 5 12 (.int (114))
def kw_X9_35 : Wd := up2 kw_X9_34 5 13 (.int (105))
def kw_X9_36 : Wd := up2 kw_X9_35 5 14 (.int (102))
def kw_X9_37 : Wd := up2 kw_X9_36 5 15 (.int (116))
def kw_X9_38 : Wd := up2 kw_X9_37 5 16 (.int (116))
def kw_X9_39 : Wd := up2 kw_X9_38 5 17 (.int (104))
def kw_X9_40 : Wd := up2 kw_X9_39 5 18 (.int (114))
def kw_X9_41 : Wd := up2 kw_X9_40 5 19 (.int (101))
def kw_X9_42 : Wd := up2 kw_X9_41 5 20 (.int (115))
def kw_X9_43 : Wd := up2 kw_X9_42 5 21 (.int (104))
def kw_X9_44 : Wd := up2 kw_X9_43 5 22 (.int (111))
def kw_X9_45 : Wd := up2 kw_X9_44 5 23 (.int (108))
def kw_X9_46 : Wd := up2 kw_X9_45 5 24 (.int (100))
def kw_X9_47 : Wd := up2 kw_X9_46 5 25 (.int (102))
def kw_X9_48 : Wd := up2 kw_X9_47 5 26 (.int (97))
def kw_X9_49 : Wd := up2 kw_X9_48 5 27 (.int (100))
def kw_X9_50 : Wd := up2 kw_X9_49 5 28 (.int (101))
def kw_X9_51 : Wd := up2 kw_X9_50 5 29 (.int (112))
def kw_X9_52 : Wd := up2 kw_X9_51 5 30 (.int (97))
def kw_X9_53 : Wd := up2 kw_X9_52 5 31 (.int (116))
def kw_X9_54 : Wd := up2 kw_X9_53 0 13 (.ref 5)
def kw_X9_55 : Wd := extW kw_X9_54 6 (fun _ => defaultValue .int)
def kw_X9_56 : Wd := up2 kw_X9_55 6 0 (.int (105))
def kw_X9_57 : Wd := up2 kw_X9_56 6 1 (.int (101))
def kw_X9_58 : Wd := up2 kw_X9_57 6 2 (.int (110))
def kw_X9_59 : Wd := up2 kw_X9_58 6 3 (.int (99))
def kw_X9_60 : Wd := up2 kw_X9_59 6 4 (.int (101))
def kw_X9_61 : Wd := up2 kw_X9_60 0 14 (.ref 6)
def kw_X9_62 : Wd := extW kw_X9_61 7 (fun _ => defaultValue .int)
def kw_X9_63 : Wd := up2 kw_X9_62 7 0 (.int (0))
def kw_X9_64 : Wd := up2 kw_X9_63 7 1 (.int (7))
def kw_X9_65 : Wd := up2 kw_X9_64 7 2 (.int (11))
def kw_X9_66 : Wd := up2 kw_X9_65 7 3 (.int (16))
def kw_X9_67 : Wd := up2 kw_X9_66 7 4 (.int (25))
def kw_X9_68 : Wd := up2 kw_X9_67 7 5 (.int (29))
def kw_X9_69 : Wd := up2 kw_X9_68 7 6 (.int (37))
def kw_X9_70 : Wd := up2 kw_X9_69 0 15 (.ref 7)
def kw_X9_71 : Wd := extW kw_X9_70 8 (fun _ => defaultValue .int)
def kw_X9_72 : Wd := up2 kw_X9_71 0 17 (.ref 8)
set_option maxRecDepth 100000 in
set_option maxHeartbeats 8000000 in
theorem ki_X9 {l : Launch} {D : va_G} {cA : FieldType → ClassId} {z0 : Nat} {SK SV : Nat → Nat} : bCN l D cA z0 SK SV yX9_init cX9_init 1 3 8 1814 shM kw_X9_0 9 (layM (beginG zG) 0) := by
  refine bCN_intro (tb := tb_X9_init) (own := RX9) pn_X9 rfl tk_X9_init rfl (Nat.le_of_ble_eq_true rfl) rfl ?_
  intro a sz p e s m args below meth c hA C hr hin hAO
  refine bv_blk C frk_X9 csk_X9 1 1 rfl (L1 := ([(0, .ref 0)] : Lc)) (st1 := ([.ref 0] : List Value)) (w1 := kw_X9_0) (by rfl) ?_
  refine bv_obj C rfl (mw (mT_4 195 rfl) rfl) (mw (mT_1 23 rfl) rfl) (mw (mT_1 24 rfl) rfl) ⟨Nat.le_of_ble_eq_true rfl, Nat.le_of_ble_eq_true rfl⟩ ?_
  refine bv_blk C frk_X9 csk_X9 2 4 rfl (L1 := ([(0, .ref 0)] : Lc)) (st1 := ([.int (1376), .ref 0] : List Value)) (w1 := kw_X9_0) (by rfl) ?_
  refine bv_newaC (N := 1) (n := 1376) (t0 := 0) (ty := .int) (w1 := kw_X9_1) C rfl rfl (by decide) rfl (mw (mT_1 61 rfl) rfl) hA rfl rfl (by decide) (by decide +kernel) rfl rfl (by decide) rfl (by decide) (fun ad1 hg1 => ?_)
  refine bv_putF (ty := .array .int) C rfl cl_X9 fl_X9_7 (by decide) rfl hin rfl (by decide +kernel) rfl rfl rfl (by decide) (by decide) ?_
  refine bv_weq (w2 := kw_X9_2) rfl ?_
  refine bv_blk C frk_X9 csk_X9 2 8 rfl (L1 := ([(0, .ref 0)] : Lc)) (st1 := ([.int (12), .ref 0] : List Value)) (w1 := kw_X9_2) (by rfl) ?_
  refine bv_newaC (N := 2) (n := 12) (t0 := 2) (ty := .float) (w1 := kw_X9_3) C rfl rfl (by decide) rfl (mw (mT_5 38 rfl) rfl) hA rfl rfl (by decide) (by decide +kernel) rfl rfl (by decide) rfl (by decide) (fun ad2 hg2 => ?_)
  refine bv_blk C frk_X9 csk_X9 2 11 rfl (L1 := ([(0, .ref 0)] : Lc)) (st1 := ([.int (0), .ref 2, .ref 2, .ref 0] : List Value)) (w1 := kw_X9_3) (by rfl) ?_
  refine bv_fconst1 C rfl ?_
  refine bv_fast C rfl rfl (by decide) (j := 0) (by decide) (by decide) (by decide) ?_
  refine bv_weq (w2 := kw_X9_4) rfl ?_
  refine bv_blk C frk_X9 csk_X9 3 16 rfl (L1 := ([(0, .ref 0)] : Lc)) (st1 := ([.float (1065852029), .int (1), .ref 2, .ref 2, .ref 0] : List Value)) (w1 := kw_X9_4) (by rfl) ?_
  refine bv_fast C rfl rfl (by decide) (j := 1) (by decide) (by decide) (by decide) ?_
  refine bv_weq (w2 := kw_X9_5) rfl ?_
  refine bv_blk C frk_X9 csk_X9 3 20 rfl (L1 := ([(0, .ref 0)] : Lc)) (st1 := ([.float (1066380502), .int (2), .ref 2, .ref 2, .ref 0] : List Value)) (w1 := kw_X9_5) (by rfl) ?_
  refine bv_fast C rfl rfl (by decide) (j := 2) (by decide) (by decide) (by decide) ?_
  refine bv_weq (w2 := kw_X9_6) rfl ?_
  refine bv_blk C frk_X9 csk_X9 3 24 rfl (L1 := ([(0, .ref 0)] : Lc)) (st1 := ([.float (1066940400), .int (3), .ref 2, .ref 2, .ref 0] : List Value)) (w1 := kw_X9_6) (by rfl) ?_
  refine bv_fast C rfl rfl (by decide) (j := 3) (by decide) (by decide) (by decide) ?_
  refine bv_weq (w2 := kw_X9_7) rfl ?_
  refine bv_blk C frk_X9 csk_X9 3 28 rfl (L1 := ([(0, .ref 0)] : Lc)) (st1 := ([.float (1067533592), .int (4), .ref 2, .ref 2, .ref 0] : List Value)) (w1 := kw_X9_7) (by rfl) ?_
  refine bv_fast C rfl rfl (by decide) (j := 4) (by decide) (by decide) (by decide) ?_
  refine bv_weq (w2 := kw_X9_8) rfl ?_
  refine bv_blk C frk_X9 csk_X9 3 32 rfl (L1 := ([(0, .ref 0)] : Lc)) (st1 := ([.float (1068162056), .int (5), .ref 2, .ref 2, .ref 0] : List Value)) (w1 := kw_X9_8) (by rfl) ?_
  refine bv_fast C rfl rfl (by decide) (j := 5) (by decide) (by decide) (by decide) ?_
  refine bv_weq (w2 := kw_X9_9) rfl ?_
  refine bv_blk C frk_X9 csk_X9 3 36 rfl (L1 := ([(0, .ref 0)] : Lc)) (st1 := ([.float (1068827891), .int (6), .ref 2, .ref 2, .ref 0] : List Value)) (w1 := kw_X9_9) (by rfl) ?_
  refine bv_fast C rfl rfl (by decide) (j := 6) (by decide) (by decide) (by decide) ?_
  refine bv_weq (w2 := kw_X9_10) rfl ?_
  refine bv_blk C frk_X9 csk_X9 3 40 rfl (L1 := ([(0, .ref 0)] : Lc)) (st1 := ([.float (1069533319), .int (7), .ref 2, .ref 2, .ref 0] : List Value)) (w1 := kw_X9_10) (by rfl) ?_
  refine bv_fast C rfl rfl (by decide) (j := 7) (by decide) (by decide) (by decide) ?_
  refine bv_weq (w2 := kw_X9_11) rfl ?_
  refine bv_blk C frk_X9 csk_X9 3 44 rfl (L1 := ([(0, .ref 0)] : Lc)) (st1 := ([.float (1070280693), .int (8), .ref 2, .ref 2, .ref 0] : List Value)) (w1 := kw_X9_11) (by rfl) ?_
  refine bv_fast C rfl rfl (by decide) (j := 8) (by decide) (by decide) (by decide) ?_
  refine bv_weq (w2 := kw_X9_12) rfl ?_
  refine bv_blk C frk_X9 csk_X9 3 48 rfl (L1 := ([(0, .ref 0)] : Lc)) (st1 := ([.float (1071072509), .int (9), .ref 2, .ref 2, .ref 0] : List Value)) (w1 := kw_X9_12) (by rfl) ?_
  refine bv_fast C rfl rfl (by decide) (j := 9) (by decide) (by decide) (by decide) ?_
  refine bv_weq (w2 := kw_X9_13) rfl ?_
  refine bv_blk C frk_X9 csk_X9 3 52 rfl (L1 := ([(0, .ref 0)] : Lc)) (st1 := ([.float (1071911408), .int (10), .ref 2, .ref 2, .ref 0] : List Value)) (w1 := kw_X9_13) (by rfl) ?_
  refine bv_fast C rfl rfl (by decide) (j := 10) (by decide) (by decide) (by decide) ?_
  refine bv_weq (w2 := kw_X9_14) rfl ?_
  refine bv_blk C frk_X9 csk_X9 3 56 rfl (L1 := ([(0, .ref 0)] : Lc)) (st1 := ([.float (1072800191), .int (11), .ref 2, .ref 2, .ref 0] : List Value)) (w1 := kw_X9_14) (by rfl) ?_
  refine bv_fast C rfl rfl (by decide) (j := 11) (by decide) (by decide) (by decide) ?_
  refine bv_weq (w2 := kw_X9_15) rfl ?_
  refine bv_putF (ty := .array .float) C rfl cl_X9 fl_X9_24 (by decide) rfl hin rfl (by decide +kernel) rfl rfl rfl (by decide) (by decide) ?_
  refine bv_weq (w2 := kw_X9_16) rfl ?_
  refine bv_blk C frk_X9 csk_X9 2 60 rfl (L1 := ([(0, .ref 0)] : Lc)) (st1 := ([.int (120), .ref 0] : List Value)) (w1 := kw_X9_16) (by rfl) ?_
  refine bv_newaC (N := 3) (n := 120) (t0 := 0) (ty := .int) (w1 := kw_X9_17) C rfl rfl (by decide) rfl (mw (mT_1 61 rfl) rfl) hA rfl rfl (by decide) (by decide +kernel) rfl rfl (by decide) rfl (by decide) (fun ad3 hg3 => ?_)
  refine bv_putF (ty := .array .int) C rfl cl_X9 fl_X9_28 (by decide) rfl hin rfl (by decide +kernel) rfl rfl rfl (by decide) (by decide) ?_
  refine bv_weq (w2 := kw_X9_18) rfl ?_
  refine bv_blk C frk_X9 csk_X9 2 64 rfl (L1 := ([(0, .ref 0)] : Lc)) (st1 := ([.int (256), .ref 0] : List Value)) (w1 := kw_X9_18) (by rfl) ?_
  refine bv_newaC (N := 4) (n := 256) (t0 := 0) (ty := .int) (w1 := kw_X9_19) C rfl rfl (by decide) rfl (mw (mT_1 61 rfl) rfl) hA rfl rfl (by decide) (by decide +kernel) rfl rfl (by decide) rfl (by decide) (fun ad4 hg4 => ?_)
  refine bv_putF (ty := .array .int) C rfl cl_X9 fl_X9_31 (by decide) rfl hin rfl (by decide +kernel) rfl rfl rfl (by decide) (by decide) ?_
  refine bv_weq (w2 := kw_X9_20) rfl ?_
  refine bv_blk C frk_X9 csk_X9 2 68 rfl (L1 := ([(0, .ref 0)] : Lc)) (st1 := ([.int (32), .ref 0] : List Value)) (w1 := kw_X9_20) (by rfl) ?_
  refine bv_newaC (N := 5) (n := 32) (t0 := 0) (ty := .int) (w1 := kw_X9_21) C rfl rfl (by decide) rfl (mw (mT_1 61 rfl) rfl) hA rfl rfl (by decide) (by decide +kernel) rfl rfl (by decide) rfl (by decide) (fun ad5 hg5 => ?_)
  refine bv_blk C frk_X9 csk_X9 3 72 rfl (L1 := ([(0, .ref 0)] : Lc)) (st1 := ([.int (115), .int (0), .ref 5, .ref 5, .ref 0] : List Value)) (w1 := kw_X9_21) (by rfl) ?_
  refine bv_iast C rfl rfl (by decide) (j := 0) (by decide) (by decide) (by decide) ?_
  refine bv_weq (w2 := kw_X9_22) rfl ?_
  refine bv_blk C frk_X9 csk_X9 3 76 rfl (L1 := ([(0, .ref 0)] : Lc)) (st1 := ([.int (116), .int (1), .ref 5, .ref 5, .ref 0] : List Value)) (w1 := kw_X9_22) (by rfl) ?_
  refine bv_iast C rfl rfl (by decide) (j := 1) (by decide) (by decide) (by decide) ?_
  refine bv_weq (w2 := kw_X9_23) rfl ?_
  refine bv_blk C frk_X9 csk_X9 3 80 rfl (L1 := ([(0, .ref 0)] : Lc)) (st1 := ([.int (97), .int (2), .ref 5, .ref 5, .ref 0] : List Value)) (w1 := kw_X9_23) (by rfl) ?_
  refine bv_iast C rfl rfl (by decide) (j := 2) (by decide) (by decide) (by decide) ?_
  refine bv_weq (w2 := kw_X9_24) rfl ?_
  refine bv_blk C frk_X9 csk_X9 3 84 rfl (L1 := ([(0, .ref 0)] : Lc)) (st1 := ([.int (116), .int (3), .ref 5, .ref 5, .ref 0] : List Value)) (w1 := kw_X9_24) (by rfl) ?_
  refine bv_iast C rfl rfl (by decide) (j := 3) (by decide) (by decide) (by decide) ?_
  refine bv_weq (w2 := kw_X9_25) rfl ?_
  refine bv_blk C frk_X9 csk_X9 3 88 rfl (L1 := ([(0, .ref 0)] : Lc)) (st1 := ([.int (105), .int (4), .ref 5, .ref 5, .ref 0] : List Value)) (w1 := kw_X9_25) (by rfl) ?_
  refine bv_iast C rfl rfl (by decide) (j := 4) (by decide) (by decide) (by decide) ?_
  refine bv_weq (w2 := kw_X9_26) rfl ?_
  refine bv_blk C frk_X9 csk_X9 3 92 rfl (L1 := ([(0, .ref 0)] : Lc)) (st1 := ([.int (111), .int (5), .ref 5, .ref 5, .ref 0] : List Value)) (w1 := kw_X9_26) (by rfl) ?_
  refine bv_iast C rfl rfl (by decide) (j := 5) (by decide) (by decide) (by decide) ?_
  refine bv_weq (w2 := kw_X9_27) rfl ?_
  refine bv_blk C frk_X9 csk_X9 3 96 rfl (L1 := ([(0, .ref 0)] : Lc)) (st1 := ([.int (110), .int (6), .ref 5, .ref 5, .ref 0] : List Value)) (w1 := kw_X9_27) (by rfl) ?_
  refine bv_iast C rfl rfl (by decide) (j := 6) (by decide) (by decide) (by decide) ?_
  refine bv_weq (w2 := kw_X9_28) rfl ?_
  refine bv_blk C frk_X9 csk_X9 3 100 rfl (L1 := ([(0, .ref 0)] : Lc)) (st1 := ([.int (112), .int (7), .ref 5, .ref 5, .ref 0] : List Value)) (w1 := kw_X9_28) (by rfl) ?_
  refine bv_iast C rfl rfl (by decide) (j := 7) (by decide) (by decide) (by decide) ?_
  refine bv_weq (w2 := kw_X9_29) rfl ?_
  refine bv_blk C frk_X9 csk_X9 3 104 rfl (L1 := ([(0, .ref 0)] : Lc)) (st1 := ([.int (97), .int (8), .ref 5, .ref 5, .ref 0] : List Value)) (w1 := kw_X9_29) (by rfl) ?_
  refine bv_iast C rfl rfl (by decide) (j := 8) (by decide) (by decide) (by decide) ?_
  refine bv_weq (w2 := kw_X9_30) rfl ?_
  refine bv_blk C frk_X9 csk_X9 3 108 rfl (L1 := ([(0, .ref 0)] : Lc)) (st1 := ([.int (116), .int (9), .ref 5, .ref 5, .ref 0] : List Value)) (w1 := kw_X9_30) (by rfl) ?_
  refine bv_iast C rfl rfl (by decide) (j := 9) (by decide) (by decide) (by decide) ?_
  refine bv_weq (w2 := kw_X9_31) rfl ?_
  refine bv_blk C frk_X9 csk_X9 3 112 rfl (L1 := ([(0, .ref 0)] : Lc)) (st1 := ([.int (104), .int (10), .ref 5, .ref 5, .ref 0] : List Value)) (w1 := kw_X9_31) (by rfl) ?_
  refine bv_iast C rfl rfl (by decide) (j := 10) (by decide) (by decide) (by decide) ?_
  refine bv_weq (w2 := kw_X9_32) rfl ?_
  refine bv_blk C frk_X9 csk_X9 3 116 rfl (L1 := ([(0, .ref 0)] : Lc)) (st1 := ([.int (100), .int (11), .ref 5, .ref 5, .ref 0] : List Value)) (w1 := kw_X9_32) (by rfl) ?_
  refine bv_iast C rfl rfl (by decide) (j := 11) (by decide) (by decide) (by decide) ?_
  refine bv_weq (w2 := kw_X9_33) rfl ?_
  refine bv_blk C frk_X9 csk_X9 3 120 rfl (L1 := ([(0, .ref 0)] : Lc)) (st1 := ([.int (114), .int (12), .ref 5, .ref 5, .ref 0] : List Value)) (w1 := kw_X9_33) (by rfl) ?_
  refine bv_iast C rfl rfl (by decide) (j := 12) (by decide) (by decide) (by decide) ?_
  refine bv_weq (w2 := kw_X9_34) rfl ?_
  refine bv_blk C frk_X9 csk_X9 3 124 rfl (L1 := ([(0, .ref 0)] : Lc)) (st1 := ([.int (105), .int (13), .ref 5, .ref 5, .ref 0] : List Value)) (w1 := kw_X9_34) (by rfl) ?_
  refine bv_iast C rfl rfl (by decide) (j := 13) (by decide) (by decide) (by decide) ?_
  refine bv_weq (w2 := kw_X9_35) rfl ?_
  refine bv_blk C frk_X9 csk_X9 3 128 rfl (L1 := ([(0, .ref 0)] : Lc)) (st1 := ([.int (102), .int (14), .ref 5, .ref 5, .ref 0] : List Value)) (w1 := kw_X9_35) (by rfl) ?_
  refine bv_iast C rfl rfl (by decide) (j := 14) (by decide) (by decide) (by decide) ?_
  refine bv_weq (w2 := kw_X9_36) rfl ?_
  refine bv_blk C frk_X9 csk_X9 3 132 rfl (L1 := ([(0, .ref 0)] : Lc)) (st1 := ([.int (116), .int (15), .ref 5, .ref 5, .ref 0] : List Value)) (w1 := kw_X9_36) (by rfl) ?_
  refine bv_iast C rfl rfl (by decide) (j := 15) (by decide) (by decide) (by decide) ?_
  refine bv_weq (w2 := kw_X9_37) rfl ?_
  refine bv_blk C frk_X9 csk_X9 3 136 rfl (L1 := ([(0, .ref 0)] : Lc)) (st1 := ([.int (116), .int (16), .ref 5, .ref 5, .ref 0] : List Value)) (w1 := kw_X9_37) (by rfl) ?_
  refine bv_iast C rfl rfl (by decide) (j := 16) (by decide) (by decide) (by decide) ?_
  refine bv_weq (w2 := kw_X9_38) rfl ?_
  refine bv_blk C frk_X9 csk_X9 3 140 rfl (L1 := ([(0, .ref 0)] : Lc)) (st1 := ([.int (104), .int (17), .ref 5, .ref 5, .ref 0] : List Value)) (w1 := kw_X9_38) (by rfl) ?_
  refine bv_iast C rfl rfl (by decide) (j := 17) (by decide) (by decide) (by decide) ?_
  refine bv_weq (w2 := kw_X9_39) rfl ?_
  refine bv_blk C frk_X9 csk_X9 3 144 rfl (L1 := ([(0, .ref 0)] : Lc)) (st1 := ([.int (114), .int (18), .ref 5, .ref 5, .ref 0] : List Value)) (w1 := kw_X9_39) (by rfl) ?_
  refine bv_iast C rfl rfl (by decide) (j := 18) (by decide) (by decide) (by decide) ?_
  refine bv_weq (w2 := kw_X9_40) rfl ?_
  refine bv_blk C frk_X9 csk_X9 3 148 rfl (L1 := ([(0, .ref 0)] : Lc)) (st1 := ([.int (101), .int (19), .ref 5, .ref 5, .ref 0] : List Value)) (w1 := kw_X9_40) (by rfl) ?_
  refine bv_iast C rfl rfl (by decide) (j := 19) (by decide) (by decide) (by decide) ?_
  refine bv_weq (w2 := kw_X9_41) rfl ?_
  refine bv_blk C frk_X9 csk_X9 3 152 rfl (L1 := ([(0, .ref 0)] : Lc)) (st1 := ([.int (115), .int (20), .ref 5, .ref 5, .ref 0] : List Value)) (w1 := kw_X9_41) (by rfl) ?_
  refine bv_iast C rfl rfl (by decide) (j := 20) (by decide) (by decide) (by decide) ?_
  refine bv_weq (w2 := kw_X9_42) rfl ?_
  refine bv_blk C frk_X9 csk_X9 3 156 rfl (L1 := ([(0, .ref 0)] : Lc)) (st1 := ([.int (104), .int (21), .ref 5, .ref 5, .ref 0] : List Value)) (w1 := kw_X9_42) (by rfl) ?_
  refine bv_iast C rfl rfl (by decide) (j := 21) (by decide) (by decide) (by decide) ?_
  refine bv_weq (w2 := kw_X9_43) rfl ?_
  refine bv_blk C frk_X9 csk_X9 3 160 rfl (L1 := ([(0, .ref 0)] : Lc)) (st1 := ([.int (111), .int (22), .ref 5, .ref 5, .ref 0] : List Value)) (w1 := kw_X9_43) (by rfl) ?_
  refine bv_iast C rfl rfl (by decide) (j := 22) (by decide) (by decide) (by decide) ?_
  refine bv_weq (w2 := kw_X9_44) rfl ?_
  refine bv_blk C frk_X9 csk_X9 3 164 rfl (L1 := ([(0, .ref 0)] : Lc)) (st1 := ([.int (108), .int (23), .ref 5, .ref 5, .ref 0] : List Value)) (w1 := kw_X9_44) (by rfl) ?_
  refine bv_iast C rfl rfl (by decide) (j := 23) (by decide) (by decide) (by decide) ?_
  refine bv_weq (w2 := kw_X9_45) rfl ?_
  refine bv_blk C frk_X9 csk_X9 3 168 rfl (L1 := ([(0, .ref 0)] : Lc)) (st1 := ([.int (100), .int (24), .ref 5, .ref 5, .ref 0] : List Value)) (w1 := kw_X9_45) (by rfl) ?_
  refine bv_iast C rfl rfl (by decide) (j := 24) (by decide) (by decide) (by decide) ?_
  refine bv_weq (w2 := kw_X9_46) rfl ?_
  refine bv_blk C frk_X9 csk_X9 3 172 rfl (L1 := ([(0, .ref 0)] : Lc)) (st1 := ([.int (102), .int (25), .ref 5, .ref 5, .ref 0] : List Value)) (w1 := kw_X9_46) (by rfl) ?_
  refine bv_iast C rfl rfl (by decide) (j := 25) (by decide) (by decide) (by decide) ?_
  refine bv_weq (w2 := kw_X9_47) rfl ?_
  refine bv_blk C frk_X9 csk_X9 3 176 rfl (L1 := ([(0, .ref 0)] : Lc)) (st1 := ([.int (97), .int (26), .ref 5, .ref 5, .ref 0] : List Value)) (w1 := kw_X9_47) (by rfl) ?_
  refine bv_iast C rfl rfl (by decide) (j := 26) (by decide) (by decide) (by decide) ?_
  refine bv_weq (w2 := kw_X9_48) rfl ?_
  refine bv_blk C frk_X9 csk_X9 3 180 rfl (L1 := ([(0, .ref 0)] : Lc)) (st1 := ([.int (100), .int (27), .ref 5, .ref 5, .ref 0] : List Value)) (w1 := kw_X9_48) (by rfl) ?_
  refine bv_iast C rfl rfl (by decide) (j := 27) (by decide) (by decide) (by decide) ?_
  refine bv_weq (w2 := kw_X9_49) rfl ?_
  refine bv_blk C frk_X9 csk_X9 3 184 rfl (L1 := ([(0, .ref 0)] : Lc)) (st1 := ([.int (101), .int (28), .ref 5, .ref 5, .ref 0] : List Value)) (w1 := kw_X9_49) (by rfl) ?_
  refine bv_iast C rfl rfl (by decide) (j := 28) (by decide) (by decide) (by decide) ?_
  refine bv_weq (w2 := kw_X9_50) rfl ?_
  refine bv_blk C frk_X9 csk_X9 3 188 rfl (L1 := ([(0, .ref 0)] : Lc)) (st1 := ([.int (112), .int (29), .ref 5, .ref 5, .ref 0] : List Value)) (w1 := kw_X9_50) (by rfl) ?_
  refine bv_iast C rfl rfl (by decide) (j := 29) (by decide) (by decide) (by decide) ?_
  refine bv_weq (w2 := kw_X9_51) rfl ?_
  refine bv_blk C frk_X9 csk_X9 3 192 rfl (L1 := ([(0, .ref 0)] : Lc)) (st1 := ([.int (97), .int (30), .ref 5, .ref 5, .ref 0] : List Value)) (w1 := kw_X9_51) (by rfl) ?_
  refine bv_iast C rfl rfl (by decide) (j := 30) (by decide) (by decide) (by decide) ?_
  refine bv_weq (w2 := kw_X9_52) rfl ?_
  refine bv_blk C frk_X9 csk_X9 3 196 rfl (L1 := ([(0, .ref 0)] : Lc)) (st1 := ([.int (116), .int (31), .ref 5, .ref 5, .ref 0] : List Value)) (w1 := kw_X9_52) (by rfl) ?_
  refine bv_iast C rfl rfl (by decide) (j := 31) (by decide) (by decide) (by decide) ?_
  refine bv_weq (w2 := kw_X9_53) rfl ?_
  refine bv_putF (ty := .array .int) C rfl cl_X9 fl_X9_34 (by decide) rfl hin rfl (by decide +kernel) rfl rfl rfl (by decide) (by decide) ?_
  refine bv_weq (w2 := kw_X9_54) rfl ?_
  refine bv_blk C frk_X9 csk_X9 2 200 rfl (L1 := ([(0, .ref 0)] : Lc)) (st1 := ([.int (5), .ref 0] : List Value)) (w1 := kw_X9_54) (by rfl) ?_
  refine bv_newaC (N := 6) (n := 5) (t0 := 0) (ty := .int) (w1 := kw_X9_55) C rfl rfl (by decide) rfl (mw (mT_1 61 rfl) rfl) hA rfl rfl (by decide) (by decide +kernel) rfl rfl (by decide) rfl (by decide) (fun ad6 hg6 => ?_)
  refine bv_blk C frk_X9 csk_X9 3 204 rfl (L1 := ([(0, .ref 0)] : Lc)) (st1 := ([.int (105), .int (0), .ref 6, .ref 6, .ref 0] : List Value)) (w1 := kw_X9_55) (by rfl) ?_
  refine bv_iast C rfl rfl (by decide) (j := 0) (by decide) (by decide) (by decide) ?_
  refine bv_weq (w2 := kw_X9_56) rfl ?_
  refine bv_blk C frk_X9 csk_X9 3 208 rfl (L1 := ([(0, .ref 0)] : Lc)) (st1 := ([.int (101), .int (1), .ref 6, .ref 6, .ref 0] : List Value)) (w1 := kw_X9_56) (by rfl) ?_
  refine bv_iast C rfl rfl (by decide) (j := 1) (by decide) (by decide) (by decide) ?_
  refine bv_weq (w2 := kw_X9_57) rfl ?_
  refine bv_blk C frk_X9 csk_X9 3 212 rfl (L1 := ([(0, .ref 0)] : Lc)) (st1 := ([.int (110), .int (2), .ref 6, .ref 6, .ref 0] : List Value)) (w1 := kw_X9_57) (by rfl) ?_
  refine bv_iast C rfl rfl (by decide) (j := 2) (by decide) (by decide) (by decide) ?_
  refine bv_weq (w2 := kw_X9_58) rfl ?_
  refine bv_blk C frk_X9 csk_X9 3 216 rfl (L1 := ([(0, .ref 0)] : Lc)) (st1 := ([.int (99), .int (3), .ref 6, .ref 6, .ref 0] : List Value)) (w1 := kw_X9_58) (by rfl) ?_
  refine bv_iast C rfl rfl (by decide) (j := 3) (by decide) (by decide) (by decide) ?_
  refine bv_weq (w2 := kw_X9_59) rfl ?_
  refine bv_blk C frk_X9 csk_X9 3 220 rfl (L1 := ([(0, .ref 0)] : Lc)) (st1 := ([.int (101), .int (4), .ref 6, .ref 6, .ref 0] : List Value)) (w1 := kw_X9_59) (by rfl) ?_
  refine bv_iast C rfl rfl (by decide) (j := 4) (by decide) (by decide) (by decide) ?_
  refine bv_weq (w2 := kw_X9_60) rfl ?_
  refine bv_putF (ty := .array .int) C rfl cl_X9 fl_X9_37 (by decide) rfl hin rfl (by decide +kernel) rfl rfl rfl (by decide) (by decide) ?_
  refine bv_weq (w2 := kw_X9_61) rfl ?_
  refine bv_blk C frk_X9 csk_X9 2 224 rfl (L1 := ([(0, .ref 0)] : Lc)) (st1 := ([.int (7), .ref 0] : List Value)) (w1 := kw_X9_61) (by rfl) ?_
  refine bv_newaC (N := 7) (n := 7) (t0 := 0) (ty := .int) (w1 := kw_X9_62) C rfl rfl (by decide) rfl (mw (mT_1 61 rfl) rfl) hA rfl rfl (by decide) (by decide +kernel) rfl rfl (by decide) rfl (by decide) (fun ad7 hg7 => ?_)
  refine bv_blk C frk_X9 csk_X9 3 228 rfl (L1 := ([(0, .ref 0)] : Lc)) (st1 := ([.int (0), .int (0), .ref 7, .ref 7, .ref 0] : List Value)) (w1 := kw_X9_62) (by rfl) ?_
  refine bv_iast C rfl rfl (by decide) (j := 0) (by decide) (by decide) (by decide) ?_
  refine bv_weq (w2 := kw_X9_63) rfl ?_
  refine bv_blk C frk_X9 csk_X9 3 232 rfl (L1 := ([(0, .ref 0)] : Lc)) (st1 := ([.int (7), .int (1), .ref 7, .ref 7, .ref 0] : List Value)) (w1 := kw_X9_63) (by rfl) ?_
  refine bv_iast C rfl rfl (by decide) (j := 1) (by decide) (by decide) (by decide) ?_
  refine bv_weq (w2 := kw_X9_64) rfl ?_
  refine bv_blk C frk_X9 csk_X9 3 236 rfl (L1 := ([(0, .ref 0)] : Lc)) (st1 := ([.int (11), .int (2), .ref 7, .ref 7, .ref 0] : List Value)) (w1 := kw_X9_64) (by rfl) ?_
  refine bv_iast C rfl rfl (by decide) (j := 2) (by decide) (by decide) (by decide) ?_
  refine bv_weq (w2 := kw_X9_65) rfl ?_
  refine bv_blk C frk_X9 csk_X9 3 240 rfl (L1 := ([(0, .ref 0)] : Lc)) (st1 := ([.int (16), .int (3), .ref 7, .ref 7, .ref 0] : List Value)) (w1 := kw_X9_65) (by rfl) ?_
  refine bv_iast C rfl rfl (by decide) (j := 3) (by decide) (by decide) (by decide) ?_
  refine bv_weq (w2 := kw_X9_66) rfl ?_
  refine bv_blk C frk_X9 csk_X9 3 244 rfl (L1 := ([(0, .ref 0)] : Lc)) (st1 := ([.int (25), .int (4), .ref 7, .ref 7, .ref 0] : List Value)) (w1 := kw_X9_66) (by rfl) ?_
  refine bv_iast C rfl rfl (by decide) (j := 4) (by decide) (by decide) (by decide) ?_
  refine bv_weq (w2 := kw_X9_67) rfl ?_
  refine bv_blk C frk_X9 csk_X9 3 248 rfl (L1 := ([(0, .ref 0)] : Lc)) (st1 := ([.int (29), .int (5), .ref 7, .ref 7, .ref 0] : List Value)) (w1 := kw_X9_67) (by rfl) ?_
  refine bv_iast C rfl rfl (by decide) (j := 5) (by decide) (by decide) (by decide) ?_
  refine bv_weq (w2 := kw_X9_68) rfl ?_
  refine bv_blk C frk_X9 csk_X9 3 252 rfl (L1 := ([(0, .ref 0)] : Lc)) (st1 := ([.int (37), .int (6), .ref 7, .ref 7, .ref 0] : List Value)) (w1 := kw_X9_68) (by rfl) ?_
  refine bv_iast C rfl rfl (by decide) (j := 6) (by decide) (by decide) (by decide) ?_
  refine bv_weq (w2 := kw_X9_69) rfl ?_
  refine bv_putF (ty := .array .int) C rfl cl_X9 fl_X9_40 (by decide) rfl hin rfl (by decide +kernel) rfl rfl rfl (by decide) (by decide) ?_
  refine bv_weq (w2 := kw_X9_70) rfl ?_
  refine bv_blk C frk_X9 csk_X9 2 256 rfl (L1 := ([(0, .ref 0)] : Lc)) (st1 := ([.int (6), .ref 0] : List Value)) (w1 := kw_X9_70) (by rfl) ?_
  refine bv_newaC (N := 8) (n := 6) (t0 := 0) (ty := .int) (w1 := kw_X9_71) C rfl rfl (by decide) rfl (mw (mT_1 61 rfl) rfl) hA rfl rfl (by decide) (by decide +kernel) rfl rfl (by decide) rfl (by decide) (fun ad8 hg8 => ?_)
  refine bv_putF (ty := .array .int) C rfl cl_X9 fl_X9_43 (by decide) rfl hin rfl (by decide +kernel) rfl rfl rfl (by decide) (by decide) ?_
  refine bv_weq (w2 := kw_X9_72) rfl ?_
  refine bv_blk C frk_X9 csk_X9 1 259 rfl (L1 := ([(0, .ref 0)] : Lc)) (st1 := ([.ref 0] : List Value)) (w1 := kw_X9_72) (by rfl) ?_
  refine bv_w (eqB_ok (w' := layM zG 0) (by decide +kernel)) ?_
  refine bv_hE C (fun hE => ?_)
  refine bv_fV0 C rfl (ct_begins hE zG 0) ml_X9_46 im_X9_begins sel_X9_begins ini_X9 cd_X9_begins ok_X9_begins rfl ⟨Nat.le_of_ble_eq_true rfl, Nat.le_of_ble_eq_true rfl⟩ ⟨Nat.le_of_ble_eq_true rfl, Nat.le_of_ble_eq_true rfl⟩ (by decide) rfl rfl rfl (rest := ([] : List Value)) rfl (Nat.le_of_ble_eq_true rfl) ?_
  exact bv_vretN C rfl hr ((hg8 0 (Or.inl (by decide))).trans ((hg7 0 (Or.inl (by decide))).trans ((hg6 0 (Or.inl (by decide))).trans ((hg5 0 (Or.inl (by decide))).trans ((hg4 0 (Or.inl (by decide))).trans ((hg3 0 (Or.inl (by decide))).trans ((hg2 0 (Or.inl (by decide))).trans ((hg1 0 (Or.inl (by decide)))))))))))
