/-! THE LAW: two stations, and the paths -/
section LS9
variable {p : Program} {l : Launch} {e : Env} {R : Room} {s : State} {m : MethodId} {args : Array Value} {below : List Frame} {meth : Method} {c : Code} {D : va_G} {cA : FieldType → ClassId} {z0 : Nat} {SK : Nat → Nat} {SV : Nat → Int32} {A : Nat → Prop} {Q : State → Prop} {ad : Nat → Nat} {cells slots : Nat} {g sv : Nat → Nat → Int32} {σ τ : Nat → Nat → Nat} {ρ : Nat → Nat} {c9 : Nat} {ev : Nat → Int32} {S : Nat → Nat}
theorem low_rg (v : Int32) (n : Nat) (h0 : 0 < n) (h1 : n < 2 ^ 31) : ∃ j : Nat, j < n ∧ lowF v (nI n) = nI j := by
  unfold lowF remI
  rw [pk_and v 31 (m := 2147483647) (by decide)]
  have hl : v.toBitVec.toNat % 2 ^ 31 < 2 ^ 31 := Nat.mod_lt _ (by omega)
  exact ⟨_, Nat.mod_lt _ h0, pk_rem hl h0 h1⟩
theorem wn_n2 {m lo hi : Nat} {a b : Int32} (ha : a = nI lo) (hb : b = nI hi) (h1 : lo ≤ m) (h2 : m ≤ hi) (hM : hi < 2 ^ 31) : ¬ wnI (nI m) a b = 0 := wn_z ⟨by rw [ha]; exact nI_le (a := lo) (b := m) h1 (by omega), by rw [hb]; exact nI_le (a := m) (b := hi) h2 hM⟩
theorem jst_0 {v : Int32} {X Y Z : Nat} (hE : aD (fun q => z0 ≤ q) ad 182) (I : SJ S g σ τ ρ c9) (hv : g 1 15 = v) (hX : 2 ≤ X ∧ X ≤ 16) (hY : Y ≤ 63) (hZ : Z ≤ 100) : bF l D cA z0 SK SV ad shF 182 yX8_setStation cX8_setStation 6 (some .int) 3 [.ref 0, .int (0), .int (nI X), .int (nI Y), .int (nI Z)] (layF g sv σ τ ρ c9) (some (.int v)) (layF (setG0 (nI X) (nI Y) (nI Z) g) (svs g sv ρ c9) σ τ (svr ρ c9) (svc c9)) := by
  have h := fc_setStation0 (l := l) (D := D) (cA := cA) (SK := SK) (SV := SV) hE g sv σ τ I.1 ρ c9 (nI X) (nI Y) (nI Z) I.bo I.2.2.2.1 I.2.2.1
  have a := wn_n2 (m := X) (lo := 2) (hi := 16) (a := 2) (b := 16) rfl rfl hX.1 hX.2 (by omega)
  have b := wn_n2 (m := Y) (lo := 0) (hi := 63) (a := 0) (b := 63) rfl rfl (by omega) hY (by omega)
  have d := wn_n2 (m := Z) (lo := 0) (hi := 100) (a := 0) (b := 100) rfl rfl (by omega) hZ (by omega)
  unfold fc_setStation0_r fc_setStation0_w at h
  rw [if_neg a, if_neg b, if_neg d, if_neg a, if_neg b, if_neg d, hv] at h
  exact h
theorem sg0_at {x y z : Int32} {k : Nat} (hk : k ≠ 0) (h13 : k ≠ 13) (h1 : ¬ (19 ≤ k ∧ k < 35)) (h2 : ¬ (39 ≤ k ∧ k < 55)) (h3 : ¬ (15 ≤ k ∧ k < 19)) : setG0 x y z g 1 k = g 1 k := by
  unfold setG0
  rw [ug_ne (by omega), ug_ne (by omega), fill_at (by omega), fill_at (by omega), ug_ne (by omega), ug_ne (by omega), ug_ne (by omega), ug_ne (by omega)]
theorem sg0_13 {x y z : Int32} : setG0 x y z g 1 13 = 0 := by
  unfold setG0
  rw [ug_ne (by omega), ug_same]
theorem sg0_b {x y z : Int32} : setG0 x y z g 1 18 = -100000 := by
  unfold setG0
  rw [ug_ne (by omega), ug_ne (by omega), fill_at (by omega), fill_at (by omega), ug_same]
theorem jst_1 {v : Int32} {X Y Z : Nat} (hE : aD (fun q => z0 ≤ q) ad 182) (I : SJ S g σ τ ρ c9) (hv : g 1 35 = v) (hX : 2 ≤ X ∧ X ≤ 16) (hY : Y ≤ 63) (hZ : Z ≤ 100) : bF l D cA z0 SK SV ad shF 182 yX8_setStation cX8_setStation 6 (some .int) 3 [.ref 0, .int (1), .int (nI X), .int (nI Y), .int (nI Z)] (layF g sv σ τ ρ c9) (some (.int v)) (layF (setG1 (nI X) (nI Y) (nI Z) g) (svs g sv ρ c9) σ τ (svr ρ c9) (svc c9)) := by
  have h := fc_setStation1 (l := l) (D := D) (cA := cA) (SK := SK) (SV := SV) hE g sv σ τ I.1 ρ c9 (nI X) (nI Y) (nI Z) I.bo I.2.2.2.1 I.2.2.1
  have a := wn_n2 (m := X) (lo := 2) (hi := 16) (a := 2) (b := 16) rfl rfl hX.1 hX.2 (by omega)
  have b := wn_n2 (m := Y) (lo := 0) (hi := 63) (a := 0) (b := 63) rfl rfl (by omega) hY (by omega)
  have d := wn_n2 (m := Z) (lo := 0) (hi := 100) (a := 0) (b := 100) rfl rfl (by omega) hZ (by omega)
  unfold fc_setStation1_r fc_setStation1_w at h
  rw [if_neg a, if_neg b, if_neg d, if_neg a, if_neg b, if_neg d, hv] at h
  exact h
theorem sg1_at {x y z : Int32} {k : Nat} (hk : k ≠ 0) (h13 : k ≠ 13) (h1 : ¬ (19 ≤ k ∧ k < 35)) (h2 : ¬ (39 ≤ k ∧ k < 55)) (h3 : ¬ (35 ≤ k ∧ k < 39)) : setG1 x y z g 1 k = g 1 k := by
  unfold setG1
  rw [ug_ne (by omega), ug_ne (by omega), fill_at (by omega), fill_at (by omega), ug_ne (by omega), ug_ne (by omega), ug_ne (by omega), ug_ne (by omega)]
theorem sg1_13 {x y z : Int32} : setG1 x y z g 1 13 = 0 := by
  unfold setG1
  rw [ug_ne (by omega), ug_same]
theorem sg1_b {x y z : Int32} : setG1 x y z g 1 38 = -100000 := by
  unfold setG1
  rw [ug_ne (by omega), ug_ne (by omega), fill_at (by omega), fill_at (by omega), ug_same]
theorem jap {n x y z : Nat} (hE : aD (fun q => z0 ≤ q) ad 182) (I : SJ S g σ τ ρ c9) (hi : invK g n S) (hn : n < 8) (hx : x ≤ 63) (hy : y ≤ 63) (hz : z ≤ 300) : bF l D cA z0 SK SV ad shF 182 yX8_addPath cX8_addPath 4 (some .int) 3 [.ref 0, .int (nI x), .int (nI y), .int (nI z)] (layF g sv σ τ ρ c9) (some (.int (nI n))) (layF (appG n (nI x) (nI y) (nI z) 0 0 g) (svs g sv ρ c9) σ τ (svr ρ c9) (svc c9)) := by
  have h12 : g 1 12 = nI n := (inv_st hi).1
  have h := fc_addPath (l := l) (D := D) (cA := cA) (SK := SK) (SV := SV) hE g sv σ τ I.1 ρ c9 n (nI x) (nI y) (nI z) I.bo I.2.2.2.1 I.2.2.1 h12 (by omega)
  have a := wn_n2 (m := x) (lo := 0) (hi := 63) (a := 0) (b := 63) rfl rfl (by omega) hx (by omega)
  have b := wn_n2 (m := y) (lo := 0) (hi := 63) (a := 0) (b := 63) rfl rfl (by omega) hy (by omega)
  have d := wn_n2 (m := z) (lo := 0) (hi := 300) (a := 0) (b := 300) rfl rfl (by omega) hz (by omega)
  unfold fc_addPath_r fc_addPath_w at h
  rw [if_neg a, if_neg b, if_neg d, if_pos hn, if_neg a, if_neg b, if_neg d, if_pos hn, ap_12, h12, nI_1, show (1 : Int32) = nI 1 from rfl, pk_sub (by omega)] at h
  exact h
theorem ap_3 {n : Nat} {x y z : Int32} {k : Nat} (h : k ≠ 12) (h2 : k < 55) : appG n x y z 0 0 g 1 k = g 1 k := ap_at h (by omega)
set_option maxRecDepth 100000 in
set_option maxHeartbeats 8000000 in
theorem sg_Q (C : bC p s m args meth c D cA z0 SK SV A 21 RL code tb_L_law) (had : ad 400 = SK 0) (hR : 11 ≤ R.frames ∧ 442 ≤ R.locals) (hR2 : cells ≤ R.cells ∧ slots ≤ R.slots) (kT : ∀ (S : Nat → Nat) (g2 sv2 : Nat → Nat → Int32) (σ2 τ2 : Nat → Nat → Nat) (ρ2 : Nat → Nat) (c2 : Nat) (ev2 : Nat → Int32), TI S g2 σ2 τ2 ρ2 c2 ev2 0 → bV p l e R s m args below meth c D cA shZ A 21 tb_L_law Q ad 183 cells slots (layZ g2 sv2 σ2 τ2 ρ2 c2 ev2) 99 ([(5, .int (nI 0)), (0, .ref 400), (1, .ref 0), (2, .ref 182)] : Lc) ([] : List Value)) (he0 : ev 0 = nI (S 0)) (he1 : ev 1 = nI (S 1)) (mm : Nat) (hmm : mm < 5) : ∀ (r q : Nat) (g sv : Nat → Nat → Int32) (σ τ : Nat → Nat → Nat) (ρ : Nat → Nat) (c9 : Nat), q + r = mm → SJ S g σ τ ρ c9 → invK g q S → g 1 3 = nI 0 → g 1 4 = nI 0 → g 1 13 = nI 0 → bV p l e R s m args below meth c D cA shZ A 21 tb_L_law Q ad 183 cells slots (layZ g sv σ τ ρ c9 ev) 67 ([(5, .int (nI q)), (4, .int (nI mm)), (0, .ref 400), (1, .ref 0), (2, .ref 182)] : Lc) ([] : List Value) := by
  intro r
  induction r with
  | zero =>
    intro q g sv σ τ ρ c9 hq I hi h3 h4 h13
    refine bv_hE C (fun hE => ?_)
    refine bv_blk C frk_L csk_L 2 69 rfl (L1 := ([(5, .int (nI q)), (4, .int (nI mm)), (0, .ref 400), (1, .ref 0), (2, .ref 182)] : Lc)) (st1 := ([.int (nI mm), .int (nI q)] : List Value)) (w1 := (layZ g sv σ τ ρ c9 ev)) (by rfl) ?_
    refine bv_icmp_ge (j := 97) C rfl (by rw [pcL_97]; rfl) (fun _ => ?_) (fun h => absurd (nI_le (a := mm) (b := q) (by omega) (by omega)) h)
    refine bv_blk C frk_L csk_L 2 99 rfl (L1 := ([(5, .int (0)), (4, .int (nI mm)), (0, .ref 400), (1, .ref 0), (2, .ref 182)] : Lc)) (st1 := ([] : List Value)) (w1 := (layZ g sv σ τ ρ c9 ev)) (by rfl) ?_
    refine bv_sub [0, 2, 3, 4] (by rfl) ?_
    exact kT S g sv σ τ ρ c9 ev ⟨I, he0, he1, fun B hB _ x y hx hy => absurd (nIij (a := 0) (b := B) (by omega) (by omega) (h13.symm.trans hB)) (by omega), 0, 0, h3, h4, by omega, by omega⟩
  | succ r ih =>
    intro q g sv σ τ ρ c9 hq I hi h3 h4 h13
    refine bv_hE C (fun hE => ?_)
    refine bv_blk C frk_L csk_L 2 69 rfl (L1 := ([(5, .int (nI q)), (4, .int (nI mm)), (0, .ref 400), (1, .ref 0), (2, .ref 182)] : Lc)) (st1 := ([.int (nI mm), .int (nI q)] : List Value)) (w1 := (layZ g sv σ τ ρ c9 ev)) (by rfl) ?_
    refine bv_icmp_ge (j := 97) C rfl (by rw [pcL_97]; rfl) (fun h => absurd h (nI_ge (a := q) (b := mm) (by omega) (by omega))) (fun _ => ?_)
    refine bv_blk C frk_L csk_L 4 74 rfl (L1 := ([(5, .int (nI q)), (4, .int (nI mm)), (0, .ref 400), (1, .ref 0), (2, .ref 182)] : Lc)) (st1 := ([.int ((1) + (nI q)), .ref 400] : List Value)) (w1 := (layZ g sv σ τ ρ c9 ev)) (by rfl) ?_
    rw [show ((1) + (nI q)) = nI (1 + q) from (nIa rfl rfl)]
    refine bv_fS1 (As := ([.ref 400, .int (nI (1 + q))] : List Value)) (rest := ([] : List Value)) C rfl (lx_cell hE _ had (1 + q) (by omega)) ml_L_101 st_L_cell ini_L cd_L_cell ok_L_cell rfl ⟨by omega, by omega⟩ hR2 rfl (Nat.le_of_ble_eq_true rfl) ?_
    refine bv_blk C frk_L csk_L 1 76 rfl (L1 := ([(6, .int (celF SK SV (1 + q))), (5, .int (nI q)), (4, .int (nI mm)), (0, .ref 400), (1, .ref 0), (2, .ref 182)] : Lc)) (st1 := ([] : List Value)) (w1 := (layZ g sv σ τ ρ c9 ev)) (by rfl) ?_
    obtain ⟨z, hz9⟩ : ∃ z, z = celF SK SV (1 + q) := ⟨_, rfl⟩
    rw [← hz9]
    refine bv_blk C frk_L csk_L 3 79 rfl (L1 := ([(6, .int z), (5, .int (nI q)), (4, .int (nI mm)), (0, .ref 400), (1, .ref 0), (2, .ref 182)] : Lc)) (st1 := ([.int (64), .int z, .ref 0] : List Value)) (w1 := (layZ g sv σ τ ρ c9 ev)) (by rfl) ?_
    refine bv_fS1 (As := ([.int z, .int (64)] : List Value)) (rest := ([.ref 0] : List Value)) C rfl (lx_low hE _ z (64) (by decide)) ml_L_8 st_L_low ini_L cd_L_low ok_L_low rfl ⟨by omega, by omega⟩ hR2 rfl (Nat.le_of_ble_eq_true rfl) ?_
    obtain ⟨a1, ha1, ea1⟩ := low_rg (z) 64 (by omega) (by omega)
    rw [show lowF z (64) = nI a1 from ea1]
    refine bv_blk C frk_L csk_L 4 84 rfl (L1 := ([(6, .int z), (5, .int (nI q)), (4, .int (nI mm)), (0, .ref 400), (1, .ref 0), (2, .ref 182)] : Lc)) (st1 := ([.int (64), .int (z >>> ((6) &&& 31)), .int (nI a1), .ref 0] : List Value)) (w1 := (layZ g sv σ τ ρ c9 ev)) (by rfl) ?_
    refine bv_fS1 (As := ([.int (z >>> ((6) &&& 31)), .int (64)] : List Value)) (rest := ([.int (nI a1), .ref 0] : List Value)) C rfl (lx_low hE _ (z >>> ((6) &&& 31)) (64) (by decide)) ml_L_8 st_L_low ini_L cd_L_low ok_L_low rfl ⟨by omega, by omega⟩ hR2 rfl (Nat.le_of_ble_eq_true rfl) ?_
    obtain ⟨a2, ha2, ea2⟩ := low_rg ((z >>> ((6) &&& 31))) 64 (by omega) (by omega)
    rw [show lowF (z >>> ((6) &&& 31)) (64) = nI a2 from ea2]
    refine bv_blk C frk_L csk_L 4 89 rfl (L1 := ([(6, .int z), (5, .int (nI q)), (4, .int (nI mm)), (0, .ref 400), (1, .ref 0), (2, .ref 182)] : Lc)) (st1 := ([.int (140), .int (z >>> ((12) &&& 31)), .int (nI a2), .int (nI a1), .ref 0] : List Value)) (w1 := (layZ g sv σ τ ρ c9 ev)) (by rfl) ?_
    refine bv_fS1 (As := ([.int (z >>> ((12) &&& 31)), .int (140)] : List Value)) (rest := ([.int (nI a2), .int (nI a1), .ref 0] : List Value)) C rfl (lx_low hE _ (z >>> ((12) &&& 31)) (140) (by decide)) ml_L_8 st_L_low ini_L cd_L_low ok_L_low rfl ⟨by omega, by omega⟩ hR2 rfl (Nat.le_of_ble_eq_true rfl) ?_
    obtain ⟨a3, ha3, ea3⟩ := low_rg ((z >>> ((12) &&& 31))) 140 (by omega) (by omega)
    rw [show lowF (z >>> ((12) &&& 31)) (140) = nI a3 from ea3]
    refine bv_cE (As := ([.int (nI a1), .int (nI a2), .int (nI a3)] : List Value)) (rest := ([] : List Value)) (v := .int (nI q)) C rfl (jap (aD_E hE) I hi (by omega) (by omega) (by omega) (by omega)) ml_L_19 im_X8_addPath sel_X8_addPath ini_X8 cd_X8_addPath ok_X8_addPath rfl ⟨by omega, by omega⟩ hR2 rfl (fun _ => rfl) (fun _ => rfl) (Nat.le_of_ble_eq_true rfl) ?_
    refine bv_blk C frk_L csk_L 1 92 rfl (L1 := ([(6, .int z), (5, .int (nI q)), (4, .int (nI mm)), (0, .ref 400), (1, .ref 0), (2, .ref 182)] : Lc)) (st1 := ([.int (nI q), .int (nI q)] : List Value)) (w1 := (layZ (appG q (nI a1) (nI a2) (nI a3) 0 0 g) (svs g sv ρ c9) σ τ (svr ρ c9) (svc c9) ev)) (by rfl) ?_
    refine bv_icmp_eq (j := 95) C rfl (by rw [pcL_95]; rfl) (fun _ => ?_) (fun h => absurd (rfl) h)
    refine bv_blk C frk_L csk_L 1 96 rfl (L1 := ([(5, .int ((nI q) + Int32.ofInt 1)), (6, .int z), (4, .int (nI mm)), (0, .ref 400), (1, .ref 0), (2, .ref 182)] : Lc)) (st1 := ([] : List Value)) (w1 := (layZ (appG q (nI a1) (nI a2) (nI a3) 0 0 g) (svs g sv ρ c9) σ τ (svr ρ c9) (svc c9) ev)) (by rfl) ?_
    rw [show ((nI q) + Int32.ofInt 1) = nI (q + 1) from (nIi rfl)]
    refine bv_goto (j := 67) C rfl (by rw [pcL_67]; rfl) ?_
    refine bv_sub [0, 2, 3, 4, 5] (by rfl) ?_
    exact ih (q + 1) _ _ _ _ _ _ (by omega) (sj_save I I.1 (inv_app (by omega) hi ⟨a3, rfl, by omega⟩)) (inv_app (by omega) hi ⟨a3, rfl, by omega⟩) ((ap_3 (by omega) (by omega)).trans h3) ((ap_3 (by omega) (by omega)).trans h4) ((ap_3 (by omega) (by omega)).trans h13)
set_option maxRecDepth 100000 in
set_option maxHeartbeats 8000000 in
set_option maxRecDepth 100000 in
set_option maxHeartbeats 8000000 in
theorem sg_S (C : bC p s m args meth c D cA z0 SK SV A 21 RL code tb_L_law) (had : ad 400 = SK 0) (hR : 11 ≤ R.frames ∧ 442 ≤ R.locals) (hR2 : cells ≤ R.cells ∧ slots ≤ R.slots) (kT : ∀ (S : Nat → Nat) (g2 sv2 : Nat → Nat → Int32) (σ2 τ2 : Nat → Nat → Nat) (ρ2 : Nat → Nat) (c2 : Nat) (ev2 : Nat → Int32), TI S g2 σ2 τ2 ρ2 c2 ev2 0 → bV p l e R s m args below meth c D cA shZ A 21 tb_L_law Q ad 183 cells slots (layZ g2 sv2 σ2 τ2 ρ2 c2 ev2) 99 ([(5, .int (nI 0)), (0, .ref 400), (1, .ref 0), (2, .ref 182)] : Lc) ([] : List Value)) (I : SJ (fun _ => 8) g σ τ ρ c9) (hi : invK g 0 (fun _ => 8)) (h3 : g 1 3 = nI 0) (h4 : g 1 4 = nI 0) (h15 : g 1 15 = 8) (h35 : g 1 35 = 8) : bV p l e R s m args below meth c D cA shZ A 21 tb_L_law Q ad 183 cells slots (layZ g sv σ τ ρ c9 ev) 7 ([(0, .ref 400), (1, .ref 0), (2, .ref 182)] : Lc) ([] : List Value) := by
  refine bv_hE C (fun hE => ?_)
  refine bv_blk C frk_L csk_L 2 9 rfl (L1 := ([(0, .ref 400), (1, .ref 0), (2, .ref 182)] : Lc)) (st1 := ([.int (0), .ref 400] : List Value)) (w1 := (layZ g sv σ τ ρ c9 ev)) (by rfl) ?_
  refine bv_fS1 (As := ([.ref 400, .int (0)] : List Value)) (rest := ([] : List Value)) C rfl (lx_cell hE _ had 0 (by omega)) ml_L_101 st_L_cell ini_L cd_L_cell ok_L_cell rfl ⟨by omega, by omega⟩ hR2 rfl (Nat.le_of_ble_eq_true rfl) ?_
  refine bv_blk C frk_L csk_L 1 11 rfl (L1 := ([(3, .int (celF SK SV 0)), (0, .ref 400), (1, .ref 0), (2, .ref 182)] : Lc)) (st1 := ([] : List Value)) (w1 := (layZ g sv σ τ ρ c9 ev)) (by rfl) ?_
  obtain ⟨wz, hz9⟩ : ∃ z, z = celF SK SV 0 := ⟨_, rfl⟩
  rw [← hz9]
  refine bv_blk C frk_L csk_L 4 15 rfl (L1 := ([(4, .int (0)), (3, .int wz), (0, .ref 400), (1, .ref 0), (2, .ref 182)] : Lc)) (st1 := ([.int (2), .int (0)] : List Value)) (w1 := (layZ g sv σ τ ρ c9 ev)) (by rfl) ?_
  refine bv_icmp_ge (j := 59) C rfl (by rw [pcL_59]; rfl) (fun h => absurd h (by decide)) (fun _ => ?_)
  refine bv_blk C frk_L csk_L 9 25 rfl (L1 := ([(4, .int (0)), (3, .int wz), (0, .ref 400), (1, .ref 0), (2, .ref 182)] : Lc)) (st1 := ([.int (15), .int (wz >>> (((4) * (0)) &&& 31)), .int (2), .int (0), .ref 182] : List Value)) (w1 := (layZ g sv σ τ ρ c9 ev)) (by rfl) ?_
  refine bv_fS1 (As := ([.int (wz >>> (((4) * (0)) &&& 31)), .int (15)] : List Value)) (rest := ([.int (2), .int (0), .ref 182] : List Value)) C rfl (lx_low hE _ (wz >>> (((4) * (0)) &&& 31)) (15) (by decide)) ml_L_8 st_L_low ini_L cd_L_low ok_L_low rfl ⟨by omega, by omega⟩ hR2 rfl (Nat.le_of_ble_eq_true rfl) ?_
  obtain ⟨b0, hb0, eb0⟩ := low_rg ((wz >>> (((4) * (0)) &&& 31))) 15 (by omega) (by omega)
  rw [show lowF (wz >>> (((4) * (0)) &&& 31)) (15) = nI b0 from eb0]
  refine bv_blk C frk_L csk_L 1 27 rfl (L1 := ([(4, .int (0)), (3, .int wz), (0, .ref 400), (1, .ref 0), (2, .ref 182)] : Lc)) (st1 := ([.int ((2) + (nI b0)), .int (0), .ref 182] : List Value)) (w1 := (layZ g sv σ τ ρ c9 ev)) (by rfl) ?_
  rw [show ((2) + (nI b0)) = nI (2 + b0) from (nIa rfl rfl)]
  refine bv_iast C rfl rfl (by decide) (j := 0) (by exact rfl) (by first | decide | omega) (by decide) ?_
  rw [le_up]
  refine bv_blk C frk_L csk_L 4 32 rfl (L1 := ([(4, .int (0)), (3, .int wz), (0, .ref 400), (1, .ref 0), (2, .ref 182)] : Lc)) (st1 := ([.int (0), .ref 182, .int (0), .ref 0] : List Value)) (w1 := (layZ g sv σ τ ρ c9 (upd ev 0 (nI (2 + b0))))) (by rfl) ?_
  refine bv_iald C rfl rfl (by decide) (j := 0) (by exact rfl) (by first | decide | omega) (by decide) (y := (nI (2 + b0))) (by rfl) ?_
  refine bv_blk C frk_L csk_L 6 39 rfl (L1 := ([(4, .int (0)), (3, .int wz), (0, .ref 400), (1, .ref 0), (2, .ref 182)] : Lc)) (st1 := ([.int (64), .int (wz >>> (((9) + (0)) &&& 31)), .int (nI (2 + b0)), .int (0), .ref 0] : List Value)) (w1 := (layZ g sv σ τ ρ c9 (upd ev 0 (nI (2 + b0))))) (by rfl) ?_
  refine bv_fS1 (As := ([.int (wz >>> (((9) + (0)) &&& 31)), .int (64)] : List Value)) (rest := ([.int (nI (2 + b0)), .int (0), .ref 0] : List Value)) C rfl (lx_low hE _ (wz >>> (((9) + (0)) &&& 31)) (64) (by decide)) ml_L_8 st_L_low ini_L cd_L_low ok_L_low rfl ⟨by omega, by omega⟩ hR2 rfl (Nat.le_of_ble_eq_true rfl) ?_
  obtain ⟨o0, ho0, eo0⟩ := low_rg ((wz >>> (((9) + (0)) &&& 31))) 64 (by omega) (by omega)
  rw [show lowF (wz >>> (((9) + (0)) &&& 31)) (64) = nI o0 from eo0]
  refine bv_blk C frk_L csk_L 6 46 rfl (L1 := ([(4, .int (0)), (3, .int wz), (0, .ref 400), (1, .ref 0), (2, .ref 182)] : Lc)) (st1 := ([.int (101), .int (wz >>> (((13) + (0)) &&& 31)), .int (nI o0), .int (nI (2 + b0)), .int (0), .ref 0] : List Value)) (w1 := (layZ g sv σ τ ρ c9 (upd ev 0 (nI (2 + b0))))) (by rfl) ?_
  refine bv_fS1 (As := ([.int (wz >>> (((13) + (0)) &&& 31)), .int (101)] : List Value)) (rest := ([.int (nI o0), .int (nI (2 + b0)), .int (0), .ref 0] : List Value)) C rfl (lx_low hE _ (wz >>> (((13) + (0)) &&& 31)) (101) (by decide)) ml_L_8 st_L_low ini_L cd_L_low ok_L_low rfl ⟨by omega, by omega⟩ hR2 rfl (Nat.le_of_ble_eq_true rfl) ?_
  obtain ⟨p0, hp0, ep0⟩ := low_rg ((wz >>> (((13) + (0)) &&& 31))) 101 (by omega) (by omega)
  rw [show lowF (wz >>> (((13) + (0)) &&& 31)) (101) = nI p0 from ep0]
  refine bv_cE (As := ([.int (0), .int (nI (2 + b0)), .int (nI o0), .int (nI p0)] : List Value)) (rest := ([] : List Value)) (v := .int (8)) C rfl (jst_0 (aD_E hE) I h15 (by omega) (by omega) (by omega)) ml_L_105 im_X8_setStation sel_X8_setStation ini_X8 cd_X8_setStation ok_X8_setStation rfl ⟨by omega, by omega⟩ hR2 rfl (fun _ => rfl) (fun _ => rfl) (Nat.le_of_ble_eq_true rfl) ?_
  obtain ⟨g5, eg5⟩ : ∃ x, x = setG0 (nI (2 + b0)) (nI o0) (nI p0) g := ⟨_, rfl⟩
  rw [← eg5]
  have hi5 := inv_st0 (y := nI o0) hi (X := 2 + b0) (Z := p0) (by omega) (by omega)
  rw [← eg5] at hi5
  have I5 := sj_save (g := g5) (show SJ _ g5 _ _ _ _ from ⟨I.1, ⟨_, hi5⟩, I.2.2⟩) I.1 hi5
  have t3_5 : g5 1 3 = nI 0 := by rw [eg5]; exact (sg0_at (by omega) (by omega) (by omega) (by omega) (by omega)).trans h3
  have t4_5 : g5 1 4 = nI 0 := by rw [eg5]; exact (sg0_at (by omega) (by omega) (by omega) (by omega) (by omega)).trans h4
  have h35b : g5 1 35 = 8 := by rw [eg5]; exact (sg0_at (by omega) (by omega) (by omega) (by omega) (by omega)).trans h35
  have h135 : g5 1 13 = nI 0 := by rw [eg5]; exact sg0_13
  have hbm0 : g5 1 18 = -100000 := by rw [eg5]; exact sg0_b
  refine bv_blk C frk_L csk_L 1 49 rfl (L1 := ([(4, .int (0)), (3, .int wz), (0, .ref 400), (1, .ref 0), (2, .ref 182)] : Lc)) (st1 := ([.int (8), .int (8)] : List Value)) (w1 := (layZ g5 (svs g sv ρ c9) σ τ (svr ρ c9) (svc c9) (upd ev 0 (nI (2 + b0))))) (by rfl) ?_
  refine bv_icmp_ne (j := 55) C rfl (by rw [pcL_55]; rfl) (fun h => absurd h (by decide)) (fun _ => ?_)
  refine bv_blk C frk_L csk_L 2 52 rfl (L1 := ([(4, .int (0)), (3, .int wz), (0, .ref 400), (1, .ref 0), (2, .ref 182)] : Lc)) (st1 := ([.int (0), .ref 0] : List Value)) (w1 := (layZ g5 (svs g sv ρ c9) σ τ (svr ρ c9) (svc c9) (upd ev 0 (nI (2 + b0))))) (by rfl) ?_
  refine bv_cE (As := ([.int (0)] : List Value)) (rest := ([] : List Value)) (v := .int (g5 1 18)) C rfl (fc_beam0 (aD_E hE) g5 (svs g sv ρ c9) σ τ I5.1 (svr ρ c9) (svc c9)) ml_L_66 im_X8_beam sel_X8_beam ini_X8 cd_X8_beam ok_X8_beam rfl ⟨by omega, by omega⟩ hR2 rfl (fun _ => rfl) (fun _ => rfl) (Nat.le_of_ble_eq_true rfl) ?_
  refine bv_blk C frk_L csk_L 1 54 rfl (L1 := ([(4, .int (0)), (3, .int wz), (0, .ref 400), (1, .ref 0), (2, .ref 182)] : Lc)) (st1 := ([.int (-100000), .int (g5 1 18)] : List Value)) (w1 := (layZ g5 (svs g sv ρ c9) σ τ (svr ρ c9) (svc c9) (upd ev 0 (nI (2 + b0))))) (by rfl) ?_
  refine bv_icmp_eq (j := 57) C rfl (by rw [pcL_57]; rfl) (fun _ => ?_) (fun h => absurd (hbm0) h)
  refine bv_blk C frk_L csk_L 1 58 rfl (L1 := ([(4, .int ((0) + Int32.ofInt 1)), (3, .int wz), (0, .ref 400), (1, .ref 0), (2, .ref 182)] : Lc)) (st1 := ([] : List Value)) (w1 := (layZ g5 (svs g sv ρ c9) σ τ (svr ρ c9) (svc c9) (upd ev 0 (nI (2 + b0))))) (by rfl) ?_
  rw [show ((0) + Int32.ofInt 1) = (1) from by decide]
  refine bv_goto (j := 13) C rfl (by rw [pcL_13]; rfl) ?_
  refine bv_blk C frk_L csk_L 2 15 rfl (L1 := ([(4, .int (1)), (3, .int wz), (0, .ref 400), (1, .ref 0), (2, .ref 182)] : Lc)) (st1 := ([.int (2), .int (1)] : List Value)) (w1 := (layZ g5 (svs g sv ρ c9) σ τ (svr ρ c9) (svc c9) (upd ev 0 (nI (2 + b0))))) (by rfl) ?_
  refine bv_icmp_ge (j := 59) C rfl (by rw [pcL_59]; rfl) (fun h => absurd h (by decide)) (fun _ => ?_)
  refine bv_blk C frk_L csk_L 9 25 rfl (L1 := ([(4, .int (1)), (3, .int wz), (0, .ref 400), (1, .ref 0), (2, .ref 182)] : Lc)) (st1 := ([.int (15), .int (wz >>> (((4) * (1)) &&& 31)), .int (2), .int (1), .ref 182] : List Value)) (w1 := (layZ g5 (svs g sv ρ c9) σ τ (svr ρ c9) (svc c9) (upd ev 0 (nI (2 + b0))))) (by rfl) ?_
  refine bv_fS1 (As := ([.int (wz >>> (((4) * (1)) &&& 31)), .int (15)] : List Value)) (rest := ([.int (2), .int (1), .ref 182] : List Value)) C rfl (lx_low hE _ (wz >>> (((4) * (1)) &&& 31)) (15) (by decide)) ml_L_8 st_L_low ini_L cd_L_low ok_L_low rfl ⟨by omega, by omega⟩ hR2 rfl (Nat.le_of_ble_eq_true rfl) ?_
  obtain ⟨b1, hb1, eb1⟩ := low_rg ((wz >>> (((4) * (1)) &&& 31))) 15 (by omega) (by omega)
  rw [show lowF (wz >>> (((4) * (1)) &&& 31)) (15) = nI b1 from eb1]
  refine bv_blk C frk_L csk_L 1 27 rfl (L1 := ([(4, .int (1)), (3, .int wz), (0, .ref 400), (1, .ref 0), (2, .ref 182)] : Lc)) (st1 := ([.int ((2) + (nI b1)), .int (1), .ref 182] : List Value)) (w1 := (layZ g5 (svs g sv ρ c9) σ τ (svr ρ c9) (svc c9) (upd ev 0 (nI (2 + b0))))) (by rfl) ?_
  rw [show ((2) + (nI b1)) = nI (2 + b1) from (nIa rfl rfl)]
  refine bv_iast C rfl rfl (by decide) (j := 1) (by exact rfl) (by first | decide | omega) (by decide) ?_
  rw [le_up]
  refine bv_blk C frk_L csk_L 4 32 rfl (L1 := ([(4, .int (1)), (3, .int wz), (0, .ref 400), (1, .ref 0), (2, .ref 182)] : Lc)) (st1 := ([.int (1), .ref 182, .int (1), .ref 0] : List Value)) (w1 := (layZ g5 (svs g sv ρ c9) σ τ (svr ρ c9) (svc c9) (upd (upd ev 0 (nI (2 + b0))) 1 (nI (2 + b1))))) (by rfl) ?_
  refine bv_iald C rfl rfl (by decide) (j := 1) (by exact rfl) (by first | decide | omega) (by decide) (y := (nI (2 + b1))) (by rfl) ?_
  refine bv_blk C frk_L csk_L 6 39 rfl (L1 := ([(4, .int (1)), (3, .int wz), (0, .ref 400), (1, .ref 0), (2, .ref 182)] : Lc)) (st1 := ([.int (64), .int (wz >>> (((9) + (1)) &&& 31)), .int (nI (2 + b1)), .int (1), .ref 0] : List Value)) (w1 := (layZ g5 (svs g sv ρ c9) σ τ (svr ρ c9) (svc c9) (upd (upd ev 0 (nI (2 + b0))) 1 (nI (2 + b1))))) (by rfl) ?_
  refine bv_fS1 (As := ([.int (wz >>> (((9) + (1)) &&& 31)), .int (64)] : List Value)) (rest := ([.int (nI (2 + b1)), .int (1), .ref 0] : List Value)) C rfl (lx_low hE _ (wz >>> (((9) + (1)) &&& 31)) (64) (by decide)) ml_L_8 st_L_low ini_L cd_L_low ok_L_low rfl ⟨by omega, by omega⟩ hR2 rfl (Nat.le_of_ble_eq_true rfl) ?_
  obtain ⟨o1, ho1, eo1⟩ := low_rg ((wz >>> (((9) + (1)) &&& 31))) 64 (by omega) (by omega)
  rw [show lowF (wz >>> (((9) + (1)) &&& 31)) (64) = nI o1 from eo1]
  refine bv_blk C frk_L csk_L 6 46 rfl (L1 := ([(4, .int (1)), (3, .int wz), (0, .ref 400), (1, .ref 0), (2, .ref 182)] : Lc)) (st1 := ([.int (101), .int (wz >>> (((13) + (1)) &&& 31)), .int (nI o1), .int (nI (2 + b1)), .int (1), .ref 0] : List Value)) (w1 := (layZ g5 (svs g sv ρ c9) σ τ (svr ρ c9) (svc c9) (upd (upd ev 0 (nI (2 + b0))) 1 (nI (2 + b1))))) (by rfl) ?_
  refine bv_fS1 (As := ([.int (wz >>> (((13) + (1)) &&& 31)), .int (101)] : List Value)) (rest := ([.int (nI o1), .int (nI (2 + b1)), .int (1), .ref 0] : List Value)) C rfl (lx_low hE _ (wz >>> (((13) + (1)) &&& 31)) (101) (by decide)) ml_L_8 st_L_low ini_L cd_L_low ok_L_low rfl ⟨by omega, by omega⟩ hR2 rfl (Nat.le_of_ble_eq_true rfl) ?_
  obtain ⟨p1, hp1, ep1⟩ := low_rg ((wz >>> (((13) + (1)) &&& 31))) 101 (by omega) (by omega)
  rw [show lowF (wz >>> (((13) + (1)) &&& 31)) (101) = nI p1 from ep1]
  refine bv_cE (As := ([.int (1), .int (nI (2 + b1)), .int (nI o1), .int (nI p1)] : List Value)) (rest := ([] : List Value)) (v := .int (8)) C rfl (jst_1 (aD_E hE) I5 h35b (by omega) (by omega) (by omega)) ml_L_105 im_X8_setStation sel_X8_setStation ini_X8 cd_X8_setStation ok_X8_setStation rfl ⟨by omega, by omega⟩ hR2 rfl (fun _ => rfl) (fun _ => rfl) (Nat.le_of_ble_eq_true rfl) ?_
  obtain ⟨g6, eg6⟩ : ∃ x, x = setG1 (nI (2 + b1)) (nI o1) (nI p1) g5 := ⟨_, rfl⟩
  rw [← eg6]
  have hi6 := inv_st1 (y := nI o1) hi5 (X := 2 + b1) (Z := p1) (by omega) (by omega)
  rw [← eg6] at hi6
  have I6 := sj_save (g := g6) (show SJ _ g6 _ _ _ _ from ⟨I5.1, ⟨_, hi6⟩, I5.2.2⟩) I5.1 hi6
  have t3_6 : g6 1 3 = nI 0 := by rw [eg6]; exact (sg1_at (by omega) (by omega) (by omega) (by omega) (by omega)).trans t3_5
  have t4_6 : g6 1 4 = nI 0 := by rw [eg6]; exact (sg1_at (by omega) (by omega) (by omega) (by omega) (by omega)).trans t4_5
  have h136 : g6 1 13 = nI 0 := by rw [eg6]; exact sg1_13
  have hbm1 : g6 1 38 = -100000 := by rw [eg6]; exact sg1_b
  refine bv_blk C frk_L csk_L 1 49 rfl (L1 := ([(4, .int (1)), (3, .int wz), (0, .ref 400), (1, .ref 0), (2, .ref 182)] : Lc)) (st1 := ([.int (8), .int (8)] : List Value)) (w1 := (layZ g6 (svs g5 (svs g sv ρ c9) (svr ρ c9) (svc c9)) σ τ (svr (svr ρ c9) (svc c9)) (svc (svc c9)) (upd (upd ev 0 (nI (2 + b0))) 1 (nI (2 + b1))))) (by rfl) ?_
  refine bv_icmp_ne (j := 55) C rfl (by rw [pcL_55]; rfl) (fun h => absurd h (by decide)) (fun _ => ?_)
  refine bv_blk C frk_L csk_L 2 52 rfl (L1 := ([(4, .int (1)), (3, .int wz), (0, .ref 400), (1, .ref 0), (2, .ref 182)] : Lc)) (st1 := ([.int (1), .ref 0] : List Value)) (w1 := (layZ g6 (svs g5 (svs g sv ρ c9) (svr ρ c9) (svc c9)) σ τ (svr (svr ρ c9) (svc c9)) (svc (svc c9)) (upd (upd ev 0 (nI (2 + b0))) 1 (nI (2 + b1))))) (by rfl) ?_
  refine bv_cE (As := ([.int (1)] : List Value)) (rest := ([] : List Value)) (v := .int (g6 1 38)) C rfl (fc_beam1 (aD_E hE) g6 (svs g5 (svs g sv ρ c9) (svr ρ c9) (svc c9)) σ τ I6.1 (svr (svr ρ c9) (svc c9)) (svc (svc c9))) ml_L_66 im_X8_beam sel_X8_beam ini_X8 cd_X8_beam ok_X8_beam rfl ⟨by omega, by omega⟩ hR2 rfl (fun _ => rfl) (fun _ => rfl) (Nat.le_of_ble_eq_true rfl) ?_
  refine bv_blk C frk_L csk_L 1 54 rfl (L1 := ([(4, .int (1)), (3, .int wz), (0, .ref 400), (1, .ref 0), (2, .ref 182)] : Lc)) (st1 := ([.int (-100000), .int (g6 1 38)] : List Value)) (w1 := (layZ g6 (svs g5 (svs g sv ρ c9) (svr ρ c9) (svc c9)) σ τ (svr (svr ρ c9) (svc c9)) (svc (svc c9)) (upd (upd ev 0 (nI (2 + b0))) 1 (nI (2 + b1))))) (by rfl) ?_
  refine bv_icmp_eq (j := 57) C rfl (by rw [pcL_57]; rfl) (fun _ => ?_) (fun h => absurd (hbm1) h)
  refine bv_blk C frk_L csk_L 1 58 rfl (L1 := ([(4, .int ((1) + Int32.ofInt 1)), (3, .int wz), (0, .ref 400), (1, .ref 0), (2, .ref 182)] : Lc)) (st1 := ([] : List Value)) (w1 := (layZ g6 (svs g5 (svs g sv ρ c9) (svr ρ c9) (svc c9)) σ τ (svr (svr ρ c9) (svc c9)) (svc (svc c9)) (upd (upd ev 0 (nI (2 + b0))) 1 (nI (2 + b1))))) (by rfl) ?_
  rw [show ((1) + Int32.ofInt 1) = (2) from by decide]
  refine bv_goto (j := 13) C rfl (by rw [pcL_13]; rfl) ?_
  refine bv_blk C frk_L csk_L 2 15 rfl (L1 := ([(4, .int (2)), (3, .int wz), (0, .ref 400), (1, .ref 0), (2, .ref 182)] : Lc)) (st1 := ([.int (2), .int (2)] : List Value)) (w1 := (layZ g6 (svs g5 (svs g sv ρ c9) (svr ρ c9) (svc c9)) σ τ (svr (svr ρ c9) (svc c9)) (svc (svc c9)) (upd (upd ev 0 (nI (2 + b0))) 1 (nI (2 + b1))))) (by rfl) ?_
  refine bv_icmp_ge (j := 59) C rfl (by rw [pcL_59]; rfl) (fun _ => ?_) (fun h => absurd h (by decide))
  refine bv_blk C frk_L csk_L 4 63 rfl (L1 := ([(4, .int (2)), (3, .int wz), (0, .ref 400), (1, .ref 0), (2, .ref 182)] : Lc)) (st1 := ([.int (5), .int (wz >>> ((20) &&& 31))] : List Value)) (w1 := (layZ g6 (svs g5 (svs g sv ρ c9) (svr ρ c9) (svc c9)) σ τ (svr (svr ρ c9) (svc c9)) (svc (svc c9)) (upd (upd ev 0 (nI (2 + b0))) 1 (nI (2 + b1))))) (by rfl) ?_
  refine bv_fS1 (As := ([.int (wz >>> ((20) &&& 31)), .int (5)] : List Value)) (rest := ([] : List Value)) C rfl (lx_low hE _ (wz >>> ((20) &&& 31)) (5) (by decide)) ml_L_8 st_L_low ini_L cd_L_low ok_L_low rfl ⟨by omega, by omega⟩ hR2 rfl (Nat.le_of_ble_eq_true rfl) ?_
  obtain ⟨mm, hmm, emm⟩ := low_rg ((wz >>> ((20) &&& 31))) 5 (by omega) (by omega)
  rw [show lowF (wz >>> ((20) &&& 31)) (5) = nI mm from emm]
  refine bv_blk C frk_L csk_L 3 67 rfl (L1 := ([(5, .int (0)), (4, .int (nI mm)), (3, .int wz), (0, .ref 400), (1, .ref 0), (2, .ref 182)] : Lc)) (st1 := ([] : List Value)) (w1 := (layZ g6 (svs g5 (svs g sv ρ c9) (svr ρ c9) (svc c9)) σ τ (svr (svr ρ c9) (svc c9)) (svc (svc c9)) (upd (upd ev 0 (nI (2 + b0))) 1 (nI (2 + b1))))) (by rfl) ?_
  refine bv_sub [0, 1, 3, 4, 5] (by rfl) ?_
  exact sg_Q C had hR hR2 kT rfl rfl mm hmm mm 0 _ _ _ _ _ _ (by omega) I6 hi6 t3_6 t4_6 h136
end LS9
