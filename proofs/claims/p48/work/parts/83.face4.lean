theorem inv_psA {g : Nat → Nat → Int32} {n : Nat} {S : Nat → Nat} (h : invK g n S) : invK (psA n S g) n S := by
  have h1 := inv_ps1 h
  unfold psA
  split
  · rename_i c
    have hu := h1.2.2.2.2.2.2.2.2.1 c.1
    have h2 := inv_trk (s := 0) (by omega) h1 hu.1
    have h0 : trkG 0 n S (ps1 n g) 1 0 = 1 := (trk_0 (by omega) h1 0 (by unfold frK; omega) (by omega) (by omega)).trans c.1
    exact inv_trk (s := 1) (by omega) h2 (h2.2.2.2.2.2.2.2.2.1 h0).2
  · exact h1
theorem inv_pas {g : Nat → Nat → Int32} {n : Nat} {S : Nat → Nat} (h : invK g n S) : invK (pasG n S g) n S := by
  have a := inv_psA h
  have b : invK (psB n S g) n S := by
    unfold psB
    split
    · exact inv_tlk a
    · exact a
  unfold pasG
  split
  · exact inv_rs (by omega) b
  · exact b
theorem inv_pasN {g : Nat → Nat → Int32} {n : Nat} {S : Nat → Nat} (h : invK g n S) : ∀ k, invK (pasN n S g k) n S
  | 0 => h
  | k + 1 => inv_pas (inv_pasN h k)
theorem wn_z {x lo hi : Int32} (h : lo ≤ x ∧ x ≤ hi) : ¬ wnI x lo hi = 0 := fun z => wn_f z h
theorem wn_m {m M : Nat} {b : Int32} (hb : b = nI M) (h1 : 1 ≤ m) (h2 : m ≤ M) (hM : M < 2 ^ 31) : ¬ wnI (nI m) 1 b = 0 := wn_z ⟨nI_le (a := 1) (b := m) (by omega) (by omega), by rw [hb]; exact nI_le (a := m) (b := M) (by omega) (by omega)⟩
theorem emb_F1 {g s : Nat → Nat → Int32} {σ τ : Nat → Nat → Nat} {ρ : Nat → Nat} {c : Nat} (hσ : pmF σ τ) : bEmb (io 1) 26 shB (layB (fr g s 1) (σ 1) (τ 1)) 182 shF (layF g s σ τ ρ c) := emb_F (b := 1) (by decide)
def fc_addPath_r (n : Nat) (x y z : Int32) (g s : Nat → Nat → Int32) (ρ : Nat → Nat) (c9 : Nat) : Int32 := (if (wnI x (0) (63)) = 0 then (-100002) else (if (wnI y (0) (63)) = 0 then (-100002) else (if (wnI z (0) (300)) = 0 then (-100002) else (if n < 8 then (((appG n x y z (0) (0) g) 1 12) - (1)) else (-100004)))))
def fc_addPath_w (n : Nat) (x y z : Int32) (g s : Nat → Nat → Int32) (σ τ : Nat → Nat → Nat) (ρ : Nat → Nat) (c9 : Nat) : Wd := (if (wnI x (0) (63)) = 0 then (layF g s σ τ ρ c9) else (if (wnI y (0) (63)) = 0 then (layF g s σ τ ρ c9) else (if (wnI z (0) (300)) = 0 then (layF g s σ τ ρ c9) else (if n < 8 then (layF (appG n x y z (0) (0) g) (svs g s ρ c9) σ τ (svr ρ c9) (svc c9)) else (layF g s σ τ ρ c9)))))
set_option maxRecDepth 100000 in
set_option maxHeartbeats 8000000 in
theorem fc_addPath {l : Launch} {D : va_G} {cA : FieldType → ClassId} {z0 : Nat} {SK : Nat → Nat} {SV : Nat → Int32} {ad : Nat → Nat} (hE : aD (fun q => z0 ≤ q) ad 182) (g s : Nat → Nat → Int32) (σ τ : Nat → Nat → Nat) (hσ : pmF σ τ) (ρ : Nat → Nat) (c9 : Nat) (n : Nat) (x y z : Int32) (hb : bo3 (g 1)) (hρ : ∀ k, k < 6 → ρ k < 6) (hc : c9 ≤ 6) (hn : g 1 12 = nI n) (hn8 : n ≤ 8) : bF l D cA z0 SK SV ad shF 182 yX8_addPath cX8_addPath 4 (some .int) 3 [.ref 0, .int x, .int y, .int z] (layF g s σ τ ρ c9) (some (.int (fc_addPath_r n x y z g s ρ c9))) (fc_addPath_w n x y z g s σ τ ρ c9) := by
  refine bCT_intro (tb := tb_X8_addPath) (own := RX8) hE pn_X8 rfl tk_X8_addPath rfl (Nat.le_of_ble_eq_true rfl) ?_
  intro p e s0 m args below meth c C hr
  refine bv_blk C frk_X8 csk_X8 3 3 rfl (L1 := ([(0, .ref 0), (1, .int x), (2, .int y), (3, .int z)] : Lc)) (st1 := ([.int (63), .int (0), .int x] : List Value)) (w1 := (layF g s σ τ ρ c9)) (by rfl) ?_
  refine bv_fS1 C rfl (cs_within hE _ x (0) (63)) ml_X8_41 st_X8_within ini_X8 cd_X8_within ok_X8_within rfl ⟨Nat.le_of_ble_eq_true rfl, Nat.le_of_ble_eq_true rfl⟩ ⟨Nat.zero_le _, Nat.zero_le _⟩ (rest := ([] : List Value)) rfl (Nat.le_of_ble_eq_true rfl) ?_
  refine bv_if_eq (j := 15) C rfl rfl (fun c1 => ?_) (fun c1 => ?_)
  · refine bv_blk C frk_X8 csk_X8 1 16 rfl (L1 := ([(0, .ref 0), (1, .int x), (2, .int y), (3, .int z)] : Lc)) (st1 := ([.int (-100002)] : List Value)) (w1 := (layF g s σ τ ρ c9)) (by rfl) ?_
    exact bv_iret C rfl hr rfl ⟨by (exact congrArg (fun x => some (Value.int x)) (((if_pos c1).trans rfl)).symm), by (exact congrArg (fun x => x) (((if_pos c1).trans rfl)).symm)⟩
  · refine bv_blk C frk_X8 csk_X8 3 8 rfl (L1 := ([(0, .ref 0), (1, .int x), (2, .int y), (3, .int z)] : Lc)) (st1 := ([.int (63), .int (0), .int y] : List Value)) (w1 := (layF g s σ τ ρ c9)) (by rfl) ?_
    refine bv_fS1 C rfl (cs_within hE _ y (0) (63)) ml_X8_41 st_X8_within ini_X8 cd_X8_within ok_X8_within rfl ⟨Nat.le_of_ble_eq_true rfl, Nat.le_of_ble_eq_true rfl⟩ ⟨Nat.zero_le _, Nat.zero_le _⟩ (rest := ([] : List Value)) rfl (Nat.le_of_ble_eq_true rfl) ?_
    refine bv_if_eq (j := 15) C rfl rfl (fun c2 => ?_) (fun c2 => ?_)
    · refine bv_blk C frk_X8 csk_X8 1 16 rfl (L1 := ([(0, .ref 0), (1, .int x), (2, .int y), (3, .int z)] : Lc)) (st1 := ([.int (-100002)] : List Value)) (w1 := (layF g s σ τ ρ c9)) (by rfl) ?_
      exact bv_iret C rfl hr rfl ⟨by (exact congrArg (fun x => some (Value.int x)) (((if_neg c1).trans ((if_pos c2).trans rfl))).symm), by (exact congrArg (fun x => x) (((if_neg c1).trans ((if_pos c2).trans rfl))).symm)⟩
    · refine bv_blk C frk_X8 csk_X8 3 13 rfl (L1 := ([(0, .ref 0), (1, .int x), (2, .int y), (3, .int z)] : Lc)) (st1 := ([.int (300), .int (0), .int z] : List Value)) (w1 := (layF g s σ τ ρ c9)) (by rfl) ?_
      refine bv_fS1 C rfl (cs_within hE _ z (0) (300)) ml_X8_41 st_X8_within ini_X8 cd_X8_within ok_X8_within rfl ⟨Nat.le_of_ble_eq_true rfl, Nat.le_of_ble_eq_true rfl⟩ ⟨Nat.zero_le _, Nat.zero_le _⟩ (rest := ([] : List Value)) rfl (Nat.le_of_ble_eq_true rfl) ?_
      refine bv_if_ne (j := 17) C rfl rfl (fun c3 => ?_) (fun c3 => ?_)
      · refine bv_blk C frk_X8 csk_X8 4 21 rfl (L1 := ([(0, .ref 0), (1, .int x), (2, .int y), (3, .int z)] : Lc)) (st1 := ([.int (8), .int (g 1 12)] : List Value)) (w1 := (layF g s σ τ ρ c9)) (by rfl) ?_
        by_cases c4 : n < 8
        · refine bv_icmp_lt (j := 24) C rfl rfl (fun _ => ?_) (fun h => absurd (by rw [show (g 1 12) = nI n from hn]; exact (nI_lt (a := n) (b := 8) (by omega) (by omega))) h)
          refine bv_blk C frk_X8 csk_X8 1 25 rfl (L1 := ([(0, .ref 0), (1, .int x), (2, .int y), (3, .int z)] : Lc)) (st1 := ([.ref 0] : List Value)) (w1 := (layF g s σ τ ρ c9)) (by rfl) ?_
          refine bv_fV0 C rfl (fc_save hE g s σ τ hσ ρ c9 hb hρ hc) ml_X8_59 im_X8_save sel_X8_save ini_X8 cd_X8_save ok_X8_save rfl ⟨Nat.le_of_ble_eq_true rfl, Nat.le_of_ble_eq_true rfl⟩ ⟨Nat.zero_le _, Nat.zero_le _⟩ (by decide) rfl rfl rfl (rest := ([] : List Value)) rfl (Nat.le_of_ble_eq_true rfl) ?_
          refine bv_blk C frk_X8 csk_X8 7 33 rfl (L1 := ([(0, .ref 0), (1, .int x), (2, .int y), (3, .int z)] : Lc)) (st1 := ([.int (0), .int (0), .int z, .int y, .int x, .ref 6] : List Value)) (w1 := (layF g (svs g s ρ c9) σ τ (svr ρ c9) (svc c9))) (by rfl) ?_
          refine bv_eV0 (io := io 0) (N' := 26) (w2 := (layF (appG n x y z (0) (0) g) (svs g s ρ c9) σ τ (svr ρ c9) (svc c9))) C rfl (cs_appendPath (io_aD (b := 0) (by decide) hE) g (σ 0) (τ 0) (hσ 0 (by decide)) n x y z (0) (0) hn (by omega)) ml_X8_97 im_X6_appendPath sel_X6_appendPath ini_X6 cd_X6_appendPath ok_X6_appendPath rfl ⟨Nat.le_of_ble_eq_true rfl, Nat.le_of_ble_eq_true rfl⟩ ⟨Nat.zero_le _, Nat.zero_le _⟩ (by decide) rfl rfl rfl (rest := ([] : List Value)) rfl (Nat.le_of_ble_eq_true rfl) (emb_F0 hσ) (aft_F0i hσ) ?_
          refine bv_blk C frk_X8 csk_X8 5 39 rfl (L1 := ([(0, .ref 0), (1, .int x), (2, .int y), (3, .int z)] : Lc)) (st1 := ([.int (((appG n x y z (0) (0) g) 1 12) - (1))] : List Value)) (w1 := (layF (appG n x y z (0) (0) g) (svs g s ρ c9) σ τ (svr ρ c9) (svc c9))) (by rfl) ?_
          exact bv_iret C rfl hr rfl ⟨by (exact congrArg (fun x => some (Value.int x)) (((if_neg c1).trans ((if_neg c2).trans ((if_neg c3).trans ((if_pos c4).trans rfl))))).symm), by (exact congrArg (fun x => x) (((if_neg c1).trans ((if_neg c2).trans ((if_neg c3).trans ((if_pos c4).trans rfl))))).symm)⟩
        · refine bv_icmp_lt (j := 24) C rfl rfl (fun h => absurd h (by rw [show (g 1 12) = nI n from hn]; exact (nI_nlt (a := n) (b := 8) (by omega) (by omega)))) (fun _ => ?_)
          refine bv_blk C frk_X8 csk_X8 1 23 rfl (L1 := ([(0, .ref 0), (1, .int x), (2, .int y), (3, .int z)] : Lc)) (st1 := ([.int (-100004)] : List Value)) (w1 := (layF g s σ τ ρ c9)) (by rfl) ?_
          exact bv_iret C rfl hr rfl ⟨by (exact congrArg (fun x => some (Value.int x)) (((if_neg c1).trans ((if_neg c2).trans ((if_neg c3).trans ((if_neg c4).trans rfl))))).symm), by (exact congrArg (fun x => x) (((if_neg c1).trans ((if_neg c2).trans ((if_neg c3).trans ((if_neg c4).trans rfl))))).symm)⟩
      · refine bv_blk C frk_X8 csk_X8 1 16 rfl (L1 := ([(0, .ref 0), (1, .int x), (2, .int y), (3, .int z)] : Lc)) (st1 := ([.int (-100002)] : List Value)) (w1 := (layF g s σ τ ρ c9)) (by rfl) ?_
        exact bv_iret C rfl hr rfl ⟨by (exact congrArg (fun x => some (Value.int x)) (((if_neg c1).trans ((if_neg c2).trans ((if_pos c3).trans rfl)))).symm), by (exact congrArg (fun x => x) (((if_neg c1).trans ((if_neg c2).trans ((if_pos c3).trans rfl)))).symm)⟩
def fc_removePath_r (n q : Nat) (g s : Nat → Nat → Int32) (ρ : Nat → Nat) (c9 : Nat) : Int32 := ((drG q g) 1 12)
def fc_removePath_w (n q : Nat) (g s : Nat → Nat → Int32) (σ τ : Nat → Nat → Nat) (ρ : Nat → Nat) (c9 : Nat) : Wd := (layF (drG q g) (svs g s ρ c9) (upS σ 0 (drS q (σ 0))) (upS τ 0 (drT q (τ 0))) (svr ρ c9) (svc c9))
set_option maxRecDepth 100000 in
set_option maxHeartbeats 8000000 in
theorem fc_removePath {l : Launch} {D : va_G} {cA : FieldType → ClassId} {z0 : Nat} {SK : Nat → Nat} {SV : Nat → Int32} {ad : Nat → Nat} (hE : aD (fun q => z0 ≤ q) ad 182) (g s : Nat → Nat → Int32) (σ τ : Nat → Nat → Nat) (hσ : pmF σ τ) (ρ : Nat → Nat) (c9 : Nat) (n q : Nat) (hb : bo3 (g 1)) (hρ : ∀ k, k < 6 → ρ k < 6) (hc : c9 ≤ 6) (hn : g 1 12 = nI n) (hn8 : n ≤ 8) (hq : q < n) : bF l D cA z0 SK SV ad shF 182 yX8_removePath cX8_removePath 2 (some .int) 3 [.ref 0, .int (nI q)] (layF g s σ τ ρ c9) (some (.int (fc_removePath_r n q g s ρ c9))) (fc_removePath_w n q g s σ τ ρ c9) := by
  refine bCT_intro (tb := tb_X8_removePath) (own := RX8) hE pn_X8 rfl tk_X8_removePath rfl (Nat.le_of_ble_eq_true rfl) ?_
  intro p e s0 m args below meth c C hr
  refine bv_blk C frk_X8 csk_X8 3 3 rfl (L1 := ([(0, .ref 0), (1, .int (nI q))] : Lc)) (st1 := ([.int (nI q), .ref 6] : List Value)) (w1 := (layF g s σ τ ρ c9)) (by rfl) ?_
  refine bv_eV1 (io := io 0) (N' := 26) (w2 := (layF g s σ τ ρ c9)) C rfl (cs_hasPath (io_aD (b := 0) (by decide) hE) g (σ 0) (τ 0) (hσ 0 (by decide)) (nI q)) ml_X8_101 im_X6_hasPath sel_X6_hasPath ini_X6 cd_X6_hasPath ok_X6_hasPath rfl ⟨Nat.le_of_ble_eq_true rfl, Nat.le_of_ble_eq_true rfl⟩ ⟨Nat.zero_le _, Nat.zero_le _⟩ (by decide) rfl rfl rfl (rest := ([] : List Value)) rfl (Nat.le_of_ble_eq_true rfl) (emb_F0 hσ) (aft_F0i hσ) rfl ?_
  refine bv_if_ne (j := 7) C rfl rfl (fun _ => ?_) (fun h => absurd h ((by rw [hp_in hn hn8 hq]; decide)))
  refine bv_blk C frk_X8 csk_X8 1 8 rfl (L1 := ([(0, .ref 0), (1, .int (nI q))] : Lc)) (st1 := ([.ref 0] : List Value)) (w1 := (layF g s σ τ ρ c9)) (by rfl) ?_
  refine bv_fV0 C rfl (fc_save hE g s σ τ hσ ρ c9 hb hρ hc) ml_X8_59 im_X8_save sel_X8_save ini_X8 cd_X8_save ok_X8_save rfl ⟨Nat.le_of_ble_eq_true rfl, Nat.le_of_ble_eq_true rfl⟩ ⟨Nat.zero_le _, Nat.zero_le _⟩ (by decide) rfl rfl rfl (rest := ([] : List Value)) rfl (Nat.le_of_ble_eq_true rfl) ?_
  refine bv_blk C frk_X8 csk_X8 3 12 rfl (L1 := ([(0, .ref 0), (1, .int (nI q))] : Lc)) (st1 := ([.int (nI q), .ref 6] : List Value)) (w1 := (layF g (svs g s ρ c9) σ τ (svr ρ c9) (svc c9))) (by rfl) ?_
  refine bv_eV0 (io := io 0) (N' := 26) (o0 := 0) (w2 := (layF (drG q g) (svs g s ρ c9) (upS σ 0 (drS q (σ 0))) (upS τ 0 (drT q (τ 0))) (svr ρ c9) (svc c9))) C rfl (cs_dropPath (io_aD (b := 0) (by decide) hE) g (σ 0) (τ 0) (hσ 0 (by decide)) n q hn hn8 hq) ml_X8_104 im_X6_dropPath sel_X6_dropPath ini_X6 cd_X6_dropPath ok_X6_dropPath rfl ⟨Nat.le_of_ble_eq_true rfl, Nat.le_of_ble_eq_true rfl⟩ ⟨Nat.zero_le _, Nat.zero_le _⟩ (by decide) rfl rfl rfl (rest := ([] : List Value)) rfl (Nat.le_of_ble_eq_true rfl) (emb_F0 hσ) (aft_F0 hσ) ?_
  refine bv_blk C frk_X8 csk_X8 3 16 rfl (L1 := ([(0, .ref 0), (1, .int (nI q))] : Lc)) (st1 := ([.int ((drG q g) 1 12)] : List Value)) (w1 := (layF (drG q g) (svs g s ρ c9) (upS σ 0 (drS q (σ 0))) (upS τ 0 (drT q (τ 0))) (svr ρ c9) (svc c9))) (by rfl) ?_
  exact bv_iret C rfl hr rfl ⟨by (rfl), by (rfl)⟩
def fc_removePathx_r (x : Int32) (g s : Nat → Nat → Int32) (ρ : Nat → Nat) (c9 : Nat) : Int32 := (-100001)
set_option maxRecDepth 100000 in
set_option maxHeartbeats 8000000 in
theorem fc_removePathx {l : Launch} {D : va_G} {cA : FieldType → ClassId} {z0 : Nat} {SK : Nat → Nat} {SV : Nat → Int32} {ad : Nat → Nat} (hE : aD (fun q => z0 ≤ q) ad 182) (g s : Nat → Nat → Int32) (σ τ : Nat → Nat → Nat) (hσ : pmF σ τ) (ρ : Nat → Nat) (c9 : Nat) (x : Int32) (hx : cs_hasPath_r x g = 0) : bF l D cA z0 SK SV ad shF 182 yX8_removePath cX8_removePath 2 (some .int) 3 [.ref 0, .int x] (layF g s σ τ ρ c9) (some (.int (fc_removePathx_r x g s ρ c9))) (layF g s σ τ ρ c9) := by
  refine bCT_intro (tb := tb_X8_removePath) (own := RX8) hE pn_X8 rfl tk_X8_removePath rfl (Nat.le_of_ble_eq_true rfl) ?_
  intro p e s0 m args below meth c C hr
  refine bv_blk C frk_X8 csk_X8 3 3 rfl (L1 := ([(0, .ref 0), (1, .int x)] : Lc)) (st1 := ([.int x, .ref 6] : List Value)) (w1 := (layF g s σ τ ρ c9)) (by rfl) ?_
  refine bv_eV1 (io := io 0) (N' := 26) (w2 := (layF g s σ τ ρ c9)) C rfl (cs_hasPath (io_aD (b := 0) (by decide) hE) g (σ 0) (τ 0) (hσ 0 (by decide)) x) ml_X8_101 im_X6_hasPath sel_X6_hasPath ini_X6 cd_X6_hasPath ok_X6_hasPath rfl ⟨Nat.le_of_ble_eq_true rfl, Nat.le_of_ble_eq_true rfl⟩ ⟨Nat.zero_le _, Nat.zero_le _⟩ (by decide) rfl rfl rfl (rest := ([] : List Value)) rfl (Nat.le_of_ble_eq_true rfl) (emb_F0 hσ) (aft_F0i hσ) rfl ?_
  refine bv_if_ne (j := 7) C rfl rfl (fun h => absurd (hx) h) (fun _ => ?_)
  refine bv_blk C frk_X8 csk_X8 1 6 rfl (L1 := ([(0, .ref 0), (1, .int x)] : Lc)) (st1 := ([.int (-100001)] : List Value)) (w1 := (layF g s σ τ ρ c9)) (by rfl) ?_
  exact bv_iret C rfl hr rfl ⟨by (rfl), by (rfl)⟩
def fc_setDrift_r (n q : Nat) (x y : Int32) (g s : Nat → Nat → Int32) (ρ : Nat → Nat) (c9 : Nat) : Int32 := (if (wnI x (-3) (3)) = 0 then (-100002) else (if (wnI y (-3) (3)) = 0 then (-100002) else (1)))
def fc_setDrift_w (n q : Nat) (x y : Int32) (g s : Nat → Nat → Int32) (σ τ : Nat → Nat → Nat) (ρ : Nat → Nat) (c9 : Nat) : Wd := (if (wnI x (-3) (3)) = 0 then (layF g s σ τ ρ c9) else (if (wnI y (-3) (3)) = 0 then (layF g s σ τ ρ c9) else (layF (ug (ug g 1 (55 + 6 * q + 4) x) 1 (55 + 6 * q + 5) y) (svs g s ρ c9) σ τ (svr ρ c9) (svc c9))))
set_option maxRecDepth 100000 in
set_option maxHeartbeats 8000000 in
theorem fc_setDrift {l : Launch} {D : va_G} {cA : FieldType → ClassId} {z0 : Nat} {SK : Nat → Nat} {SV : Nat → Int32} {ad : Nat → Nat} (hE : aD (fun q => z0 ≤ q) ad 182) (g s : Nat → Nat → Int32) (σ τ : Nat → Nat → Nat) (hσ : pmF σ τ) (ρ : Nat → Nat) (c9 : Nat) (n q : Nat) (x y : Int32) (hb : bo3 (g 1)) (hρ : ∀ k, k < 6 → ρ k < 6) (hc : c9 ≤ 6) (hn : g 1 12 = nI n) (hn8 : n ≤ 8) (hq : q < n) : bF l D cA z0 SK SV ad shF 182 yX8_setDrift cX8_setDrift 4 (some .int) 3 [.ref 0, .int (nI q), .int x, .int y] (layF g s σ τ ρ c9) (some (.int (fc_setDrift_r n q x y g s ρ c9))) (fc_setDrift_w n q x y g s σ τ ρ c9) := by
  refine bCT_intro (tb := tb_X8_setDrift) (own := RX8) hE pn_X8 rfl tk_X8_setDrift rfl (Nat.le_of_ble_eq_true rfl) ?_
  intro p e s0 m args below meth c C hr
  refine bv_blk C frk_X8 csk_X8 3 3 rfl (L1 := ([(0, .ref 0), (1, .int (nI q)), (2, .int x), (3, .int y)] : Lc)) (st1 := ([.int (nI q), .ref 6] : List Value)) (w1 := (layF g s σ τ ρ c9)) (by rfl) ?_
  refine bv_eV1 (io := io 0) (N' := 26) (w2 := (layF g s σ τ ρ c9)) C rfl (cs_hasPath (io_aD (b := 0) (by decide) hE) g (σ 0) (τ 0) (hσ 0 (by decide)) (nI q)) ml_X8_101 im_X6_hasPath sel_X6_hasPath ini_X6 cd_X6_hasPath ok_X6_hasPath rfl ⟨Nat.le_of_ble_eq_true rfl, Nat.le_of_ble_eq_true rfl⟩ ⟨Nat.zero_le _, Nat.zero_le _⟩ (by decide) rfl rfl rfl (rest := ([] : List Value)) rfl (Nat.le_of_ble_eq_true rfl) (emb_F0 hσ) (aft_F0i hσ) rfl ?_
  refine bv_if_ne (j := 7) C rfl rfl (fun _ => ?_) (fun h => absurd h ((by rw [hp_in hn hn8 hq]; decide)))
  refine bv_blk C frk_X8 csk_X8 3 10 rfl (L1 := ([(0, .ref 0), (1, .int (nI q)), (2, .int x), (3, .int y)] : Lc)) (st1 := ([.int (3), .int (-3), .int x] : List Value)) (w1 := (layF g s σ τ ρ c9)) (by rfl) ?_
  refine bv_fS1 C rfl (cs_within hE _ x (-3) (3)) ml_X8_41 st_X8_within ini_X8 cd_X8_within ok_X8_within rfl ⟨Nat.le_of_ble_eq_true rfl, Nat.le_of_ble_eq_true rfl⟩ ⟨Nat.zero_le _, Nat.zero_le _⟩ (rest := ([] : List Value)) rfl (Nat.le_of_ble_eq_true rfl) ?_
  refine bv_if_eq (j := 17) C rfl rfl (fun c2 => ?_) (fun c2 => ?_)
  · refine bv_blk C frk_X8 csk_X8 1 18 rfl (L1 := ([(0, .ref 0), (1, .int (nI q)), (2, .int x), (3, .int y)] : Lc)) (st1 := ([.int (-100002)] : List Value)) (w1 := (layF g s σ τ ρ c9)) (by rfl) ?_
    exact bv_iret C rfl hr rfl ⟨by (exact congrArg (fun x => some (Value.int x)) (((if_pos c2).trans rfl)).symm), by (exact congrArg (fun x => x) (((if_pos c2).trans rfl)).symm)⟩
  · refine bv_blk C frk_X8 csk_X8 3 15 rfl (L1 := ([(0, .ref 0), (1, .int (nI q)), (2, .int x), (3, .int y)] : Lc)) (st1 := ([.int (3), .int (-3), .int y] : List Value)) (w1 := (layF g s σ τ ρ c9)) (by rfl) ?_
    refine bv_fS1 C rfl (cs_within hE _ y (-3) (3)) ml_X8_41 st_X8_within ini_X8 cd_X8_within ok_X8_within rfl ⟨Nat.le_of_ble_eq_true rfl, Nat.le_of_ble_eq_true rfl⟩ ⟨Nat.zero_le _, Nat.zero_le _⟩ (rest := ([] : List Value)) rfl (Nat.le_of_ble_eq_true rfl) ?_
    refine bv_if_ne (j := 19) C rfl rfl (fun c3 => ?_) (fun c3 => ?_)
    · refine bv_blk C frk_X8 csk_X8 1 20 rfl (L1 := ([(0, .ref 0), (1, .int (nI q)), (2, .int x), (3, .int y)] : Lc)) (st1 := ([.ref 0] : List Value)) (w1 := (layF g s σ τ ρ c9)) (by rfl) ?_
      refine bv_fV0 C rfl (fc_save hE g s σ τ hσ ρ c9 hb hρ hc) ml_X8_59 im_X8_save sel_X8_save ini_X8 cd_X8_save ok_X8_save rfl ⟨Nat.le_of_ble_eq_true rfl, Nat.le_of_ble_eq_true rfl⟩ ⟨Nat.zero_le _, Nat.zero_le _⟩ (by decide) rfl rfl rfl (rest := ([] : List Value)) rfl (Nat.le_of_ble_eq_true rfl) ?_
      refine bv_blk C frk_X8 csk_X8 4 25 rfl (L1 := ([(0, .ref 0), (1, .int (nI q)), (2, .int x), (3, .int y)] : Lc)) (st1 := ([.int (nI q), .ref 11] : List Value)) (w1 := (layF g (svs g s ρ c9) σ τ (svr ρ c9) (svc c9))) (by rfl) ?_
      refine bv_aaldPath (y := io 0 (6 + σ 0 q)) C rfl rfl (by decide) (j := q) (by exact rfl) (by first | decide | omega) (by decide) (by rfl) ?_
      refine bv_blk C frk_X8 csk_X8 1 27 rfl (L1 := ([(0, .ref 0), (1, .int (nI q)), (2, .int x), (3, .int y)] : Lc)) (st1 := ([.int x, .ref (io 0 (6 + σ 0 q))] : List Value)) (w1 := (layF g (svs g s ρ c9) σ τ (svr ρ c9) (svc c9))) (by rfl) ?_
      refine bv_putFP (q := q) (k := 4) C rfl fl_X8_112 (by decide) hσ (show q < 8 by first | decide | omega) rfl (by decide +kernel) ?_
      refine bv_blk C frk_X8 csk_X8 4 32 rfl (L1 := ([(0, .ref 0), (1, .int (nI q)), (2, .int x), (3, .int y)] : Lc)) (st1 := ([.int (nI q), .ref 11] : List Value)) (w1 := (layF (ug g 1 (55 + 6 * q + 4) x) (svs g s ρ c9) σ τ (svr ρ c9) (svc c9))) (by rfl) ?_
      refine bv_aaldPath (y := io 0 (6 + σ 0 q)) C rfl rfl (by decide) (j := q) (by exact rfl) (by first | decide | omega) (by decide) (by rfl) ?_
      refine bv_blk C frk_X8 csk_X8 1 34 rfl (L1 := ([(0, .ref 0), (1, .int (nI q)), (2, .int x), (3, .int y)] : Lc)) (st1 := ([.int y, .ref (io 0 (6 + σ 0 q))] : List Value)) (w1 := (layF (ug g 1 (55 + 6 * q + 4) x) (svs g s ρ c9) σ τ (svr ρ c9) (svc c9))) (by rfl) ?_
      refine bv_putFP (q := q) (k := 5) C rfl fl_X8_117 (by decide) hσ (show q < 8 by first | decide | omega) rfl (by decide +kernel) ?_
      refine bv_blk C frk_X8 csk_X8 1 36 rfl (L1 := ([(0, .ref 0), (1, .int (nI q)), (2, .int x), (3, .int y)] : Lc)) (st1 := ([.int (1)] : List Value)) (w1 := (layF (ug (ug g 1 (55 + 6 * q + 4) x) 1 (55 + 6 * q + 5) y) (svs g s ρ c9) σ τ (svr ρ c9) (svc c9))) (by rfl) ?_
      exact bv_iret C rfl hr rfl ⟨by (exact congrArg (fun x => some (Value.int x)) (((if_neg c2).trans ((if_neg c3).trans rfl))).symm), by (exact congrArg (fun x => x) (((if_neg c2).trans ((if_neg c3).trans rfl))).symm)⟩
    · refine bv_blk C frk_X8 csk_X8 1 18 rfl (L1 := ([(0, .ref 0), (1, .int (nI q)), (2, .int x), (3, .int y)] : Lc)) (st1 := ([.int (-100002)] : List Value)) (w1 := (layF g s σ τ ρ c9)) (by rfl) ?_
      exact bv_iret C rfl hr rfl ⟨by (exact congrArg (fun x => some (Value.int x)) (((if_neg c2).trans ((if_pos c3).trans rfl))).symm), by (exact congrArg (fun x => x) (((if_neg c2).trans ((if_pos c3).trans rfl))).symm)⟩
def fc_setDriftx_r (x y z : Int32) (g s : Nat → Nat → Int32) (ρ : Nat → Nat) (c9 : Nat) : Int32 := (-100001)
set_option maxRecDepth 100000 in
set_option maxHeartbeats 8000000 in
theorem fc_setDriftx {l : Launch} {D : va_G} {cA : FieldType → ClassId} {z0 : Nat} {SK : Nat → Nat} {SV : Nat → Int32} {ad : Nat → Nat} (hE : aD (fun q => z0 ≤ q) ad 182) (g s : Nat → Nat → Int32) (σ τ : Nat → Nat → Nat) (hσ : pmF σ τ) (ρ : Nat → Nat) (c9 : Nat) (x y z : Int32) (hx : cs_hasPath_r x g = 0) : bF l D cA z0 SK SV ad shF 182 yX8_setDrift cX8_setDrift 4 (some .int) 3 [.ref 0, .int x, .int y, .int z] (layF g s σ τ ρ c9) (some (.int (fc_setDriftx_r x y z g s ρ c9))) (layF g s σ τ ρ c9) := by
  refine bCT_intro (tb := tb_X8_setDrift) (own := RX8) hE pn_X8 rfl tk_X8_setDrift rfl (Nat.le_of_ble_eq_true rfl) ?_
  intro p e s0 m args below meth c C hr
  refine bv_blk C frk_X8 csk_X8 3 3 rfl (L1 := ([(0, .ref 0), (1, .int x), (2, .int y), (3, .int z)] : Lc)) (st1 := ([.int x, .ref 6] : List Value)) (w1 := (layF g s σ τ ρ c9)) (by rfl) ?_
  refine bv_eV1 (io := io 0) (N' := 26) (w2 := (layF g s σ τ ρ c9)) C rfl (cs_hasPath (io_aD (b := 0) (by decide) hE) g (σ 0) (τ 0) (hσ 0 (by decide)) x) ml_X8_101 im_X6_hasPath sel_X6_hasPath ini_X6 cd_X6_hasPath ok_X6_hasPath rfl ⟨Nat.le_of_ble_eq_true rfl, Nat.le_of_ble_eq_true rfl⟩ ⟨Nat.zero_le _, Nat.zero_le _⟩ (by decide) rfl rfl rfl (rest := ([] : List Value)) rfl (Nat.le_of_ble_eq_true rfl) (emb_F0 hσ) (aft_F0i hσ) rfl ?_
  refine bv_if_ne (j := 7) C rfl rfl (fun h => absurd (hx) h) (fun _ => ?_)
  refine bv_blk C frk_X8 csk_X8 1 6 rfl (L1 := ([(0, .ref 0), (1, .int x), (2, .int y), (3, .int z)] : Lc)) (st1 := ([.int (-100001)] : List Value)) (w1 := (layF g s σ τ ρ c9)) (by rfl) ?_
  exact bv_iret C rfl hr rfl ⟨by (rfl), by (rfl)⟩
def fc_setBlock_r (n q : Nat) (x : Int32) (g s : Nat → Nat → Int32) (ρ : Nat → Nat) (c9 : Nat) : Int32 := (if (wnI x (0) (200)) = 0 then (-100002) else (g 1 (55 + 6 * q + 3)))
def fc_setBlock_w (n q : Nat) (x : Int32) (g s : Nat → Nat → Int32) (σ τ : Nat → Nat → Nat) (ρ : Nat → Nat) (c9 : Nat) : Wd := (if (wnI x (0) (200)) = 0 then (layF g s σ τ ρ c9) else (layF (ug g 1 (55 + 6 * q + 3) x) (svs g s ρ c9) σ τ (svr ρ c9) (svc c9)))
set_option maxRecDepth 100000 in
set_option maxHeartbeats 8000000 in
theorem fc_setBlock {l : Launch} {D : va_G} {cA : FieldType → ClassId} {z0 : Nat} {SK : Nat → Nat} {SV : Nat → Int32} {ad : Nat → Nat} (hE : aD (fun q => z0 ≤ q) ad 182) (g s : Nat → Nat → Int32) (σ τ : Nat → Nat → Nat) (hσ : pmF σ τ) (ρ : Nat → Nat) (c9 : Nat) (n q : Nat) (x : Int32) (hb : bo3 (g 1)) (hρ : ∀ k, k < 6 → ρ k < 6) (hc : c9 ≤ 6) (hn : g 1 12 = nI n) (hn8 : n ≤ 8) (hq : q < n) : bF l D cA z0 SK SV ad shF 182 yX8_setBlock cX8_setBlock 4 (some .int) 3 [.ref 0, .int (nI q), .int x] (layF g s σ τ ρ c9) (some (.int (fc_setBlock_r n q x g s ρ c9))) (fc_setBlock_w n q x g s σ τ ρ c9) := by
  refine bCT_intro (tb := tb_X8_setBlock) (own := RX8) hE pn_X8 rfl tk_X8_setBlock rfl (Nat.le_of_ble_eq_true rfl) ?_
  intro p e s0 m args below meth c C hr
  refine bv_blk C frk_X8 csk_X8 3 3 rfl (L1 := ([(0, .ref 0), (1, .int (nI q)), (2, .int x)] : Lc)) (st1 := ([.int (nI q), .ref 6] : List Value)) (w1 := (layF g s σ τ ρ c9)) (by rfl) ?_
  refine bv_eV1 (io := io 0) (N' := 26) (w2 := (layF g s σ τ ρ c9)) C rfl (cs_hasPath (io_aD (b := 0) (by decide) hE) g (σ 0) (τ 0) (hσ 0 (by decide)) (nI q)) ml_X8_101 im_X6_hasPath sel_X6_hasPath ini_X6 cd_X6_hasPath ok_X6_hasPath rfl ⟨Nat.le_of_ble_eq_true rfl, Nat.le_of_ble_eq_true rfl⟩ ⟨Nat.zero_le _, Nat.zero_le _⟩ (by decide) rfl rfl rfl (rest := ([] : List Value)) rfl (Nat.le_of_ble_eq_true rfl) (emb_F0 hσ) (aft_F0i hσ) rfl ?_
  refine bv_if_ne (j := 7) C rfl rfl (fun _ => ?_) (fun h => absurd h ((by rw [hp_in hn hn8 hq]; decide)))
  refine bv_blk C frk_X8 csk_X8 3 10 rfl (L1 := ([(0, .ref 0), (1, .int (nI q)), (2, .int x)] : Lc)) (st1 := ([.int (200), .int (0), .int x] : List Value)) (w1 := (layF g s σ τ ρ c9)) (by rfl) ?_
  refine bv_fS1 C rfl (cs_within hE _ x (0) (200)) ml_X8_41 st_X8_within ini_X8 cd_X8_within ok_X8_within rfl ⟨Nat.le_of_ble_eq_true rfl, Nat.le_of_ble_eq_true rfl⟩ ⟨Nat.zero_le _, Nat.zero_le _⟩ (rest := ([] : List Value)) rfl (Nat.le_of_ble_eq_true rfl) ?_
  refine bv_if_ne (j := 14) C rfl rfl (fun c2 => ?_) (fun c2 => ?_)
  · refine bv_blk C frk_X8 csk_X8 1 15 rfl (L1 := ([(0, .ref 0), (1, .int (nI q)), (2, .int x)] : Lc)) (st1 := ([.ref 0] : List Value)) (w1 := (layF g s σ τ ρ c9)) (by rfl) ?_
    refine bv_fV0 C rfl (fc_save hE g s σ τ hσ ρ c9 hb hρ hc) ml_X8_59 im_X8_save sel_X8_save ini_X8 cd_X8_save ok_X8_save rfl ⟨Nat.le_of_ble_eq_true rfl, Nat.le_of_ble_eq_true rfl⟩ ⟨Nat.zero_le _, Nat.zero_le _⟩ (by decide) rfl rfl rfl (rest := ([] : List Value)) rfl (Nat.le_of_ble_eq_true rfl) ?_
    refine bv_blk C frk_X8 csk_X8 4 20 rfl (L1 := ([(0, .ref 0), (1, .int (nI q)), (2, .int x)] : Lc)) (st1 := ([.int (nI q), .ref 11] : List Value)) (w1 := (layF g (svs g s ρ c9) σ τ (svr ρ c9) (svc c9))) (by rfl) ?_
    refine bv_aaldPath (y := io 0 (6 + σ 0 q)) C rfl rfl (by decide) (j := q) (by exact rfl) (by first | decide | omega) (by decide) (by rfl) ?_
    refine bv_getFP (q := q) (k := 3) C rfl fl_X8_120 (by decide) hσ (show q < 8 by first | decide | omega) ?_
    refine bv_blk C frk_X8 csk_X8 5 27 rfl (L1 := ([(3, .int (g 1 (55 + 6 * q + 3))), (0, .ref 0), (1, .int (nI q)), (2, .int x)] : Lc)) (st1 := ([.int (nI q), .ref 11] : List Value)) (w1 := (layF g (svs g s ρ c9) σ τ (svr ρ c9) (svc c9))) (by rfl) ?_
    refine bv_aaldPath (y := io 0 (6 + σ 0 q)) C rfl rfl (by decide) (j := q) (by exact rfl) (by first | decide | omega) (by decide) (by rfl) ?_
    refine bv_blk C frk_X8 csk_X8 1 29 rfl (L1 := ([(3, .int (g 1 (55 + 6 * q + 3))), (0, .ref 0), (1, .int (nI q)), (2, .int x)] : Lc)) (st1 := ([.int x, .ref (io 0 (6 + σ 0 q))] : List Value)) (w1 := (layF g (svs g s ρ c9) σ τ (svr ρ c9) (svc c9))) (by rfl) ?_
    refine bv_putFP (q := q) (k := 3) C rfl fl_X8_120 (by decide) hσ (show q < 8 by first | decide | omega) rfl (by decide +kernel) ?_
    refine bv_blk C frk_X8 csk_X8 1 31 rfl (L1 := ([(3, .int (g 1 (55 + 6 * q + 3))), (0, .ref 0), (1, .int (nI q)), (2, .int x)] : Lc)) (st1 := ([.int (g 1 (55 + 6 * q + 3))] : List Value)) (w1 := (layF (ug g 1 (55 + 6 * q + 3) x) (svs g s ρ c9) σ τ (svr ρ c9) (svc c9))) (by rfl) ?_
    exact bv_iret C rfl hr rfl ⟨by (exact congrArg (fun x => some (Value.int x)) (((if_neg c2).trans rfl)).symm), by (exact congrArg (fun x => x) (((if_neg c2).trans rfl)).symm)⟩
  · refine bv_blk C frk_X8 csk_X8 1 13 rfl (L1 := ([(0, .ref 0), (1, .int (nI q)), (2, .int x)] : Lc)) (st1 := ([.int (-100002)] : List Value)) (w1 := (layF g s σ τ ρ c9)) (by rfl) ?_
    exact bv_iret C rfl hr rfl ⟨by (exact congrArg (fun x => some (Value.int x)) (((if_pos c2).trans rfl)).symm), by (exact congrArg (fun x => x) (((if_pos c2).trans rfl)).symm)⟩
def fc_setBlockx_r (x y : Int32) (g s : Nat → Nat → Int32) (ρ : Nat → Nat) (c9 : Nat) : Int32 := (-100001)
set_option maxRecDepth 100000 in
set_option maxHeartbeats 8000000 in
theorem fc_setBlockx {l : Launch} {D : va_G} {cA : FieldType → ClassId} {z0 : Nat} {SK : Nat → Nat} {SV : Nat → Int32} {ad : Nat → Nat} (hE : aD (fun q => z0 ≤ q) ad 182) (g s : Nat → Nat → Int32) (σ τ : Nat → Nat → Nat) (hσ : pmF σ τ) (ρ : Nat → Nat) (c9 : Nat) (x y : Int32) (hx : cs_hasPath_r x g = 0) : bF l D cA z0 SK SV ad shF 182 yX8_setBlock cX8_setBlock 4 (some .int) 3 [.ref 0, .int x, .int y] (layF g s σ τ ρ c9) (some (.int (fc_setBlockx_r x y g s ρ c9))) (layF g s σ τ ρ c9) := by
  refine bCT_intro (tb := tb_X8_setBlock) (own := RX8) hE pn_X8 rfl tk_X8_setBlock rfl (Nat.le_of_ble_eq_true rfl) ?_
  intro p e s0 m args below meth c C hr
  refine bv_blk C frk_X8 csk_X8 3 3 rfl (L1 := ([(0, .ref 0), (1, .int x), (2, .int y)] : Lc)) (st1 := ([.int x, .ref 6] : List Value)) (w1 := (layF g s σ τ ρ c9)) (by rfl) ?_
  refine bv_eV1 (io := io 0) (N' := 26) (w2 := (layF g s σ τ ρ c9)) C rfl (cs_hasPath (io_aD (b := 0) (by decide) hE) g (σ 0) (τ 0) (hσ 0 (by decide)) x) ml_X8_101 im_X6_hasPath sel_X6_hasPath ini_X6 cd_X6_hasPath ok_X6_hasPath rfl ⟨Nat.le_of_ble_eq_true rfl, Nat.le_of_ble_eq_true rfl⟩ ⟨Nat.zero_le _, Nat.zero_le _⟩ (by decide) rfl rfl rfl (rest := ([] : List Value)) rfl (Nat.le_of_ble_eq_true rfl) (emb_F0 hσ) (aft_F0i hσ) rfl ?_
  refine bv_if_ne (j := 7) C rfl rfl (fun h => absurd (hx) h) (fun _ => ?_)
  refine bv_blk C frk_X8 csk_X8 1 6 rfl (L1 := ([(0, .ref 0), (1, .int x), (2, .int y)] : Lc)) (st1 := ([.int (-100001)] : List Value)) (w1 := (layF g s σ τ ρ c9)) (by rfl) ?_
  exact bv_iret C rfl hr rfl ⟨by (rfl), by (rfl)⟩
def fc_survey_r (n S0 S1 : Nat) (x : Int32) (g s : Nat → Nat → Int32) (ρ : Nat → Nat) (c9 : Nat) : Int32 := (if (wnI x (1) (32)) = 0 then (-100002) else ((fbW n S0 S1 x g) 1 13))
def fc_survey_w (n S0 S1 : Nat) (x : Int32) (g s : Nat → Nat → Int32) (σ τ : Nat → Nat → Nat) (ρ : Nat → Nat) (c9 : Nat) : Wd := (if (wnI x (1) (32)) = 0 then (layF g s σ τ ρ c9) else (layF (fbW n S0 S1 x g) (svs g s ρ c9) σ τ (svr ρ c9) (svc c9)))
set_option maxRecDepth 100000 in
set_option maxHeartbeats 8000000 in
theorem fc_survey {l : Launch} {D : va_G} {cA : FieldType → ClassId} {z0 : Nat} {SK : Nat → Nat} {SV : Nat → Int32} {ad : Nat → Nat} (hE : aD (fun q => z0 ≤ q) ad 182) (g s : Nat → Nat → Int32) (σ τ : Nat → Nat → Nat) (hσ : pmF σ τ) (ρ : Nat → Nat) (c9 : Nat) (n S0 S1 : Nat) (x : Int32) (hb : bo3 (g 1)) (hρ : ∀ k, k < 6 → ρ k < 6) (hc : c9 ≤ 6) (hs : statR g n) (hS0 : g 1 15 = nI S0) (hS1 : g 1 35 = nI S1) (hA : S0 ≤ 16) (hB : S1 ≤ 16) : bF l D cA z0 SK SV ad shF 182 yX8_survey cX8_survey 2 (some .int) 6 [.ref 0, .int x] (layF g s σ τ ρ c9) (some (.int (fc_survey_r n S0 S1 x g s ρ c9))) (fc_survey_w n S0 S1 x g s σ τ ρ c9) := by
  refine bCT_intro (tb := tb_X8_survey) (own := RX8) hE pn_X8 rfl tk_X8_survey rfl (Nat.le_of_ble_eq_true rfl) ?_
  intro p e s0 m args below meth c C hr
  refine bv_blk C frk_X8 csk_X8 3 3 rfl (L1 := ([(0, .ref 0), (1, .int x)] : Lc)) (st1 := ([.int (32), .int (1), .int x] : List Value)) (w1 := (layF g s σ τ ρ c9)) (by rfl) ?_
  refine bv_fS1 C rfl (cs_within hE _ x (1) (32)) ml_X8_41 st_X8_within ini_X8 cd_X8_within ok_X8_within rfl ⟨Nat.le_of_ble_eq_true rfl, Nat.le_of_ble_eq_true rfl⟩ ⟨Nat.zero_le _, Nat.zero_le _⟩ (rest := ([] : List Value)) rfl (Nat.le_of_ble_eq_true rfl) ?_
  refine bv_if_ne (j := 7) C rfl rfl (fun c1 => ?_) (fun c1 => ?_)
  · refine bv_blk C frk_X8 csk_X8 1 8 rfl (L1 := ([(0, .ref 0), (1, .int x)] : Lc)) (st1 := ([.ref 0] : List Value)) (w1 := (layF g s σ τ ρ c9)) (by rfl) ?_
    refine bv_fV0 C rfl (fc_save hE g s σ τ hσ ρ c9 hb hρ hc) ml_X8_59 im_X8_save sel_X8_save ini_X8 cd_X8_save ok_X8_save rfl ⟨Nat.le_of_ble_eq_true rfl, Nat.le_of_ble_eq_true rfl⟩ ⟨Nat.zero_le _, Nat.zero_le _⟩ (by decide) rfl rfl rfl (rest := ([] : List Value)) rfl (Nat.le_of_ble_eq_true rfl) ?_
    refine bv_blk C frk_X8 csk_X8 5 14 rfl (L1 := ([(0, .ref 0), (1, .int x)] : Lc)) (st1 := ([.int x, .ref 6, .ref 4] : List Value)) (w1 := (layF g (svs g s ρ c9) σ τ (svr ρ c9) (svc c9))) (by rfl) ?_
    refine bv_eV0 (io := io 0) (N' := 26) (w2 := (layF (fbW n S0 S1 x g) (svs g s ρ c9) σ τ (svr ρ c9) (svc c9))) C rfl (cs_findBackups (io_aD (b := 0) (by decide) hE) g (σ 0) (τ 0) (hσ 0 (by decide)) n S0 S1 x hs hS0 hS1 hA hB) ml_X8_161 im_X2_findBackups sel_X2_findBackups ini_X2 cd_X2_findBackups ok_X2_findBackups rfl ⟨Nat.le_of_ble_eq_true rfl, Nat.le_of_ble_eq_true rfl⟩ ⟨Nat.zero_le _, Nat.zero_le _⟩ (by decide) rfl rfl rfl (rest := ([] : List Value)) rfl (Nat.le_of_ble_eq_true rfl) (emb_F0 hσ) (aft_F0i hσ) ?_
    refine bv_blk C frk_X8 csk_X8 4 19 rfl (L1 := ([(0, .ref 0), (1, .int x)] : Lc)) (st1 := ([.int ((fbW n S0 S1 x g) 1 13)] : List Value)) (w1 := (layF (fbW n S0 S1 x g) (svs g s ρ c9) σ τ (svr ρ c9) (svc c9))) (by rfl) ?_
    exact bv_iret C rfl hr rfl ⟨by (exact congrArg (fun x => some (Value.int x)) (((if_neg c1).trans rfl)).symm), by (exact congrArg (fun x => x) (((if_neg c1).trans rfl)).symm)⟩
  · refine bv_blk C frk_X8 csk_X8 1 6 rfl (L1 := ([(0, .ref 0), (1, .int x)] : Lc)) (st1 := ([.int (-100002)] : List Value)) (w1 := (layF g s σ τ ρ c9)) (by rfl) ?_
    exact bv_iret C rfl hr rfl ⟨by (exact congrArg (fun x => some (Value.int x)) (((if_pos c1).trans rfl)).symm), by (exact congrArg (fun x => x) (((if_pos c1).trans rfl)).symm)⟩
set_option maxRecDepth 100000 in
set_option maxHeartbeats 8000000 in
theorem fc_pass {l : Launch} {D : va_G} {cA : FieldType → ClassId} {z0 : Nat} {SK : Nat → Nat} {SV : Nat → Int32} {ad : Nat → Nat} (hE : aD (fun q => z0 ≤ q) ad 182) (g s : Nat → Nat → Int32) (σ τ : Nat → Nat → Nat) (hσ : pmF σ τ) (ρ : Nat → Nat) (c9 : Nat) (n : Nat) (S : Nat → Nat) (m9 : Nat) (hb : bo3 (g 1)) (hρ : ∀ k, k < 6 → ρ k < 6) (hc : c9 ≤ 6) (hi_g : invK g n S) (hm1 : 1 ≤ m9) (hm : m9 ≤ 50) : bF l D cA z0 SK SV ad shF 182 yX8_pass cX8_pass 3 (some .int) 7 [.ref 0, .int (nI m9)] (layF g s σ τ ρ c9) (some (.int (btI (pasN n S g m9 1 0)))) (layF (pasN n S g m9) (svs g s ρ c9) σ τ (svr ρ c9) (svc c9)) := by
  refine bCT_intro (tb := tb_X8_pass) (own := RX8) hE pn_X8 rfl tk_X8_pass rfl (Nat.le_of_ble_eq_true rfl) ?_
  intro p e s0 m args below meth c C hr
  refine bv_blk C frk_X8 csk_X8 3 3 rfl (L1 := ([(0, .ref 0), (1, .int (nI m9))] : Lc)) (st1 := ([.int (50), .int (1), .int (nI m9)] : List Value)) (w1 := (layF g s σ τ ρ c9)) (by rfl) ?_
  refine bv_fS1 C rfl (cs_within hE _ (nI m9) (1) (50)) ml_X8_41 st_X8_within ini_X8 cd_X8_within ok_X8_within rfl ⟨Nat.le_of_ble_eq_true rfl, Nat.le_of_ble_eq_true rfl⟩ ⟨Nat.zero_le _, Nat.zero_le _⟩ (rest := ([] : List Value)) rfl (Nat.le_of_ble_eq_true rfl) ?_
  refine bv_if_ne (j := 7) C rfl rfl (fun _ => ?_) (fun h => absurd h ((wn_m (M := 50) rfl hm1 hm (by decide))))
  refine bv_blk C frk_X8 csk_X8 1 8 rfl (L1 := ([(0, .ref 0), (1, .int (nI m9))] : Lc)) (st1 := ([.ref 0] : List Value)) (w1 := (layF g s σ τ ρ c9)) (by rfl) ?_
  refine bv_fV0 C rfl (fc_save hE g s σ τ hσ ρ c9 hb hρ hc) ml_X8_59 im_X8_save sel_X8_save ini_X8 cd_X8_save ok_X8_save rfl ⟨Nat.le_of_ble_eq_true rfl, Nat.le_of_ble_eq_true rfl⟩ ⟨Nat.zero_le _, Nat.zero_le _⟩ (by decide) rfl rfl rfl (rest := ([] : List Value)) rfl (Nat.le_of_ble_eq_true rfl) ?_
  refine bv_blk C frk_X8 csk_X8 2 11 rfl (L1 := ([(2, .int (0)), (0, .ref 0), (1, .int (nI m9))] : Lc)) (st1 := ([] : List Value)) (w1 := (layF g (svs g s ρ c9) σ τ (svr ρ c9) (svc c9))) (by rfl) ?_
  have lp_a : ∀ (n_a k_a : Nat), 0 ≤ k_a → k_a + n_a = m9 → bV p l e (bR 7) s0 m args below meth c D cA shF (adA ad 182) 3 tb_X8_pass (MQ below (bQ D cA ad shF 182 (fun r w1 => r = (some (.int (btI (pasN n S g m9 1 0)))) ∧ w1 = (layF (pasN n S g m9) (svs g s ρ c9) σ τ (svr ρ c9) (svc c9)))) args s0 0 0 (adA ad 182)) ad 182 0 0 (layF (pasN n S g k_a) (svs g s ρ c9) σ τ (svr ρ c9) (svc c9)) 11 ([(2, .int (nI k_a)), (0, .ref 0), (1, .int (nI m9))] : Lc) ([] : List Value) := by
    intro n_a
    induction n_a with
    | zero =>
      intro k_a hs_a hk_a
      have hkB_a : k_a = m9 := by omega
      rw [hkB_a]
      refine bv_blk C frk_X8 csk_X8 2 13 rfl (L1 := ([(2, .int (nI m9)), (0, .ref 0), (1, .int (nI m9))] : Lc)) (st1 := ([.int (nI m9), .int (nI m9)] : List Value)) (w1 := (layF (pasN n S g m9) (svs g s ρ c9) σ τ (svr ρ c9) (svc c9))) (by rfl) ?_
      refine bv_icmp_ge (j := 19) C rfl rfl (fun _ => ?_) (fun h => absurd (nI_le (a := m9) (b := m9) (by omega) (by omega)) h)
      refine bv_blk C frk_X8 csk_X8 3 22 rfl (L1 := ([(2, .int (nI m9)), (0, .ref 0), (1, .int (nI m9))] : Lc)) (st1 := ([.int ((pasN n S g m9) 1 0)] : List Value)) (w1 := (layF (pasN n S g m9) (svs g s ρ c9) σ τ (svr ρ c9) (svc c9))) (by rfl) ?_
      refine bv_fS1 C rfl (cs_bit hE _ ((pasN n S g m9) 1 0)) ml_X8_136 st_X8_bit ini_X8 cd_X8_bit ok_X8_bit rfl ⟨Nat.le_of_ble_eq_true rfl, Nat.le_of_ble_eq_true rfl⟩ ⟨Nat.zero_le _, Nat.zero_le _⟩ (rest := ([] : List Value)) rfl (Nat.le_of_ble_eq_true rfl) ?_
      exact bv_iret C rfl hr rfl ⟨by (rfl), by (rfl)⟩
    | succ n_a ih =>
      intro k_a hs_a hk_a
      refine bv_blk C frk_X8 csk_X8 2 13 rfl (L1 := ([(2, .int (nI k_a)), (0, .ref 0), (1, .int (nI m9))] : Lc)) (st1 := ([.int (nI m9), .int (nI k_a)] : List Value)) (w1 := (layF (pasN n S g k_a) (svs g s ρ c9) σ τ (svr ρ c9) (svc c9))) (by rfl) ?_
      refine bv_icmp_ge (j := 19) C rfl rfl (fun h => absurd h (nI_ge (a := k_a) (b := m9) (by omega) (by omega))) (fun _ => ?_)
      refine bv_blk C frk_X8 csk_X8 2 16 rfl (L1 := ([(2, .int (nI k_a)), (0, .ref 0), (1, .int (nI m9))] : Lc)) (st1 := ([.ref 6] : List Value)) (w1 := (layF (pasN n S g k_a) (svs g s ρ c9) σ τ (svr ρ c9) (svc c9))) (by rfl) ?_
      refine bv_eV0 (io := io 0) (N' := 26) (w2 := (layF (pasG n S (pasN n S g k_a)) (svs g s ρ c9) σ τ (svr ρ c9) (svc c9))) C rfl (cs_passInterval (io_aD (b := 0) (by decide) hE) (pasN n S g k_a) (σ 0) (τ 0) (hσ 0 (by decide)) n S (inv_pasN hi_g _)) ml_X8_177 im_X6_passInterval sel_X6_passInterval ini_X6 cd_X6_passInterval ok_X6_passInterval rfl ⟨Nat.le_of_ble_eq_true rfl, Nat.le_of_ble_eq_true rfl⟩ ⟨Nat.zero_le _, Nat.zero_le _⟩ (by decide) rfl rfl rfl (rest := ([] : List Value)) rfl (Nat.le_of_ble_eq_true rfl) (emb_F0 hσ) (aft_F0i hσ) ?_
      refine bv_blk C frk_X8 csk_X8 1 18 rfl (L1 := ([(2, .int ((nI k_a) + Int32.ofInt 1)), (0, .ref 0), (1, .int (nI m9))] : Lc)) (st1 := ([] : List Value)) (w1 := (layF (pasG n S (pasN n S g k_a)) (svs g s ρ c9) σ τ (svr ρ c9) (svc c9))) (by rfl) ?_
      rw [show ((nI k_a) + Int32.ofInt 1) = nI (k_a + 1) from (nIi rfl)]
      refine bv_goto (j := 11) C rfl rfl ?_
      refine bv_weq (show (layF (pasG n S (pasN n S g k_a)) (svs g s ρ c9) σ τ (svr ρ c9) (svc c9)) = (layF (pasN n S g (k_a + 1)) (svs g s ρ c9) σ τ (svr ρ c9) (svc c9)) from by rfl) ?_
      refine bv_sub [0, 1, 2] (by rfl) ?_
      exact ih (k_a + 1) (by omega) (by omega)
  refine bv_weq (show (layF g (svs g s ρ c9) σ τ (svr ρ c9) (svc c9)) = (layF (pasN n S g 0) (svs g s ρ c9) σ τ (svr ρ c9) (svc c9)) from by rfl) ?_
  refine bv_sub [0, 1, 2] (by rfl) ?_
  exact lp_a (m9 - 0) 0 (Nat.le_refl _) (by omega)
def fc_passx_r (x : Int32) (g s : Nat → Nat → Int32) (ρ : Nat → Nat) (c9 : Nat) : Int32 := (-100002)
set_option maxRecDepth 100000 in
set_option maxHeartbeats 8000000 in
theorem fc_passx {l : Launch} {D : va_G} {cA : FieldType → ClassId} {z0 : Nat} {SK : Nat → Nat} {SV : Nat → Int32} {ad : Nat → Nat} (hE : aD (fun q => z0 ≤ q) ad 182) (g s : Nat → Nat → Int32) (σ τ : Nat → Nat → Nat) (hσ : pmF σ τ) (ρ : Nat → Nat) (c9 : Nat) (x : Int32) (hx : wnI x 1 50 = 0) : bF l D cA z0 SK SV ad shF 182 yX8_pass cX8_pass 3 (some .int) 7 [.ref 0, .int x] (layF g s σ τ ρ c9) (some (.int (fc_passx_r x g s ρ c9))) (layF g s σ τ ρ c9) := by
  refine bCT_intro (tb := tb_X8_pass) (own := RX8) hE pn_X8 rfl tk_X8_pass rfl (Nat.le_of_ble_eq_true rfl) ?_
  intro p e s0 m args below meth c C hr
  refine bv_blk C frk_X8 csk_X8 3 3 rfl (L1 := ([(0, .ref 0), (1, .int x)] : Lc)) (st1 := ([.int (50), .int (1), .int x] : List Value)) (w1 := (layF g s σ τ ρ c9)) (by rfl) ?_
  refine bv_fS1 C rfl (cs_within hE _ x (1) (50)) ml_X8_41 st_X8_within ini_X8 cd_X8_within ok_X8_within rfl ⟨Nat.le_of_ble_eq_true rfl, Nat.le_of_ble_eq_true rfl⟩ ⟨Nat.zero_le _, Nat.zero_le _⟩ (rest := ([] : List Value)) rfl (Nat.le_of_ble_eq_true rfl) ?_
  refine bv_if_ne (j := 7) C rfl rfl (fun h => absurd (hx) h) (fun _ => ?_)
  refine bv_blk C frk_X8 csk_X8 1 6 rfl (L1 := ([(0, .ref 0), (1, .int x)] : Lc)) (st1 := ([.int (-100002)] : List Value)) (w1 := (layF g s σ τ ρ c9)) (by rfl) ?_
  exact bv_iret C rfl hr rfl ⟨by (rfl), by (rfl)⟩
