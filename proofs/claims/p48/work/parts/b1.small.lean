/-! THE LAW: its small methods -/
def celF (SK : Nat → Nat) (SV : Nat → Int32) (n : Nat) : Int32 := if n < SK 1 then SV n else 7919 * (nI n + 3) * (nI n + 11)
def lowF (v n : Int32) : Int32 := remI (v &&& 2147483647) n
def scL (m b : Int32) : Int32 := if b < m then b else (b - m) / 5
set_option maxRecDepth 100000 in
set_option maxHeartbeats 4000000 in
theorem lx_low {l : Launch} {D : va_G} {cA : FieldType → ClassId} {z0 : Nat} {SK : Nat → Nat} {SV : Nat → Int32} {ad : Nat → Nat} {sh : Sh} {N : Nat} (hE : aD (fun q => z0 ≤ q) ad N) (w : Wd) (v n : Int32) (hn : ¬ n = 0) : bF l D cA z0 SK SV ad sh N yL_low cL_low 2 (some .int) 0 [.int v, .int n] w (some (.int (lowF v n))) w := by
  refine bCT_intro (tb := tb_L_low) (own := RL) hE pn_L rfl tk_L_low rfl (Nat.le_of_ble_eq_true rfl) ?_
  intro p e s0 m args below meth c C hr
  refine bv_blk C frk_L csk_L 4 4 rfl (L1 := ([(0, .int v), (1, .int n)] : Lc)) (st1 := ([.int n, .int (v &&& (2147483647))] : List Value)) (w1 := w) (by rfl) ?_
  refine bv_irem C rfl hn ?_
  exact bv_iret C rfl hr rfl ⟨by rfl, rfl⟩
set_option maxRecDepth 100000 in
set_option maxHeartbeats 4000000 in
theorem lx_angle {l : Launch} {D : va_G} {cA : FieldType → ClassId} {z0 : Nat} {SK : Nat → Nat} {SV : Nat → Int32} {ad : Nat → Nat} {sh : Sh} {N : Nat} (hE : aD (fun q => z0 ≤ q) ad N) (w : Wd) (a b : Int32) : bF l D cA z0 SK SV ad sh N yL_angle cL_angle 3 (some .int) 0 [.int a, .int b] w (some (.int (lgA a b))) w := by
  refine bCT_intro (tb := tb_L_angle) (own := RL) hE pn_L rfl tk_L_angle rfl (Nat.le_of_ble_eq_true rfl) ?_
  intro p e s0 m args below meth c C hr
  refine bv_blk C frk_L csk_L 6 6 rfl (L1 := ([(0, .int a), (1, .int b)] : Lc)) (st1 := ([.int (64), .int ((a - b) + (64))] : List Value)) (w1 := w) (by rfl) ?_
  refine bv_irem C rfl (by decide) ?_
  refine bv_blk C frk_L csk_L 3 10 rfl (L1 := ([(2, .int (((a - b) + (64)) - ((a - b) + (64)) / (64) * (64))), (0, .int a), (1, .int b)] : Lc)) (st1 := ([.int (32), .int (((a - b) + (64)) - ((a - b) + (64)) / (64) * (64))] : List Value)) (w1 := w) (by rfl) ?_
  refine bv_icmp_le (j := 15) C rfl rfl (fun c1 => ?_) (fun c1 => ?_)
  · refine bv_blk C frk_L csk_L 1 16 rfl (L1 := ([(2, .int (((a - b) + (64)) - ((a - b) + (64)) / (64) * (64))), (0, .int a), (1, .int b)] : Lc)) (st1 := ([.int (((a - b) + (64)) - ((a - b) + (64)) / (64) * (64))] : List Value)) (w1 := w) (by rfl) ?_
    exact bv_iret C rfl hr rfl ⟨by exact congrArg (fun x => some (Value.int x)) (if_neg (Int32.not_lt.mpr c1)).symm, rfl⟩
  · refine bv_blk C frk_L csk_L 3 14 rfl (L1 := ([(2, .int (((a - b) + (64)) - ((a - b) + (64)) / (64) * (64))), (0, .int a), (1, .int b)] : Lc)) (st1 := ([.int ((64) - (((a - b) + (64)) - ((a - b) + (64)) / (64) * (64)))] : List Value)) (w1 := w) (by rfl) ?_
    refine bv_goto (j := 16) C rfl rfl ?_
    exact bv_iret C rfl hr rfl ⟨by exact congrArg (fun x => some (Value.int x)) (if_pos (Int32.not_le.mp c1)).symm, rfl⟩
set_option maxRecDepth 100000 in
set_option maxHeartbeats 4000000 in
theorem lx_cell {l : Launch} {D : va_G} {cA : FieldType → ClassId} {z0 : Nat} {SK : Nat → Nat} {SV : Nat → Int32} {ad : Nat → Nat} {sh : Sh} {N : Nat} (hE : aD (fun q => z0 ≤ q) ad N) (w : Wd) (had : ad 400 = SK 0) (n : Nat) (hn : n < 100) : bF l D cA z0 SK SV ad sh N yL_cell cL_cell 2 (some .int) 0 [.ref 400, .int (nI n)] w (some (.int (celF SK SV n))) w := by
  refine bCT_intro (tb := tb_L_cell) (own := RL) hE pn_L rfl tk_L_cell rfl (Nat.le_of_ble_eq_true rfl) ?_
  intro p e s0 m args below meth c C hr
  have hL : SK 1 ≤ 260 := C.2.2.2.2.2.1.2.2.2.2
  have hc1 : ¬ nI (SK 1) ≤ nI n → n < SK 1 := fun z => Nat.lt_of_not_le fun y => z (nI_le (a := SK 1) (b := n) y (by omega))
  have hc2 : nI (SK 1) ≤ nI n → ¬ n < SK 1 := fun z y => absurd z (nI_ge (a := n) (b := SK 1) (by omega) (by omega))
  refine bv_blk C frk_L csk_L 2 2 rfl (L1 := ([(0, .ref 400), (1, .int (nI n))] : Lc)) (st1 := ([.ref 400, .int (nI n)] : List Value)) (w1 := w) (by rfl) ?_
  refine bv_slen C had rfl ?_
  refine bv_icmp_ge (j := 8) C rfl rfl (fun c1 => ?_) (fun c1 => ?_)
  · refine bv_blk C frk_L csk_L 9 17 rfl (L1 := ([(0, .ref 400), (1, .int (nI n))] : Lc)) (st1 := ([.int (((7919) * ((nI n) + (3))) * ((nI n) + (11)))] : List Value)) (w1 := w) (by rfl) ?_
    exact bv_iret C rfl hr rfl ⟨by exact congrArg (fun x => some (Value.int x)) (if_neg (hc2 c1)).symm, rfl⟩
  · refine bv_blk C frk_L csk_L 2 6 rfl (L1 := ([(0, .ref 400), (1, .int (nI n))] : Lc)) (st1 := ([.int (nI n), .ref 400] : List Value)) (w1 := w) (by rfl) ?_
    refine bv_ssld C had rfl (n := n) (hc1 c1) ?_
    refine bv_goto (j := 17) C rfl rfl ?_
    exact bv_iret C rfl hr rfl ⟨by exact congrArg (fun x => some (Value.int x)) (if_pos (hc1 c1)).symm, rfl⟩
set_option maxRecDepth 100000 in
set_option maxHeartbeats 4000000 in
theorem lx_sector {l : Launch} {D : va_G} {cA : FieldType → ClassId} {z0 : Nat} {SK : Nat → Nat} {SV : Nat → Int32} {ad : Nat → Nat} (hE : aD (fun q => z0 ≤ q) ad 183) (g sv : Nat → Nat → Int32) (σ τ : Nat → Nat → Nat) (ρ : Nat → Nat) (c9 : Nat) (ev : Nat → Int32) (x : Nat) (hx : x < 4) (b : Int32) : bF l D cA z0 SK SV ad shZ 183 yL_sector cL_sector 3 (some .int) 0 [.ref 182, .int (nI x), .int b] (layZ g sv σ τ ρ c9 ev) (some (.int (scL (ev x) b))) (layZ g sv σ τ ρ c9 ev) := by
  refine bCT_intro (tb := tb_L_sector) (own := RL) hE pn_L rfl tk_L_sector rfl (Nat.le_of_ble_eq_true rfl) ?_
  intro p e s0 m args below meth c C hr
  refine bv_blk C frk_L csk_L 3 3 rfl (L1 := ([(0, .ref 182), (1, .int (nI x)), (2, .int b)] : Lc)) (st1 := ([.int (nI x), .ref 182, .int b] : List Value)) (w1 := (layZ g sv σ τ ρ c9 ev)) (by rfl) ?_
  refine bv_iald C rfl rfl (by decide) (j := x) (by exact rfl) (by first | decide | omega) (by decide) (y := (ev x)) (by rfl) ?_
  refine bv_icmp_ge (j := 7) C rfl rfl (fun c1 => ?_) (fun c1 => ?_)
  · refine bv_blk C frk_L csk_L 3 10 rfl (L1 := ([(0, .ref 182), (1, .int (nI x)), (2, .int b)] : Lc)) (st1 := ([.int (nI x), .ref 182, .int b] : List Value)) (w1 := (layZ g sv σ τ ρ c9 ev)) (by rfl) ?_
    refine bv_iald C rfl rfl (by decide) (j := x) (by exact rfl) (by first | decide | omega) (by decide) (y := (ev x)) (by rfl) ?_
    refine bv_blk C frk_L csk_L 2 13 rfl (L1 := ([(0, .ref 182), (1, .int (nI x)), (2, .int b)] : Lc)) (st1 := ([.int (5), .int (b - (ev x))] : List Value)) (w1 := (layZ g sv σ τ ρ c9 ev)) (by rfl) ?_
    refine bv_idiv C rfl (by decide) ?_
    exact bv_iret C rfl hr rfl ⟨by exact congrArg (fun x => some (Value.int x)) (if_neg (Int32.not_lt.mpr c1)).symm, rfl⟩
  · refine bv_blk C frk_L csk_L 1 6 rfl (L1 := ([(0, .ref 182), (1, .int (nI x)), (2, .int b)] : Lc)) (st1 := ([.int b] : List Value)) (w1 := (layZ g sv σ τ ρ c9 ev)) (by rfl) ?_
    refine bv_goto (j := 14) C rfl rfl ?_
    exact bv_iret C rfl hr rfl ⟨by exact congrArg (fun x => some (Value.int x)) (if_pos (Int32.not_le.mp c1)).symm, rfl⟩
