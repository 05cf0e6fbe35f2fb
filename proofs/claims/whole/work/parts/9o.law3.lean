/-! THE LAW: its cases -/
theorem pc884 : pcAt tb_L_law 884 = 1376 := by decide +kernel
section LK
variable {p : Program} {l : Launch} {e : Env} {R : Room} {s : State} {m : MethodId} {args : Array Value} {below : List Frame} {meth : Method} {c : Code} {D : va_G} {cA : FieldType → ClassId} {z0 : Nat} {SK SV : Nat → Nat} {A : Nat → Prop} {Q : State → Prop} {ad : Nat → Nat} {cells slots : Nat} {g sv : Nat → Nat → Int32} {σ τ : Nat → Nat → Nat} {ρ : Nat → Nat} {c9 : Nat} {gr : Nat → Nat → Int32} {h : Int64} {n b L9 : Nat} {xs : Nat → Int32}
set_option maxRecDepth 100000 in
theorem lc_0 (C : bC p s m args meth c D cA z0 SK SV A 4 RL code tb_L_law) (hX : va_X b L9 xs s s.heap) (hb : b < s.heap.size) (hA : ¬ A b) (had : ad 400 = b) (hn5 : n + 5 ≤ L9) (hL : L9 ≤ 2560) (hK : adK ad SK SV) (hR : 15 ≤ R.frames ∧ 618 ≤ R.locals) (hR2 : cells ≤ R.cells ∧ slots ≤ R.slots) (I : SI g sv σ τ ρ c9 gr) (kk : ∀ (g sv : Nat → Nat → Int32) (σ τ : Nat → Nat → Nat) (ρ : Nat → Nat) (c9 : Nat) (gr : Nat → Nat → Int32) (h : Int64), SI g sv σ τ ρ c9 gr → bV p l e R s m args below meth c D cA shL A 4 tb_L_law Q ad 191 cells slots (layL g sv σ τ ρ c9 gr h) 884 ([(1, .ref 0), (2, .ref 182), (3, .int (nI n)), (0, .ref 400)] : Lc) []) : bV p l e R s m args below meth c D cA shL A 4 tb_L_law Q ad 191 cells slots (layL g sv σ τ ρ c9 gr h) 22 ([(1, .ref 0), (2, .ref 182), (3, .int (nI n)), (0, .ref 400)] : Lc) [] := by
  refine bv_aload_n (n := 1) (x := 0) C rfl rfl ?_
  refine bv_scr C hX hb hA had (n := n) (q := 1) rfl rfl rfl rfl rfl rfl rfl (by omega) hn5 hL ?_
  refine bv_hE C (fun hE => ?_)
  obtain ⟨v, g1, s1, σ1, τ1, ρ1, c1, gr1, h1, I1, k1, k2⟩ := sm_type (l := l) (D := D) (cA := cA) (SK := SK) (SV := SV) (xs (n + 1)) ad (fun o => ad (182 + o)) (aD_X hE) (aD_M hE) hK g sv σ τ ρ c9 gr h I
  refine bv_cX (As := [.int (xs (n + 1))]) (rest := []) C rfl k1 ml_L_13 im_X8_type sel_X8_type ini_X8 cd_X8_type ok_X8_type rfl ⟨by omega, by omega⟩ hR2 rfl (fun _ => rfl) (fun _ => rfl) (Nat.zero_le _) ?_
  refine bv_aload_n (n := 2) (x := 182) C rfl rfl ?_
  refine bv_scr C hX hb hA had (n := n) (q := 1) rfl rfl rfl rfl rfl rfl rfl (by omega) hn5 hL ?_
  refine bv_cM (As := [.int (xs (n + 1))]) (rest := [.int v]) C rfl k2 ml_L_17 im_X9_type sel_X9_type ini_X9 cd_X9_type ok_X9_type rfl ⟨by omega, by omega⟩ hR2 rfl (fun _ => rfl) (fun _ => rfl) (Nat.le_of_ble_eq_true rfl) ?_
  exact bv_icmp_eq (j := 884) C rfl (by rw [pc884]; rfl) (fun _ => kk _ _ _ _ _ _ _ _ I1) (fun z => absurd rfl z)
set_option maxRecDepth 100000 in
theorem lc_1 (C : bC p s m args meth c D cA z0 SK SV A 4 RL code tb_L_law) (hX : va_X b L9 xs s s.heap) (hb : b < s.heap.size) (hA : ¬ A b) (had : ad 400 = b) (hn5 : n + 5 ≤ L9) (hL : L9 ≤ 2560) (hK : adK ad SK SV) (hR : 15 ≤ R.frames ∧ 618 ≤ R.locals) (hR2 : cells ≤ R.cells ∧ slots ≤ R.slots) (I : SI g sv σ τ ρ c9 gr) (kk : ∀ (g sv : Nat → Nat → Int32) (σ τ : Nat → Nat → Nat) (ρ : Nat → Nat) (c9 : Nat) (gr : Nat → Nat → Int32) (h : Int64), SI g sv σ τ ρ c9 gr → bV p l e R s m args below meth c D cA shL A 4 tb_L_law Q ad 191 cells slots (layL g sv σ τ ρ c9 gr h) 884 ([(1, .ref 0), (2, .ref 182), (3, .int (nI n)), (0, .ref 400)] : Lc) []) : bV p l e R s m args below meth c D cA shL A 4 tb_L_law Q ad 191 cells slots (layL g sv σ τ ρ c9 gr h) 39 ([(1, .ref 0), (2, .ref 182), (3, .int (nI n)), (0, .ref 400)] : Lc) [] := by
  refine bv_aload_n (n := 1) (x := 0) C rfl rfl ?_
  refine bv_hE C (fun hE => ?_)
  obtain ⟨v, g1, s1, σ1, τ1, ρ1, c1, gr1, h1, I1, k1, k2⟩ := sm_clearText (l := l) (D := D) (cA := cA) (SK := SK) (SV := SV)  ad (fun o => ad (182 + o)) (aD_X hE) (aD_M hE) hK g sv σ τ ρ c9 gr h I
  refine bv_cX (As := []) (rest := []) C rfl k1 ml_L_18 im_X8_clearText sel_X8_clearText ini_X8 cd_X8_clearText ok_X8_clearText rfl ⟨by omega, by omega⟩ hR2 rfl (fun _ => rfl) (fun _ => rfl) (Nat.zero_le _) ?_
  refine bv_aload_n (n := 2) (x := 182) C rfl rfl ?_
  refine bv_cM (As := []) (rest := [.int v]) C rfl k2 ml_L_22 im_X9_clearText sel_X9_clearText ini_X9 cd_X9_clearText ok_X9_clearText rfl ⟨by omega, by omega⟩ hR2 rfl (fun _ => rfl) (fun _ => rfl) (Nat.le_of_ble_eq_true rfl) ?_
  exact bv_icmp_eq (j := 884) C rfl (by rw [pc884]; rfl) (fun _ => kk _ _ _ _ _ _ _ _ I1) (fun z => absurd rfl z)
set_option maxRecDepth 100000 in
theorem lc_2 (C : bC p s m args meth c D cA z0 SK SV A 4 RL code tb_L_law) (hX : va_X b L9 xs s s.heap) (hb : b < s.heap.size) (hA : ¬ A b) (had : ad 400 = b) (hn5 : n + 5 ≤ L9) (hL : L9 ≤ 2560) (hK : adK ad SK SV) (hR : 15 ≤ R.frames ∧ 618 ≤ R.locals) (hR2 : cells ≤ R.cells ∧ slots ≤ R.slots) (I : SI g sv σ τ ρ c9 gr) (kk : ∀ (g sv : Nat → Nat → Int32) (σ τ : Nat → Nat → Nat) (ρ : Nat → Nat) (c9 : Nat) (gr : Nat → Nat → Int32) (h : Int64), SI g sv σ τ ρ c9 gr → bV p l e R s m args below meth c D cA shL A 4 tb_L_law Q ad 191 cells slots (layL g sv σ τ ρ c9 gr h) 884 ([(1, .ref 0), (2, .ref 182), (3, .int (nI n)), (0, .ref 400)] : Lc) []) : bV p l e R s m args below meth c D cA shL A 4 tb_L_law Q ad 191 cells slots (layL g sv σ τ ρ c9 gr h) 46 ([(1, .ref 0), (2, .ref 182), (3, .int (nI n)), (0, .ref 400)] : Lc) [] := by
  refine bv_aload_n (n := 1) (x := 0) C rfl rfl ?_
  refine bv_hE C (fun hE => ?_)
  obtain ⟨v, g1, s1, σ1, τ1, ρ1, c1, gr1, h1, I1, k1, k2⟩ := sm_textFault (l := l) (D := D) (cA := cA) (SK := SK) (SV := SV)  ad (fun o => ad (182 + o)) (aD_X hE) (aD_M hE) hK g sv σ τ ρ c9 gr h I
  refine bv_cX (As := []) (rest := []) C rfl k1 ml_L_23 im_X8_textFault sel_X8_textFault ini_X8 cd_X8_textFault ok_X8_textFault rfl ⟨by omega, by omega⟩ hR2 rfl (fun _ => rfl) (fun _ => rfl) (Nat.zero_le _) ?_
  refine bv_aload_n (n := 2) (x := 182) C rfl rfl ?_
  refine bv_cM (As := []) (rest := [.int v]) C rfl k2 ml_L_26 im_X9_textFault sel_X9_textFault ini_X9 cd_X9_textFault ok_X9_textFault rfl ⟨by omega, by omega⟩ hR2 rfl (fun _ => rfl) (fun _ => rfl) (Nat.le_of_ble_eq_true rfl) ?_
  exact bv_icmp_eq (j := 884) C rfl (by rw [pc884]; rfl) (fun _ => kk _ _ _ _ _ _ _ _ I1) (fun z => absurd rfl z)
set_option maxRecDepth 100000 in
theorem lc_3 (C : bC p s m args meth c D cA z0 SK SV A 4 RL code tb_L_law) (hX : va_X b L9 xs s s.heap) (hb : b < s.heap.size) (hA : ¬ A b) (had : ad 400 = b) (hn5 : n + 5 ≤ L9) (hL : L9 ≤ 2560) (hK : adK ad SK SV) (hR : 15 ≤ R.frames ∧ 618 ≤ R.locals) (hR2 : cells ≤ R.cells ∧ slots ≤ R.slots) (I : SI g sv σ τ ρ c9 gr) (kk : ∀ (g sv : Nat → Nat → Int32) (σ τ : Nat → Nat → Nat) (ρ : Nat → Nat) (c9 : Nat) (gr : Nat → Nat → Int32) (h : Int64), SI g sv σ τ ρ c9 gr → bV p l e R s m args below meth c D cA shL A 4 tb_L_law Q ad 191 cells slots (layL g sv σ τ ρ c9 gr h) 884 ([(1, .ref 0), (2, .ref 182), (3, .int (nI n)), (0, .ref 400)] : Lc) []) : bV p l e R s m args below meth c D cA shL A 4 tb_L_law Q ad 191 cells slots (layL g sv σ τ ρ c9 gr h) 53 ([(1, .ref 0), (2, .ref 182), (3, .int (nI n)), (0, .ref 400)] : Lc) [] := by
  refine bv_aload_n (n := 1) (x := 0) C rfl rfl ?_
  refine bv_hE C (fun hE => ?_)
  obtain ⟨v, g1, s1, σ1, τ1, ρ1, c1, gr1, h1, I1, k1, k2⟩ := sm_load (l := l) (D := D) (cA := cA) (SK := SK) (SV := SV)  ad (fun o => ad (182 + o)) (aD_X hE) (aD_M hE) hK g sv σ τ ρ c9 gr h I
  refine bv_cX (As := []) (rest := []) C rfl k1 ml_L_27 im_X8_load sel_X8_load ini_X8 cd_X8_load ok_X8_load rfl ⟨by omega, by omega⟩ hR2 rfl (fun _ => rfl) (fun _ => rfl) (Nat.zero_le _) ?_
  refine bv_aload_n (n := 2) (x := 182) C rfl rfl ?_
  refine bv_cM (As := []) (rest := [.int v]) C rfl k2 ml_L_30 im_X9_load sel_X9_load ini_X9 cd_X9_load ok_X9_load rfl ⟨by omega, by omega⟩ hR2 rfl (fun _ => rfl) (fun _ => rfl) (Nat.le_of_ble_eq_true rfl) ?_
  exact bv_icmp_eq (j := 884) C rfl (by rw [pc884]; rfl) (fun _ => kk _ _ _ _ _ _ _ _ I1) (fun z => absurd rfl z)
set_option maxRecDepth 100000 in
theorem lc_4 (C : bC p s m args meth c D cA z0 SK SV A 4 RL code tb_L_law) (hX : va_X b L9 xs s s.heap) (hb : b < s.heap.size) (hA : ¬ A b) (had : ad 400 = b) (hn5 : n + 5 ≤ L9) (hL : L9 ≤ 2560) (hK : adK ad SK SV) (hR : 15 ≤ R.frames ∧ 618 ≤ R.locals) (hR2 : cells ≤ R.cells ∧ slots ≤ R.slots) (I : SI g sv σ τ ρ c9 gr) (kk : ∀ (g sv : Nat → Nat → Int32) (σ τ : Nat → Nat → Nat) (ρ : Nat → Nat) (c9 : Nat) (gr : Nat → Nat → Int32) (h : Int64), SI g sv σ τ ρ c9 gr → bV p l e R s m args below meth c D cA shL A 4 tb_L_law Q ad 191 cells slots (layL g sv σ τ ρ c9 gr h) 884 ([(1, .ref 0), (2, .ref 182), (3, .int (nI n)), (0, .ref 400)] : Lc) []) : bV p l e R s m args below meth c D cA shL A 4 tb_L_law Q ad 191 cells slots (layL g sv σ τ ρ c9 gr h) 60 ([(1, .ref 0), (2, .ref 182), (3, .int (nI n)), (0, .ref 400)] : Lc) [] := by
  refine bv_aload_n (n := 1) (x := 0) C rfl rfl ?_
  refine bv_scr C hX hb hA had (n := n) (q := 1) rfl rfl rfl rfl rfl rfl rfl (by omega) hn5 hL ?_
  refine bv_scr C hX hb hA had (n := n) (q := 2) rfl rfl rfl rfl rfl rfl rfl (by omega) hn5 hL ?_
  refine bv_scr C hX hb hA had (n := n) (q := 3) rfl rfl rfl rfl rfl rfl rfl (by omega) hn5 hL ?_
  refine bv_scr C hX hb hA had (n := n) (q := 4) rfl rfl rfl rfl rfl rfl rfl (by omega) hn5 hL ?_
  refine bv_hE C (fun hE => ?_)
  obtain ⟨v, g1, s1, σ1, τ1, ρ1, c1, gr1, h1, I1, k1, k2⟩ := sm_setStation (l := l) (D := D) (cA := cA) (SK := SK) (SV := SV) (xs (n + 1)) (xs (n + 2)) (xs (n + 3)) (xs (n + 4)) ad (fun o => ad (182 + o)) (aD_X hE) (aD_M hE) hK g sv σ τ ρ c9 gr h I
  refine bv_cX (As := [.int (xs (n + 1)), .int (xs (n + 2)), .int (xs (n + 3)), .int (xs (n + 4))]) (rest := []) C rfl k1 ml_L_31 im_X8_setStation sel_X8_setStation ini_X8 cd_X8_setStation ok_X8_setStation rfl ⟨by omega, by omega⟩ hR2 rfl (fun _ => rfl) (fun _ => rfl) (Nat.zero_le _) ?_
  refine bv_aload_n (n := 2) (x := 182) C rfl rfl ?_
  refine bv_scr C hX hb hA had (n := n) (q := 1) rfl rfl rfl rfl rfl rfl rfl (by omega) hn5 hL ?_
  refine bv_scr C hX hb hA had (n := n) (q := 2) rfl rfl rfl rfl rfl rfl rfl (by omega) hn5 hL ?_
  refine bv_scr C hX hb hA had (n := n) (q := 3) rfl rfl rfl rfl rfl rfl rfl (by omega) hn5 hL ?_
  refine bv_scr C hX hb hA had (n := n) (q := 4) rfl rfl rfl rfl rfl rfl rfl (by omega) hn5 hL ?_
  refine bv_cM (As := [.int (xs (n + 1)), .int (xs (n + 2)), .int (xs (n + 3)), .int (xs (n + 4))]) (rest := [.int v]) C rfl k2 ml_L_35 im_X9_setStation sel_X9_setStation ini_X9 cd_X9_setStation ok_X9_setStation rfl ⟨by omega, by omega⟩ hR2 rfl (fun _ => rfl) (fun _ => rfl) (Nat.le_of_ble_eq_true rfl) ?_
  exact bv_icmp_eq (j := 884) C rfl (by rw [pc884]; rfl) (fun _ => kk _ _ _ _ _ _ _ _ I1) (fun z => absurd rfl z)
set_option maxRecDepth 100000 in
theorem lc_5 (C : bC p s m args meth c D cA z0 SK SV A 4 RL code tb_L_law) (hX : va_X b L9 xs s s.heap) (hb : b < s.heap.size) (hA : ¬ A b) (had : ad 400 = b) (hn5 : n + 5 ≤ L9) (hL : L9 ≤ 2560) (hK : adK ad SK SV) (hR : 15 ≤ R.frames ∧ 618 ≤ R.locals) (hR2 : cells ≤ R.cells ∧ slots ≤ R.slots) (I : SI g sv σ τ ρ c9 gr) (kk : ∀ (g sv : Nat → Nat → Int32) (σ τ : Nat → Nat → Nat) (ρ : Nat → Nat) (c9 : Nat) (gr : Nat → Nat → Int32) (h : Int64), SI g sv σ τ ρ c9 gr → bV p l e R s m args below meth c D cA shL A 4 tb_L_law Q ad 191 cells slots (layL g sv σ τ ρ c9 gr h) 884 ([(1, .ref 0), (2, .ref 182), (3, .int (nI n)), (0, .ref 400)] : Lc) []) : bV p l e R s m args below meth c D cA shL A 4 tb_L_law Q ad 191 cells slots (layL g sv σ τ ρ c9 gr h) 107 ([(1, .ref 0), (2, .ref 182), (3, .int (nI n)), (0, .ref 400)] : Lc) [] := by
  refine bv_aload_n (n := 1) (x := 0) C rfl rfl ?_
  refine bv_scr C hX hb hA had (n := n) (q := 1) rfl rfl rfl rfl rfl rfl rfl (by omega) hn5 hL ?_
  refine bv_scr C hX hb hA had (n := n) (q := 2) rfl rfl rfl rfl rfl rfl rfl (by omega) hn5 hL ?_
  refine bv_hE C (fun hE => ?_)
  obtain ⟨v, g1, s1, σ1, τ1, ρ1, c1, gr1, h1, I1, k1, k2⟩ := sm_rotate (l := l) (D := D) (cA := cA) (SK := SK) (SV := SV) (xs (n + 1)) (xs (n + 2)) ad (fun o => ad (182 + o)) (aD_X hE) (aD_M hE) hK g sv σ τ ρ c9 gr h I
  refine bv_cX (As := [.int (xs (n + 1)), .int (xs (n + 2))]) (rest := []) C rfl k1 ml_L_36 im_X8_rotate sel_X8_rotate ini_X8 cd_X8_rotate ok_X8_rotate rfl ⟨by omega, by omega⟩ hR2 rfl (fun _ => rfl) (fun _ => rfl) (Nat.zero_le _) ?_
  refine bv_aload_n (n := 2) (x := 182) C rfl rfl ?_
  refine bv_scr C hX hb hA had (n := n) (q := 1) rfl rfl rfl rfl rfl rfl rfl (by omega) hn5 hL ?_
  refine bv_scr C hX hb hA had (n := n) (q := 2) rfl rfl rfl rfl rfl rfl rfl (by omega) hn5 hL ?_
  refine bv_cM (As := [.int (xs (n + 1)), .int (xs (n + 2))]) (rest := [.int v]) C rfl k2 ml_L_40 im_X9_rotate sel_X9_rotate ini_X9 cd_X9_rotate ok_X9_rotate rfl ⟨by omega, by omega⟩ hR2 rfl (fun _ => rfl) (fun _ => rfl) (Nat.le_of_ble_eq_true rfl) ?_
  exact bv_icmp_eq (j := 884) C rfl (by rw [pc884]; rfl) (fun _ => kk _ _ _ _ _ _ _ _ I1) (fun z => absurd rfl z)
set_option maxRecDepth 100000 in
theorem lc_6 (C : bC p s m args meth c D cA z0 SK SV A 4 RL code tb_L_law) (hX : va_X b L9 xs s s.heap) (hb : b < s.heap.size) (hA : ¬ A b) (had : ad 400 = b) (hn5 : n + 5 ≤ L9) (hL : L9 ≤ 2560) (hK : adK ad SK SV) (hR : 15 ≤ R.frames ∧ 618 ≤ R.locals) (hR2 : cells ≤ R.cells ∧ slots ≤ R.slots) (I : SI g sv σ τ ρ c9 gr) (kk : ∀ (g sv : Nat → Nat → Int32) (σ τ : Nat → Nat → Nat) (ρ : Nat → Nat) (c9 : Nat) (gr : Nat → Nat → Int32) (h : Int64), SI g sv σ τ ρ c9 gr → bV p l e R s m args below meth c D cA shL A 4 tb_L_law Q ad 191 cells slots (layL g sv σ τ ρ c9 gr h) 884 ([(1, .ref 0), (2, .ref 182), (3, .int (nI n)), (0, .ref 400)] : Lc) []) : bV p l e R s m args below meth c D cA shL A 4 tb_L_law Q ad 191 cells slots (layL g sv σ τ ρ c9 gr h) 134 ([(1, .ref 0), (2, .ref 182), (3, .int (nI n)), (0, .ref 400)] : Lc) [] := by
  refine bv_aload_n (n := 1) (x := 0) C rfl rfl ?_
  refine bv_scr C hX hb hA had (n := n) (q := 1) rfl rfl rfl rfl rfl rfl rfl (by omega) hn5 hL ?_
  refine bv_scr C hX hb hA had (n := n) (q := 2) rfl rfl rfl rfl rfl rfl rfl (by omega) hn5 hL ?_
  refine bv_scr C hX hb hA had (n := n) (q := 3) rfl rfl rfl rfl rfl rfl rfl (by omega) hn5 hL ?_
  refine bv_hE C (fun hE => ?_)
  obtain ⟨v, g1, s1, σ1, τ1, ρ1, c1, gr1, h1, I1, k1, k2⟩ := sm_addPath (l := l) (D := D) (cA := cA) (SK := SK) (SV := SV) (xs (n + 1)) (xs (n + 2)) (xs (n + 3)) ad (fun o => ad (182 + o)) (aD_X hE) (aD_M hE) hK g sv σ τ ρ c9 gr h I
  refine bv_cX (As := [.int (xs (n + 1)), .int (xs (n + 2)), .int (xs (n + 3))]) (rest := []) C rfl k1 ml_L_41 im_X8_addPath sel_X8_addPath ini_X8 cd_X8_addPath ok_X8_addPath rfl ⟨by omega, by omega⟩ hR2 rfl (fun _ => rfl) (fun _ => rfl) (Nat.zero_le _) ?_
  refine bv_aload_n (n := 2) (x := 182) C rfl rfl ?_
  refine bv_scr C hX hb hA had (n := n) (q := 1) rfl rfl rfl rfl rfl rfl rfl (by omega) hn5 hL ?_
  refine bv_scr C hX hb hA had (n := n) (q := 2) rfl rfl rfl rfl rfl rfl rfl (by omega) hn5 hL ?_
  refine bv_scr C hX hb hA had (n := n) (q := 3) rfl rfl rfl rfl rfl rfl rfl (by omega) hn5 hL ?_
  refine bv_cM (As := [.int (xs (n + 1)), .int (xs (n + 2)), .int (xs (n + 3))]) (rest := [.int v]) C rfl k2 ml_L_45 im_X9_addPath sel_X9_addPath ini_X9 cd_X9_addPath ok_X9_addPath rfl ⟨by omega, by omega⟩ hR2 rfl (fun _ => rfl) (fun _ => rfl) (Nat.le_of_ble_eq_true rfl) ?_
  exact bv_icmp_eq (j := 884) C rfl (by rw [pc884]; rfl) (fun _ => kk _ _ _ _ _ _ _ _ I1) (fun z => absurd rfl z)
set_option maxRecDepth 100000 in
theorem lc_7 (C : bC p s m args meth c D cA z0 SK SV A 4 RL code tb_L_law) (hX : va_X b L9 xs s s.heap) (hb : b < s.heap.size) (hA : ¬ A b) (had : ad 400 = b) (hn5 : n + 5 ≤ L9) (hL : L9 ≤ 2560) (hK : adK ad SK SV) (hR : 15 ≤ R.frames ∧ 618 ≤ R.locals) (hR2 : cells ≤ R.cells ∧ slots ≤ R.slots) (I : SI g sv σ τ ρ c9 gr) (kk : ∀ (g sv : Nat → Nat → Int32) (σ τ : Nat → Nat → Nat) (ρ : Nat → Nat) (c9 : Nat) (gr : Nat → Nat → Int32) (h : Int64), SI g sv σ τ ρ c9 gr → bV p l e R s m args below meth c D cA shL A 4 tb_L_law Q ad 191 cells slots (layL g sv σ τ ρ c9 gr h) 884 ([(1, .ref 0), (2, .ref 182), (3, .int (nI n)), (0, .ref 400)] : Lc) []) : bV p l e R s m args below meth c D cA shL A 4 tb_L_law Q ad 191 cells slots (layL g sv σ τ ρ c9 gr h) 171 ([(1, .ref 0), (2, .ref 182), (3, .int (nI n)), (0, .ref 400)] : Lc) [] := by
  refine bv_aload_n (n := 1) (x := 0) C rfl rfl ?_
  refine bv_scr C hX hb hA had (n := n) (q := 1) rfl rfl rfl rfl rfl rfl rfl (by omega) hn5 hL ?_
  refine bv_hE C (fun hE => ?_)
  obtain ⟨v, g1, s1, σ1, τ1, ρ1, c1, gr1, h1, I1, k1, k2⟩ := sm_removePath (l := l) (D := D) (cA := cA) (SK := SK) (SV := SV) (xs (n + 1)) ad (fun o => ad (182 + o)) (aD_X hE) (aD_M hE) hK g sv σ τ ρ c9 gr h I
  refine bv_cX (As := [.int (xs (n + 1))]) (rest := []) C rfl k1 ml_L_46 im_X8_removePath sel_X8_removePath ini_X8 cd_X8_removePath ok_X8_removePath rfl ⟨by omega, by omega⟩ hR2 rfl (fun _ => rfl) (fun _ => rfl) (Nat.zero_le _) ?_
  refine bv_aload_n (n := 2) (x := 182) C rfl rfl ?_
  refine bv_scr C hX hb hA had (n := n) (q := 1) rfl rfl rfl rfl rfl rfl rfl (by omega) hn5 hL ?_
  refine bv_cM (As := [.int (xs (n + 1))]) (rest := [.int v]) C rfl k2 ml_L_49 im_X9_removePath sel_X9_removePath ini_X9 cd_X9_removePath ok_X9_removePath rfl ⟨by omega, by omega⟩ hR2 rfl (fun _ => rfl) (fun _ => rfl) (Nat.le_of_ble_eq_true rfl) ?_
  exact bv_icmp_eq (j := 884) C rfl (by rw [pc884]; rfl) (fun _ => kk _ _ _ _ _ _ _ _ I1) (fun z => absurd rfl z)
set_option maxRecDepth 100000 in
theorem lc_8 (C : bC p s m args meth c D cA z0 SK SV A 4 RL code tb_L_law) (hX : va_X b L9 xs s s.heap) (hb : b < s.heap.size) (hA : ¬ A b) (had : ad 400 = b) (hn5 : n + 5 ≤ L9) (hL : L9 ≤ 2560) (hK : adK ad SK SV) (hR : 15 ≤ R.frames ∧ 618 ≤ R.locals) (hR2 : cells ≤ R.cells ∧ slots ≤ R.slots) (I : SI g sv σ τ ρ c9 gr) (kk : ∀ (g sv : Nat → Nat → Int32) (σ τ : Nat → Nat → Nat) (ρ : Nat → Nat) (c9 : Nat) (gr : Nat → Nat → Int32) (h : Int64), SI g sv σ τ ρ c9 gr → bV p l e R s m args below meth c D cA shL A 4 tb_L_law Q ad 191 cells slots (layL g sv σ τ ρ c9 gr h) 884 ([(1, .ref 0), (2, .ref 182), (3, .int (nI n)), (0, .ref 400)] : Lc) []) : bV p l e R s m args below meth c D cA shL A 4 tb_L_law Q ad 191 cells slots (layL g sv σ τ ρ c9 gr h) 188 ([(1, .ref 0), (2, .ref 182), (3, .int (nI n)), (0, .ref 400)] : Lc) [] := by
  refine bv_aload_n (n := 1) (x := 0) C rfl rfl ?_
  refine bv_scr C hX hb hA had (n := n) (q := 1) rfl rfl rfl rfl rfl rfl rfl (by omega) hn5 hL ?_
  refine bv_scr C hX hb hA had (n := n) (q := 2) rfl rfl rfl rfl rfl rfl rfl (by omega) hn5 hL ?_
  refine bv_scr C hX hb hA had (n := n) (q := 3) rfl rfl rfl rfl rfl rfl rfl (by omega) hn5 hL ?_
  refine bv_hE C (fun hE => ?_)
  obtain ⟨v, g1, s1, σ1, τ1, ρ1, c1, gr1, h1, I1, k1, k2⟩ := sm_setDrift (l := l) (D := D) (cA := cA) (SK := SK) (SV := SV) (xs (n + 1)) (xs (n + 2)) (xs (n + 3)) ad (fun o => ad (182 + o)) (aD_X hE) (aD_M hE) hK g sv σ τ ρ c9 gr h I
  refine bv_cX (As := [.int (xs (n + 1)), .int (xs (n + 2)), .int (xs (n + 3))]) (rest := []) C rfl k1 ml_L_50 im_X8_setDrift sel_X8_setDrift ini_X8 cd_X8_setDrift ok_X8_setDrift rfl ⟨by omega, by omega⟩ hR2 rfl (fun _ => rfl) (fun _ => rfl) (Nat.zero_le _) ?_
  refine bv_aload_n (n := 2) (x := 182) C rfl rfl ?_
  refine bv_scr C hX hb hA had (n := n) (q := 1) rfl rfl rfl rfl rfl rfl rfl (by omega) hn5 hL ?_
  refine bv_scr C hX hb hA had (n := n) (q := 2) rfl rfl rfl rfl rfl rfl rfl (by omega) hn5 hL ?_
  refine bv_scr C hX hb hA had (n := n) (q := 3) rfl rfl rfl rfl rfl rfl rfl (by omega) hn5 hL ?_
  refine bv_cM (As := [.int (xs (n + 1)), .int (xs (n + 2)), .int (xs (n + 3))]) (rest := [.int v]) C rfl k2 ml_L_53 im_X9_setDrift sel_X9_setDrift ini_X9 cd_X9_setDrift ok_X9_setDrift rfl ⟨by omega, by omega⟩ hR2 rfl (fun _ => rfl) (fun _ => rfl) (Nat.le_of_ble_eq_true rfl) ?_
  exact bv_icmp_eq (j := 884) C rfl (by rw [pc884]; rfl) (fun _ => kk _ _ _ _ _ _ _ _ I1) (fun z => absurd rfl z)
set_option maxRecDepth 100000 in
theorem lc_9 (C : bC p s m args meth c D cA z0 SK SV A 4 RL code tb_L_law) (hX : va_X b L9 xs s s.heap) (hb : b < s.heap.size) (hA : ¬ A b) (had : ad 400 = b) (hn5 : n + 5 ≤ L9) (hL : L9 ≤ 2560) (hK : adK ad SK SV) (hR : 15 ≤ R.frames ∧ 618 ≤ R.locals) (hR2 : cells ≤ R.cells ∧ slots ≤ R.slots) (I : SI g sv σ τ ρ c9 gr) (kk : ∀ (g sv : Nat → Nat → Int32) (σ τ : Nat → Nat → Nat) (ρ : Nat → Nat) (c9 : Nat) (gr : Nat → Nat → Int32) (h : Int64), SI g sv σ τ ρ c9 gr → bV p l e R s m args below meth c D cA shL A 4 tb_L_law Q ad 191 cells slots (layL g sv σ τ ρ c9 gr h) 884 ([(1, .ref 0), (2, .ref 182), (3, .int (nI n)), (0, .ref 400)] : Lc) []) : bV p l e R s m args below meth c D cA shL A 4 tb_L_law Q ad 191 cells slots (layL g sv σ τ ρ c9 gr h) 225 ([(1, .ref 0), (2, .ref 182), (3, .int (nI n)), (0, .ref 400)] : Lc) [] := by
  refine bv_aload_n (n := 1) (x := 0) C rfl rfl ?_
  refine bv_scr C hX hb hA had (n := n) (q := 1) rfl rfl rfl rfl rfl rfl rfl (by omega) hn5 hL ?_
  refine bv_scr C hX hb hA had (n := n) (q := 2) rfl rfl rfl rfl rfl rfl rfl (by omega) hn5 hL ?_
  refine bv_hE C (fun hE => ?_)
  obtain ⟨v, g1, s1, σ1, τ1, ρ1, c1, gr1, h1, I1, k1, k2⟩ := sm_setBlock (l := l) (D := D) (cA := cA) (SK := SK) (SV := SV) (xs (n + 1)) (xs (n + 2)) ad (fun o => ad (182 + o)) (aD_X hE) (aD_M hE) hK g sv σ τ ρ c9 gr h I
  refine bv_cX (As := [.int (xs (n + 1)), .int (xs (n + 2))]) (rest := []) C rfl k1 ml_L_54 im_X8_setBlock sel_X8_setBlock ini_X8 cd_X8_setBlock ok_X8_setBlock rfl ⟨by omega, by omega⟩ hR2 rfl (fun _ => rfl) (fun _ => rfl) (Nat.zero_le _) ?_
  refine bv_aload_n (n := 2) (x := 182) C rfl rfl ?_
  refine bv_scr C hX hb hA had (n := n) (q := 1) rfl rfl rfl rfl rfl rfl rfl (by omega) hn5 hL ?_
  refine bv_scr C hX hb hA had (n := n) (q := 2) rfl rfl rfl rfl rfl rfl rfl (by omega) hn5 hL ?_
  refine bv_cM (As := [.int (xs (n + 1)), .int (xs (n + 2))]) (rest := [.int v]) C rfl k2 ml_L_57 im_X9_setBlock sel_X9_setBlock ini_X9 cd_X9_setBlock ok_X9_setBlock rfl ⟨by omega, by omega⟩ hR2 rfl (fun _ => rfl) (fun _ => rfl) (Nat.le_of_ble_eq_true rfl) ?_
  exact bv_icmp_eq (j := 884) C rfl (by rw [pc884]; rfl) (fun _ => kk _ _ _ _ _ _ _ _ I1) (fun z => absurd rfl z)
set_option maxRecDepth 100000 in
theorem lc_10 (C : bC p s m args meth c D cA z0 SK SV A 4 RL code tb_L_law) (hX : va_X b L9 xs s s.heap) (hb : b < s.heap.size) (hA : ¬ A b) (had : ad 400 = b) (hn5 : n + 5 ≤ L9) (hL : L9 ≤ 2560) (hK : adK ad SK SV) (hR : 15 ≤ R.frames ∧ 618 ≤ R.locals) (hR2 : cells ≤ R.cells ∧ slots ≤ R.slots) (I : SI g sv σ τ ρ c9 gr) (kk : ∀ (g sv : Nat → Nat → Int32) (σ τ : Nat → Nat → Nat) (ρ : Nat → Nat) (c9 : Nat) (gr : Nat → Nat → Int32) (h : Int64), SI g sv σ τ ρ c9 gr → bV p l e R s m args below meth c D cA shL A 4 tb_L_law Q ad 191 cells slots (layL g sv σ τ ρ c9 gr h) 884 ([(1, .ref 0), (2, .ref 182), (3, .int (nI n)), (0, .ref 400)] : Lc) []) : bV p l e R s m args below meth c D cA shL A 4 tb_L_law Q ad 191 cells slots (layL g sv σ τ ρ c9 gr h) 252 ([(1, .ref 0), (2, .ref 182), (3, .int (nI n)), (0, .ref 400)] : Lc) [] := by
  refine bv_aload_n (n := 1) (x := 0) C rfl rfl ?_
  refine bv_scr C hX hb hA had (n := n) (q := 1) rfl rfl rfl rfl rfl rfl rfl (by omega) hn5 hL ?_
  refine bv_hE C (fun hE => ?_)
  obtain ⟨v, g1, s1, σ1, τ1, ρ1, c1, gr1, h1, I1, k1, k2⟩ := sm_setThreshold (l := l) (D := D) (cA := cA) (SK := SK) (SV := SV) (xs (n + 1)) ad (fun o => ad (182 + o)) (aD_X hE) (aD_M hE) hK g sv σ τ ρ c9 gr h I
  refine bv_cX (As := [.int (xs (n + 1))]) (rest := []) C rfl k1 ml_L_58 im_X8_setThreshold sel_X8_setThreshold ini_X8 cd_X8_setThreshold ok_X8_setThreshold rfl ⟨by omega, by omega⟩ hR2 rfl (fun _ => rfl) (fun _ => rfl) (Nat.zero_le _) ?_
  refine bv_aload_n (n := 2) (x := 182) C rfl rfl ?_
  refine bv_scr C hX hb hA had (n := n) (q := 1) rfl rfl rfl rfl rfl rfl rfl (by omega) hn5 hL ?_
  refine bv_cM (As := [.int (xs (n + 1))]) (rest := [.int v]) C rfl k2 ml_L_61 im_X9_setThreshold sel_X9_setThreshold ini_X9 cd_X9_setThreshold ok_X9_setThreshold rfl ⟨by omega, by omega⟩ hR2 rfl (fun _ => rfl) (fun _ => rfl) (Nat.le_of_ble_eq_true rfl) ?_
  exact bv_icmp_eq (j := 884) C rfl (by rw [pc884]; rfl) (fun _ => kk _ _ _ _ _ _ _ _ I1) (fun z => absurd rfl z)
set_option maxRecDepth 100000 in
theorem lc_11 (C : bC p s m args meth c D cA z0 SK SV A 4 RL code tb_L_law) (hX : va_X b L9 xs s s.heap) (hb : b < s.heap.size) (hA : ¬ A b) (had : ad 400 = b) (hn5 : n + 5 ≤ L9) (hL : L9 ≤ 2560) (hK : adK ad SK SV) (hR : 15 ≤ R.frames ∧ 618 ≤ R.locals) (hR2 : cells ≤ R.cells ∧ slots ≤ R.slots) (I : SI g sv σ τ ρ c9 gr) (kk : ∀ (g sv : Nat → Nat → Int32) (σ τ : Nat → Nat → Nat) (ρ : Nat → Nat) (c9 : Nat) (gr : Nat → Nat → Int32) (h : Int64), SI g sv σ τ ρ c9 gr → bV p l e R s m args below meth c D cA shL A 4 tb_L_law Q ad 191 cells slots (layL g sv σ τ ρ c9 gr h) 884 ([(1, .ref 0), (2, .ref 182), (3, .int (nI n)), (0, .ref 400)] : Lc) []) : bV p l e R s m args below meth c D cA shL A 4 tb_L_law Q ad 191 cells slots (layL g sv σ τ ρ c9 gr h) 269 ([(1, .ref 0), (2, .ref 182), (3, .int (nI n)), (0, .ref 400)] : Lc) [] := by
  refine bv_aload_n (n := 1) (x := 0) C rfl rfl ?_
  refine bv_scr C hX hb hA had (n := n) (q := 1) rfl rfl rfl rfl rfl rfl rfl (by omega) hn5 hL ?_
  refine bv_scr C hX hb hA had (n := n) (q := 2) rfl rfl rfl rfl rfl rfl rfl (by omega) hn5 hL ?_
  refine bv_hE C (fun hE => ?_)
  obtain ⟨v, g1, s1, σ1, τ1, ρ1, c1, gr1, h1, I1, k1, k2⟩ := sm_setFade (l := l) (D := D) (cA := cA) (SK := SK) (SV := SV) (xs (n + 1)) (xs (n + 2)) ad (fun o => ad (182 + o)) (aD_X hE) (aD_M hE) hK g sv σ τ ρ c9 gr h I
  refine bv_cX (As := [.int (xs (n + 1)), .int (xs (n + 2))]) (rest := []) C rfl k1 ml_L_62 im_X8_setFade sel_X8_setFade ini_X8 cd_X8_setFade ok_X8_setFade rfl ⟨by omega, by omega⟩ hR2 rfl (fun _ => rfl) (fun _ => rfl) (Nat.zero_le _) ?_
  refine bv_aload_n (n := 2) (x := 182) C rfl rfl ?_
  refine bv_scr C hX hb hA had (n := n) (q := 1) rfl rfl rfl rfl rfl rfl rfl (by omega) hn5 hL ?_
  refine bv_scr C hX hb hA had (n := n) (q := 2) rfl rfl rfl rfl rfl rfl rfl (by omega) hn5 hL ?_
  refine bv_cM (As := [.int (xs (n + 1)), .int (xs (n + 2))]) (rest := [.int v]) C rfl k2 ml_L_65 im_X9_setFade sel_X9_setFade ini_X9 cd_X9_setFade ok_X9_setFade rfl ⟨by omega, by omega⟩ hR2 rfl (fun _ => rfl) (fun _ => rfl) (Nat.le_of_ble_eq_true rfl) ?_
  exact bv_icmp_eq (j := 884) C rfl (by rw [pc884]; rfl) (fun _ => kk _ _ _ _ _ _ _ _ I1) (fun z => absurd rfl z)
set_option maxRecDepth 100000 in
theorem lc_14 (C : bC p s m args meth c D cA z0 SK SV A 4 RL code tb_L_law) (hX : va_X b L9 xs s s.heap) (hb : b < s.heap.size) (hA : ¬ A b) (had : ad 400 = b) (hn5 : n + 5 ≤ L9) (hL : L9 ≤ 2560) (hK : adK ad SK SV) (hR : 15 ≤ R.frames ∧ 618 ≤ R.locals) (hR2 : cells ≤ R.cells ∧ slots ≤ R.slots) (I : SI g sv σ τ ρ c9 gr) (kk : ∀ (g sv : Nat → Nat → Int32) (σ τ : Nat → Nat → Nat) (ρ : Nat → Nat) (c9 : Nat) (gr : Nat → Nat → Int32) (h : Int64), SI g sv σ τ ρ c9 gr → bV p l e R s m args below meth c D cA shL A 4 tb_L_law Q ad 191 cells slots (layL g sv σ τ ρ c9 gr h) 884 ([(1, .ref 0), (2, .ref 182), (3, .int (nI n)), (0, .ref 400)] : Lc) []) : bV p l e R s m args below meth c D cA shL A 4 tb_L_law Q ad 191 cells slots (layL g sv σ τ ρ c9 gr h) 366 ([(1, .ref 0), (2, .ref 182), (3, .int (nI n)), (0, .ref 400)] : Lc) [] := by
  refine bv_aload_n (n := 1) (x := 0) C rfl rfl ?_
  refine bv_scr C hX hb hA had (n := n) (q := 1) rfl rfl rfl rfl rfl rfl rfl (by omega) hn5 hL ?_
  refine bv_hE C (fun hE => ?_)
  obtain ⟨v, g1, s1, σ1, τ1, ρ1, c1, gr1, h1, I1, k1, k2⟩ := sm_sweep (l := l) (D := D) (cA := cA) (SK := SK) (SV := SV) (xs (n + 1)) ad (fun o => ad (182 + o)) (aD_X hE) (aD_M hE) hK g sv σ τ ρ c9 gr h I
  refine bv_cX (As := [.int (xs (n + 1))]) (rest := []) C rfl k1 ml_L_76 im_X8_sweep sel_X8_sweep ini_X8 cd_X8_sweep ok_X8_sweep rfl ⟨by omega, by omega⟩ hR2 rfl (fun _ => rfl) (fun _ => rfl) (Nat.zero_le _) ?_
  refine bv_aload_n (n := 2) (x := 182) C rfl rfl ?_
  refine bv_scr C hX hb hA had (n := n) (q := 1) rfl rfl rfl rfl rfl rfl rfl (by omega) hn5 hL ?_
  refine bv_cM (As := [.int (xs (n + 1))]) (rest := [.int v]) C rfl k2 ml_L_79 im_X9_sweep sel_X9_sweep ini_X9 cd_X9_sweep ok_X9_sweep rfl ⟨by omega, by omega⟩ hR2 rfl (fun _ => rfl) (fun _ => rfl) (Nat.le_of_ble_eq_true rfl) ?_
  exact bv_icmp_eq (j := 884) C rfl (by rw [pc884]; rfl) (fun _ => kk _ _ _ _ _ _ _ _ I1) (fun z => absurd rfl z)
set_option maxRecDepth 100000 in
theorem lc_15 (C : bC p s m args meth c D cA z0 SK SV A 4 RL code tb_L_law) (hX : va_X b L9 xs s s.heap) (hb : b < s.heap.size) (hA : ¬ A b) (had : ad 400 = b) (hn5 : n + 5 ≤ L9) (hL : L9 ≤ 2560) (hK : adK ad SK SV) (hR : 15 ≤ R.frames ∧ 618 ≤ R.locals) (hR2 : cells ≤ R.cells ∧ slots ≤ R.slots) (I : SI g sv σ τ ρ c9 gr) (kk : ∀ (g sv : Nat → Nat → Int32) (σ τ : Nat → Nat → Nat) (ρ : Nat → Nat) (c9 : Nat) (gr : Nat → Nat → Int32) (h : Int64), SI g sv σ τ ρ c9 gr → bV p l e R s m args below meth c D cA shL A 4 tb_L_law Q ad 191 cells slots (layL g sv σ τ ρ c9 gr h) 884 ([(1, .ref 0), (2, .ref 182), (3, .int (nI n)), (0, .ref 400)] : Lc) []) : bV p l e R s m args below meth c D cA shL A 4 tb_L_law Q ad 191 cells slots (layL g sv σ τ ρ c9 gr h) 383 ([(1, .ref 0), (2, .ref 182), (3, .int (nI n)), (0, .ref 400)] : Lc) [] := by
  refine bv_aload_n (n := 1) (x := 0) C rfl rfl ?_
  refine bv_scr C hX hb hA had (n := n) (q := 1) rfl rfl rfl rfl rfl rfl rfl (by omega) hn5 hL ?_
  refine bv_hE C (fun hE => ?_)
  obtain ⟨v, g1, s1, σ1, τ1, ρ1, c1, gr1, h1, I1, k1, k2⟩ := sm_refine (l := l) (D := D) (cA := cA) (SK := SK) (SV := SV) (xs (n + 1)) ad (fun o => ad (182 + o)) (aD_X hE) (aD_M hE) hK g sv σ τ ρ c9 gr h I
  refine bv_cX (As := [.int (xs (n + 1))]) (rest := []) C rfl k1 ml_L_80 im_X8_refine sel_X8_refine ini_X8 cd_X8_refine ok_X8_refine rfl ⟨by omega, by omega⟩ hR2 rfl (fun _ => rfl) (fun _ => rfl) (Nat.zero_le _) ?_
  refine bv_aload_n (n := 2) (x := 182) C rfl rfl ?_
  refine bv_scr C hX hb hA had (n := n) (q := 1) rfl rfl rfl rfl rfl rfl rfl (by omega) hn5 hL ?_
  refine bv_cM (As := [.int (xs (n + 1))]) (rest := [.int v]) C rfl k2 ml_L_83 im_X9_refine sel_X9_refine ini_X9 cd_X9_refine ok_X9_refine rfl ⟨by omega, by omega⟩ hR2 rfl (fun _ => rfl) (fun _ => rfl) (Nat.le_of_ble_eq_true rfl) ?_
  exact bv_icmp_eq (j := 884) C rfl (by rw [pc884]; rfl) (fun _ => kk _ _ _ _ _ _ _ _ I1) (fun z => absurd rfl z)
set_option maxRecDepth 100000 in
theorem lc_16 (C : bC p s m args meth c D cA z0 SK SV A 4 RL code tb_L_law) (hX : va_X b L9 xs s s.heap) (hb : b < s.heap.size) (hA : ¬ A b) (had : ad 400 = b) (hn5 : n + 5 ≤ L9) (hL : L9 ≤ 2560) (hK : adK ad SK SV) (hR : 15 ≤ R.frames ∧ 618 ≤ R.locals) (hR2 : cells ≤ R.cells ∧ slots ≤ R.slots) (I : SI g sv σ τ ρ c9 gr) (kk : ∀ (g sv : Nat → Nat → Int32) (σ τ : Nat → Nat → Nat) (ρ : Nat → Nat) (c9 : Nat) (gr : Nat → Nat → Int32) (h : Int64), SI g sv σ τ ρ c9 gr → bV p l e R s m args below meth c D cA shL A 4 tb_L_law Q ad 191 cells slots (layL g sv σ τ ρ c9 gr h) 884 ([(1, .ref 0), (2, .ref 182), (3, .int (nI n)), (0, .ref 400)] : Lc) []) : bV p l e R s m args below meth c D cA shL A 4 tb_L_law Q ad 191 cells slots (layL g sv σ τ ρ c9 gr h) 400 ([(1, .ref 0), (2, .ref 182), (3, .int (nI n)), (0, .ref 400)] : Lc) [] := by
  refine bv_aload_n (n := 1) (x := 0) C rfl rfl ?_
  refine bv_scr C hX hb hA had (n := n) (q := 1) rfl rfl rfl rfl rfl rfl rfl (by omega) hn5 hL ?_
  refine bv_hE C (fun hE => ?_)
  obtain ⟨v, g1, s1, σ1, τ1, ρ1, c1, gr1, h1, I1, k1, k2⟩ := sm_survey (l := l) (D := D) (cA := cA) (SK := SK) (SV := SV) (xs (n + 1)) ad (fun o => ad (182 + o)) (aD_X hE) (aD_M hE) hK g sv σ τ ρ c9 gr h I
  refine bv_cX (As := [.int (xs (n + 1))]) (rest := []) C rfl k1 ml_L_84 im_X8_survey sel_X8_survey ini_X8 cd_X8_survey ok_X8_survey rfl ⟨by omega, by omega⟩ hR2 rfl (fun _ => rfl) (fun _ => rfl) (Nat.zero_le _) ?_
  refine bv_aload_n (n := 2) (x := 182) C rfl rfl ?_
  refine bv_scr C hX hb hA had (n := n) (q := 1) rfl rfl rfl rfl rfl rfl rfl (by omega) hn5 hL ?_
  refine bv_cM (As := [.int (xs (n + 1))]) (rest := [.int v]) C rfl k2 ml_L_87 im_X9_survey sel_X9_survey ini_X9 cd_X9_survey ok_X9_survey rfl ⟨by omega, by omega⟩ hR2 rfl (fun _ => rfl) (fun _ => rfl) (Nat.le_of_ble_eq_true rfl) ?_
  exact bv_icmp_eq (j := 884) C rfl (by rw [pc884]; rfl) (fun _ => kk _ _ _ _ _ _ _ _ I1) (fun z => absurd rfl z)
set_option maxRecDepth 100000 in
theorem lc_17 (C : bC p s m args meth c D cA z0 SK SV A 4 RL code tb_L_law) (hX : va_X b L9 xs s s.heap) (hb : b < s.heap.size) (hA : ¬ A b) (had : ad 400 = b) (hn5 : n + 5 ≤ L9) (hL : L9 ≤ 2560) (hK : adK ad SK SV) (hR : 15 ≤ R.frames ∧ 618 ≤ R.locals) (hR2 : cells ≤ R.cells ∧ slots ≤ R.slots) (I : SI g sv σ τ ρ c9 gr) (kk : ∀ (g sv : Nat → Nat → Int32) (σ τ : Nat → Nat → Nat) (ρ : Nat → Nat) (c9 : Nat) (gr : Nat → Nat → Int32) (h : Int64), SI g sv σ τ ρ c9 gr → bV p l e R s m args below meth c D cA shL A 4 tb_L_law Q ad 191 cells slots (layL g sv σ τ ρ c9 gr h) 884 ([(1, .ref 0), (2, .ref 182), (3, .int (nI n)), (0, .ref 400)] : Lc) []) : bV p l e R s m args below meth c D cA shL A 4 tb_L_law Q ad 191 cells slots (layL g sv σ τ ρ c9 gr h) 417 ([(1, .ref 0), (2, .ref 182), (3, .int (nI n)), (0, .ref 400)] : Lc) [] := by
  refine bv_aload_n (n := 1) (x := 0) C rfl rfl ?_
  refine bv_scr C hX hb hA had (n := n) (q := 1) rfl rfl rfl rfl rfl rfl rfl (by omega) hn5 hL ?_
  refine bv_scr C hX hb hA had (n := n) (q := 2) rfl rfl rfl rfl rfl rfl rfl (by omega) hn5 hL ?_
  refine bv_hE C (fun hE => ?_)
  obtain ⟨v, g1, s1, σ1, τ1, ρ1, c1, gr1, h1, I1, k1, k2⟩ := sm_select (l := l) (D := D) (cA := cA) (SK := SK) (SV := SV) (xs (n + 1)) (xs (n + 2)) ad (fun o => ad (182 + o)) (aD_X hE) (aD_M hE) hK g sv σ τ ρ c9 gr h I
  refine bv_cX (As := [.int (xs (n + 1)), .int (xs (n + 2))]) (rest := []) C rfl k1 ml_L_88 im_X8_select sel_X8_select ini_X8 cd_X8_select ok_X8_select rfl ⟨by omega, by omega⟩ hR2 rfl (fun _ => rfl) (fun _ => rfl) (Nat.zero_le _) ?_
  refine bv_aload_n (n := 2) (x := 182) C rfl rfl ?_
  refine bv_scr C hX hb hA had (n := n) (q := 1) rfl rfl rfl rfl rfl rfl rfl (by omega) hn5 hL ?_
  refine bv_scr C hX hb hA had (n := n) (q := 2) rfl rfl rfl rfl rfl rfl rfl (by omega) hn5 hL ?_
  refine bv_cM (As := [.int (xs (n + 1)), .int (xs (n + 2))]) (rest := [.int v]) C rfl k2 ml_L_91 im_X9_select sel_X9_select ini_X9 cd_X9_select ok_X9_select rfl ⟨by omega, by omega⟩ hR2 rfl (fun _ => rfl) (fun _ => rfl) (Nat.le_of_ble_eq_true rfl) ?_
  exact bv_icmp_eq (j := 884) C rfl (by rw [pc884]; rfl) (fun _ => kk _ _ _ _ _ _ _ _ I1) (fun z => absurd rfl z)
set_option maxRecDepth 100000 in
theorem lc_18 (C : bC p s m args meth c D cA z0 SK SV A 4 RL code tb_L_law) (hX : va_X b L9 xs s s.heap) (hb : b < s.heap.size) (hA : ¬ A b) (had : ad 400 = b) (hn5 : n + 5 ≤ L9) (hL : L9 ≤ 2560) (hK : adK ad SK SV) (hR : 15 ≤ R.frames ∧ 618 ≤ R.locals) (hR2 : cells ≤ R.cells ∧ slots ≤ R.slots) (I : SI g sv σ τ ρ c9 gr) (kk : ∀ (g sv : Nat → Nat → Int32) (σ τ : Nat → Nat → Nat) (ρ : Nat → Nat) (c9 : Nat) (gr : Nat → Nat → Int32) (h : Int64), SI g sv σ τ ρ c9 gr → bV p l e R s m args below meth c D cA shL A 4 tb_L_law Q ad 191 cells slots (layL g sv σ τ ρ c9 gr h) 884 ([(1, .ref 0), (2, .ref 182), (3, .int (nI n)), (0, .ref 400)] : Lc) []) : bV p l e R s m args below meth c D cA shL A 4 tb_L_law Q ad 191 cells slots (layL g sv σ τ ρ c9 gr h) 444 ([(1, .ref 0), (2, .ref 182), (3, .int (nI n)), (0, .ref 400)] : Lc) [] := by
  refine bv_aload_n (n := 1) (x := 0) C rfl rfl ?_
  refine bv_scr C hX hb hA had (n := n) (q := 1) rfl rfl rfl rfl rfl rfl rfl (by omega) hn5 hL ?_
  refine bv_hE C (fun hE => ?_)
  obtain ⟨v, g1, s1, σ1, τ1, ρ1, c1, gr1, h1, I1, k1, k2⟩ := sm_pass (l := l) (D := D) (cA := cA) (SK := SK) (SV := SV) (xs (n + 1)) ad (fun o => ad (182 + o)) (aD_X hE) (aD_M hE) hK g sv σ τ ρ c9 gr h I
  refine bv_cX (As := [.int (xs (n + 1))]) (rest := []) C rfl k1 ml_L_92 im_X8_pass sel_X8_pass ini_X8 cd_X8_pass ok_X8_pass rfl ⟨by omega, by omega⟩ hR2 rfl (fun _ => rfl) (fun _ => rfl) (Nat.zero_le _) ?_
  refine bv_aload_n (n := 2) (x := 182) C rfl rfl ?_
  refine bv_scr C hX hb hA had (n := n) (q := 1) rfl rfl rfl rfl rfl rfl rfl (by omega) hn5 hL ?_
  refine bv_cM (As := [.int (xs (n + 1))]) (rest := [.int v]) C rfl k2 ml_L_95 im_X9_pass sel_X9_pass ini_X9 cd_X9_pass ok_X9_pass rfl ⟨by omega, by omega⟩ hR2 rfl (fun _ => rfl) (fun _ => rfl) (Nat.le_of_ble_eq_true rfl) ?_
  exact bv_icmp_eq (j := 884) C rfl (by rw [pc884]; rfl) (fun _ => kk _ _ _ _ _ _ _ _ I1) (fun z => absurd rfl z)
set_option maxRecDepth 100000 in
theorem lc_19 (C : bC p s m args meth c D cA z0 SK SV A 4 RL code tb_L_law) (hX : va_X b L9 xs s s.heap) (hb : b < s.heap.size) (hA : ¬ A b) (had : ad 400 = b) (hn5 : n + 5 ≤ L9) (hL : L9 ≤ 2560) (hK : adK ad SK SV) (hR : 15 ≤ R.frames ∧ 618 ≤ R.locals) (hR2 : cells ≤ R.cells ∧ slots ≤ R.slots) (I : SI g sv σ τ ρ c9 gr) (kk : ∀ (g sv : Nat → Nat → Int32) (σ τ : Nat → Nat → Nat) (ρ : Nat → Nat) (c9 : Nat) (gr : Nat → Nat → Int32) (h : Int64), SI g sv σ τ ρ c9 gr → bV p l e R s m args below meth c D cA shL A 4 tb_L_law Q ad 191 cells slots (layL g sv σ τ ρ c9 gr h) 884 ([(1, .ref 0), (2, .ref 182), (3, .int (nI n)), (0, .ref 400)] : Lc) []) : bV p l e R s m args below meth c D cA shL A 4 tb_L_law Q ad 191 cells slots (layL g sv σ τ ρ c9 gr h) 461 ([(1, .ref 0), (2, .ref 182), (3, .int (nI n)), (0, .ref 400)] : Lc) [] := by
  refine bv_aload_n (n := 1) (x := 0) C rfl rfl ?_
  refine bv_hE C (fun hE => ?_)
  obtain ⟨v, g1, s1, σ1, τ1, ρ1, c1, gr1, h1, I1, k1, k2⟩ := sm_undo (l := l) (D := D) (cA := cA) (SK := SK) (SV := SV)  ad (fun o => ad (182 + o)) (aD_X hE) (aD_M hE) hK g sv σ τ ρ c9 gr h I
  refine bv_cX (As := []) (rest := []) C rfl k1 ml_L_96 im_X8_undo sel_X8_undo ini_X8 cd_X8_undo ok_X8_undo rfl ⟨by omega, by omega⟩ hR2 rfl (fun _ => rfl) (fun _ => rfl) (Nat.zero_le _) ?_
  refine bv_aload_n (n := 2) (x := 182) C rfl rfl ?_
  refine bv_cM (As := []) (rest := [.int v]) C rfl k2 ml_L_99 im_X9_undo sel_X9_undo ini_X9 cd_X9_undo ok_X9_undo rfl ⟨by omega, by omega⟩ hR2 rfl (fun _ => rfl) (fun _ => rfl) (Nat.le_of_ble_eq_true rfl) ?_
  exact bv_icmp_eq (j := 884) C rfl (by rw [pc884]; rfl) (fun _ => kk _ _ _ _ _ _ _ _ I1) (fun z => absurd rfl z)
set_option maxRecDepth 100000 in
theorem lc_20 (C : bC p s m args meth c D cA z0 SK SV A 4 RL code tb_L_law) (hX : va_X b L9 xs s s.heap) (hb : b < s.heap.size) (hA : ¬ A b) (had : ad 400 = b) (hn5 : n + 5 ≤ L9) (hL : L9 ≤ 2560) (hK : adK ad SK SV) (hR : 15 ≤ R.frames ∧ 618 ≤ R.locals) (hR2 : cells ≤ R.cells ∧ slots ≤ R.slots) (I : SI g sv σ τ ρ c9 gr) (kk : ∀ (g sv : Nat → Nat → Int32) (σ τ : Nat → Nat → Nat) (ρ : Nat → Nat) (c9 : Nat) (gr : Nat → Nat → Int32) (h : Int64), SI g sv σ τ ρ c9 gr → bV p l e R s m args below meth c D cA shL A 4 tb_L_law Q ad 191 cells slots (layL g sv σ τ ρ c9 gr h) 884 ([(1, .ref 0), (2, .ref 182), (3, .int (nI n)), (0, .ref 400)] : Lc) []) : bV p l e R s m args below meth c D cA shL A 4 tb_L_law Q ad 191 cells slots (layL g sv σ τ ρ c9 gr h) 468 ([(1, .ref 0), (2, .ref 182), (3, .int (nI n)), (0, .ref 400)] : Lc) [] := by
  refine bv_aload_n (n := 1) (x := 0) C rfl rfl ?_
  refine bv_hE C (fun hE => ?_)
  obtain ⟨v, g1, s1, σ1, τ1, ρ1, c1, gr1, h1, I1, k1, k2⟩ := sm_isUp (l := l) (D := D) (cA := cA) (SK := SK) (SV := SV)  ad (fun o => ad (182 + o)) (aD_X hE) (aD_M hE) hK g sv σ τ ρ c9 gr h I
  refine bv_cX (As := []) (rest := []) C rfl k1 ml_L_100 im_X8_isUp sel_X8_isUp ini_X8 cd_X8_isUp ok_X8_isUp rfl ⟨by omega, by omega⟩ hR2 rfl (fun _ => rfl) (fun _ => rfl) (Nat.zero_le _) ?_
  refine bv_aload_n (n := 2) (x := 182) C rfl rfl ?_
  refine bv_cM (As := []) (rest := [.int v]) C rfl k2 ml_L_103 im_X9_isUp sel_X9_isUp ini_X9 cd_X9_isUp ok_X9_isUp rfl ⟨by omega, by omega⟩ hR2 rfl (fun _ => rfl) (fun _ => rfl) (Nat.le_of_ble_eq_true rfl) ?_
  exact bv_icmp_eq (j := 884) C rfl (by rw [pc884]; rfl) (fun _ => kk _ _ _ _ _ _ _ _ I1) (fun z => absurd rfl z)
set_option maxRecDepth 100000 in
theorem lc_21 (C : bC p s m args meth c D cA z0 SK SV A 4 RL code tb_L_law) (hX : va_X b L9 xs s s.heap) (hb : b < s.heap.size) (hA : ¬ A b) (had : ad 400 = b) (hn5 : n + 5 ≤ L9) (hL : L9 ≤ 2560) (hK : adK ad SK SV) (hR : 15 ≤ R.frames ∧ 618 ≤ R.locals) (hR2 : cells ≤ R.cells ∧ slots ≤ R.slots) (I : SI g sv σ τ ρ c9 gr) (kk : ∀ (g sv : Nat → Nat → Int32) (σ τ : Nat → Nat → Nat) (ρ : Nat → Nat) (c9 : Nat) (gr : Nat → Nat → Int32) (h : Int64), SI g sv σ τ ρ c9 gr → bV p l e R s m args below meth c D cA shL A 4 tb_L_law Q ad 191 cells slots (layL g sv σ τ ρ c9 gr h) 884 ([(1, .ref 0), (2, .ref 182), (3, .int (nI n)), (0, .ref 400)] : Lc) []) : bV p l e R s m args below meth c D cA shL A 4 tb_L_law Q ad 191 cells slots (layL g sv σ τ ρ c9 gr h) 475 ([(1, .ref 0), (2, .ref 182), (3, .int (nI n)), (0, .ref 400)] : Lc) [] := by
  refine bv_aload_n (n := 1) (x := 0) C rfl rfl ?_
  refine bv_scr C hX hb hA had (n := n) (q := 1) rfl rfl rfl rfl rfl rfl rfl (by omega) hn5 hL ?_
  refine bv_hE C (fun hE => ?_)
  obtain ⟨v, g1, s1, σ1, τ1, ρ1, c1, gr1, h1, I1, k1, k2⟩ := sm_beam (l := l) (D := D) (cA := cA) (SK := SK) (SV := SV) (xs (n + 1)) ad (fun o => ad (182 + o)) (aD_X hE) (aD_M hE) hK g sv σ τ ρ c9 gr h I
  refine bv_cX (As := [.int (xs (n + 1))]) (rest := []) C rfl k1 ml_L_104 im_X8_beam sel_X8_beam ini_X8 cd_X8_beam ok_X8_beam rfl ⟨by omega, by omega⟩ hR2 rfl (fun _ => rfl) (fun _ => rfl) (Nat.zero_le _) ?_
  refine bv_aload_n (n := 2) (x := 182) C rfl rfl ?_
  refine bv_scr C hX hb hA had (n := n) (q := 1) rfl rfl rfl rfl rfl rfl rfl (by omega) hn5 hL ?_
  refine bv_cM (As := [.int (xs (n + 1))]) (rest := [.int v]) C rfl k2 ml_L_107 im_X9_beam sel_X9_beam ini_X9 cd_X9_beam ok_X9_beam rfl ⟨by omega, by omega⟩ hR2 rfl (fun _ => rfl) (fun _ => rfl) (Nat.le_of_ble_eq_true rfl) ?_
  exact bv_icmp_eq (j := 884) C rfl (by rw [pc884]; rfl) (fun _ => kk _ _ _ _ _ _ _ _ I1) (fun z => absurd rfl z)
set_option maxRecDepth 100000 in
theorem lc_22 (C : bC p s m args meth c D cA z0 SK SV A 4 RL code tb_L_law) (hX : va_X b L9 xs s s.heap) (hb : b < s.heap.size) (hA : ¬ A b) (had : ad 400 = b) (hn5 : n + 5 ≤ L9) (hL : L9 ≤ 2560) (hK : adK ad SK SV) (hR : 15 ≤ R.frames ∧ 618 ≤ R.locals) (hR2 : cells ≤ R.cells ∧ slots ≤ R.slots) (I : SI g sv σ τ ρ c9 gr) (kk : ∀ (g sv : Nat → Nat → Int32) (σ τ : Nat → Nat → Nat) (ρ : Nat → Nat) (c9 : Nat) (gr : Nat → Nat → Int32) (h : Int64), SI g sv σ τ ρ c9 gr → bV p l e R s m args below meth c D cA shL A 4 tb_L_law Q ad 191 cells slots (layL g sv σ τ ρ c9 gr h) 884 ([(1, .ref 0), (2, .ref 182), (3, .int (nI n)), (0, .ref 400)] : Lc) []) : bV p l e R s m args below meth c D cA shL A 4 tb_L_law Q ad 191 cells slots (layL g sv σ τ ρ c9 gr h) 492 ([(1, .ref 0), (2, .ref 182), (3, .int (nI n)), (0, .ref 400)] : Lc) [] := by
  refine bv_aload_n (n := 1) (x := 0) C rfl rfl ?_
  refine bv_scr C hX hb hA had (n := n) (q := 1) rfl rfl rfl rfl rfl rfl rfl (by omega) hn5 hL ?_
  refine bv_scr C hX hb hA had (n := n) (q := 2) rfl rfl rfl rfl rfl rfl rfl (by omega) hn5 hL ?_
  refine bv_hE C (fun hE => ?_)
  obtain ⟨v, g1, s1, σ1, τ1, ρ1, c1, gr1, h1, I1, k1, k2⟩ := sm_direction (l := l) (D := D) (cA := cA) (SK := SK) (SV := SV) (xs (n + 1)) (xs (n + 2)) ad (fun o => ad (182 + o)) (aD_X hE) (aD_M hE) hK g sv σ τ ρ c9 gr h I
  refine bv_cX (As := [.int (xs (n + 1)), .int (xs (n + 2))]) (rest := []) C rfl k1 ml_L_108 im_X8_direction sel_X8_direction ini_X8 cd_X8_direction ok_X8_direction rfl ⟨by omega, by omega⟩ hR2 rfl (fun _ => rfl) (fun _ => rfl) (Nat.zero_le _) ?_
  refine bv_aload_n (n := 2) (x := 182) C rfl rfl ?_
  refine bv_scr C hX hb hA had (n := n) (q := 1) rfl rfl rfl rfl rfl rfl rfl (by omega) hn5 hL ?_
  refine bv_scr C hX hb hA had (n := n) (q := 2) rfl rfl rfl rfl rfl rfl rfl (by omega) hn5 hL ?_
  refine bv_cM (As := [.int (xs (n + 1)), .int (xs (n + 2))]) (rest := [.int v]) C rfl k2 ml_L_111 im_X9_direction sel_X9_direction ini_X9 cd_X9_direction ok_X9_direction rfl ⟨by omega, by omega⟩ hR2 rfl (fun _ => rfl) (fun _ => rfl) (Nat.le_of_ble_eq_true rfl) ?_
  exact bv_icmp_eq (j := 884) C rfl (by rw [pc884]; rfl) (fun _ => kk _ _ _ _ _ _ _ _ I1) (fun z => absurd rfl z)
set_option maxRecDepth 100000 in
theorem lc_23 (C : bC p s m args meth c D cA z0 SK SV A 4 RL code tb_L_law) (hX : va_X b L9 xs s s.heap) (hb : b < s.heap.size) (hA : ¬ A b) (had : ad 400 = b) (hn5 : n + 5 ≤ L9) (hL : L9 ≤ 2560) (hK : adK ad SK SV) (hR : 15 ≤ R.frames ∧ 618 ≤ R.locals) (hR2 : cells ≤ R.cells ∧ slots ≤ R.slots) (I : SI g sv σ τ ρ c9 gr) (kk : ∀ (g sv : Nat → Nat → Int32) (σ τ : Nat → Nat → Nat) (ρ : Nat → Nat) (c9 : Nat) (gr : Nat → Nat → Int32) (h : Int64), SI g sv σ τ ρ c9 gr → bV p l e R s m args below meth c D cA shL A 4 tb_L_law Q ad 191 cells slots (layL g sv σ τ ρ c9 gr h) 884 ([(1, .ref 0), (2, .ref 182), (3, .int (nI n)), (0, .ref 400)] : Lc) []) : bV p l e R s m args below meth c D cA shL A 4 tb_L_law Q ad 191 cells slots (layL g sv σ τ ρ c9 gr h) 519 ([(1, .ref 0), (2, .ref 182), (3, .int (nI n)), (0, .ref 400)] : Lc) [] := by
  refine bv_aload_n (n := 1) (x := 0) C rfl rfl ?_
  refine bv_scr C hX hb hA had (n := n) (q := 1) rfl rfl rfl rfl rfl rfl rfl (by omega) hn5 hL ?_
  refine bv_scr C hX hb hA had (n := n) (q := 2) rfl rfl rfl rfl rfl rfl rfl (by omega) hn5 hL ?_
  refine bv_scr C hX hb hA had (n := n) (q := 3) rfl rfl rfl rfl rfl rfl rfl (by omega) hn5 hL ?_
  refine bv_hE C (fun hE => ?_)
  obtain ⟨v, g1, s1, σ1, τ1, ρ1, c1, gr1, h1, I1, k1, k2⟩ := sm_gain (l := l) (D := D) (cA := cA) (SK := SK) (SV := SV) (xs (n + 1)) (xs (n + 2)) (xs (n + 3)) ad (fun o => ad (182 + o)) (aD_X hE) (aD_M hE) hK g sv σ τ ρ c9 gr h I
  refine bv_cX (As := [.int (xs (n + 1)), .int (xs (n + 2)), .int (xs (n + 3))]) (rest := []) C rfl k1 ml_L_112 im_X8_gain sel_X8_gain ini_X8 cd_X8_gain ok_X8_gain rfl ⟨by omega, by omega⟩ hR2 rfl (fun _ => rfl) (fun _ => rfl) (Nat.zero_le _) ?_
  refine bv_aload_n (n := 2) (x := 182) C rfl rfl ?_
  refine bv_scr C hX hb hA had (n := n) (q := 1) rfl rfl rfl rfl rfl rfl rfl (by omega) hn5 hL ?_
  refine bv_scr C hX hb hA had (n := n) (q := 2) rfl rfl rfl rfl rfl rfl rfl (by omega) hn5 hL ?_
  refine bv_scr C hX hb hA had (n := n) (q := 3) rfl rfl rfl rfl rfl rfl rfl (by omega) hn5 hL ?_
  refine bv_cM (As := [.int (xs (n + 1)), .int (xs (n + 2)), .int (xs (n + 3))]) (rest := [.int v]) C rfl k2 ml_L_115 im_X9_gain sel_X9_gain ini_X9 cd_X9_gain ok_X9_gain rfl ⟨by omega, by omega⟩ hR2 rfl (fun _ => rfl) (fun _ => rfl) (Nat.le_of_ble_eq_true rfl) ?_
  exact bv_icmp_eq (j := 884) C rfl (by rw [pc884]; rfl) (fun _ => kk _ _ _ _ _ _ _ _ I1) (fun z => absurd rfl z)
set_option maxRecDepth 100000 in
theorem lc_24 (C : bC p s m args meth c D cA z0 SK SV A 4 RL code tb_L_law) (hX : va_X b L9 xs s s.heap) (hb : b < s.heap.size) (hA : ¬ A b) (had : ad 400 = b) (hn5 : n + 5 ≤ L9) (hL : L9 ≤ 2560) (hK : adK ad SK SV) (hR : 15 ≤ R.frames ∧ 618 ≤ R.locals) (hR2 : cells ≤ R.cells ∧ slots ≤ R.slots) (I : SI g sv σ τ ρ c9 gr) (kk : ∀ (g sv : Nat → Nat → Int32) (σ τ : Nat → Nat → Nat) (ρ : Nat → Nat) (c9 : Nat) (gr : Nat → Nat → Int32) (h : Int64), SI g sv σ τ ρ c9 gr → bV p l e R s m args below meth c D cA shL A 4 tb_L_law Q ad 191 cells slots (layL g sv σ τ ρ c9 gr h) 884 ([(1, .ref 0), (2, .ref 182), (3, .int (nI n)), (0, .ref 400)] : Lc) []) : bV p l e R s m args below meth c D cA shL A 4 tb_L_law Q ad 191 cells slots (layL g sv σ τ ρ c9 gr h) 556 ([(1, .ref 0), (2, .ref 182), (3, .int (nI n)), (0, .ref 400)] : Lc) [] := by
  refine bv_aload_n (n := 1) (x := 0) C rfl rfl ?_
  refine bv_scr C hX hb hA had (n := n) (q := 1) rfl rfl rfl rfl rfl rfl rfl (by omega) hn5 hL ?_
  refine bv_scr C hX hb hA had (n := n) (q := 2) rfl rfl rfl rfl rfl rfl rfl (by omega) hn5 hL ?_
  refine bv_hE C (fun hE => ?_)
  obtain ⟨v, g1, s1, σ1, τ1, ρ1, c1, gr1, h1, I1, k1, k2⟩ := sm_heard (l := l) (D := D) (cA := cA) (SK := SK) (SV := SV) (xs (n + 1)) (xs (n + 2)) ad (fun o => ad (182 + o)) (aD_X hE) (aD_M hE) hK g sv σ τ ρ c9 gr h I
  refine bv_cX (As := [.int (xs (n + 1)), .int (xs (n + 2))]) (rest := []) C rfl k1 ml_L_116 im_X8_heard sel_X8_heard ini_X8 cd_X8_heard ok_X8_heard rfl ⟨by omega, by omega⟩ hR2 rfl (fun _ => rfl) (fun _ => rfl) (Nat.zero_le _) ?_
  refine bv_aload_n (n := 2) (x := 182) C rfl rfl ?_
  refine bv_scr C hX hb hA had (n := n) (q := 1) rfl rfl rfl rfl rfl rfl rfl (by omega) hn5 hL ?_
  refine bv_scr C hX hb hA had (n := n) (q := 2) rfl rfl rfl rfl rfl rfl rfl (by omega) hn5 hL ?_
  refine bv_cM (As := [.int (xs (n + 1)), .int (xs (n + 2))]) (rest := [.int v]) C rfl k2 ml_L_119 im_X9_heard sel_X9_heard ini_X9 cd_X9_heard ok_X9_heard rfl ⟨by omega, by omega⟩ hR2 rfl (fun _ => rfl) (fun _ => rfl) (Nat.le_of_ble_eq_true rfl) ?_
  exact bv_icmp_eq (j := 884) C rfl (by rw [pc884]; rfl) (fun _ => kk _ _ _ _ _ _ _ _ I1) (fun z => absurd rfl z)
set_option maxRecDepth 100000 in
theorem lc_25 (C : bC p s m args meth c D cA z0 SK SV A 4 RL code tb_L_law) (hX : va_X b L9 xs s s.heap) (hb : b < s.heap.size) (hA : ¬ A b) (had : ad 400 = b) (hn5 : n + 5 ≤ L9) (hL : L9 ≤ 2560) (hK : adK ad SK SV) (hR : 15 ≤ R.frames ∧ 618 ≤ R.locals) (hR2 : cells ≤ R.cells ∧ slots ≤ R.slots) (I : SI g sv σ τ ρ c9 gr) (kk : ∀ (g sv : Nat → Nat → Int32) (σ τ : Nat → Nat → Nat) (ρ : Nat → Nat) (c9 : Nat) (gr : Nat → Nat → Int32) (h : Int64), SI g sv σ τ ρ c9 gr → bV p l e R s m args below meth c D cA shL A 4 tb_L_law Q ad 191 cells slots (layL g sv σ τ ρ c9 gr h) 884 ([(1, .ref 0), (2, .ref 182), (3, .int (nI n)), (0, .ref 400)] : Lc) []) : bV p l e R s m args below meth c D cA shL A 4 tb_L_law Q ad 191 cells slots (layL g sv σ τ ρ c9 gr h) 583 ([(1, .ref 0), (2, .ref 182), (3, .int (nI n)), (0, .ref 400)] : Lc) [] := by
  refine bv_aload_n (n := 1) (x := 0) C rfl rfl ?_
  refine bv_hE C (fun hE => ?_)
  obtain ⟨v, g1, s1, σ1, τ1, ρ1, c1, gr1, h1, I1, k1, k2⟩ := sm_failures (l := l) (D := D) (cA := cA) (SK := SK) (SV := SV)  ad (fun o => ad (182 + o)) (aD_X hE) (aD_M hE) hK g sv σ τ ρ c9 gr h I
  refine bv_cX (As := []) (rest := []) C rfl k1 ml_L_120 im_X8_failures sel_X8_failures ini_X8 cd_X8_failures ok_X8_failures rfl ⟨by omega, by omega⟩ hR2 rfl (fun _ => rfl) (fun _ => rfl) (Nat.zero_le _) ?_
  refine bv_aload_n (n := 2) (x := 182) C rfl rfl ?_
  refine bv_cM (As := []) (rest := [.int v]) C rfl k2 ml_L_123 im_X9_failures sel_X9_failures ini_X9 cd_X9_failures ok_X9_failures rfl ⟨by omega, by omega⟩ hR2 rfl (fun _ => rfl) (fun _ => rfl) (Nat.le_of_ble_eq_true rfl) ?_
  exact bv_icmp_eq (j := 884) C rfl (by rw [pc884]; rfl) (fun _ => kk _ _ _ _ _ _ _ _ I1) (fun z => absurd rfl z)
set_option maxRecDepth 100000 in
theorem lc_26 (C : bC p s m args meth c D cA z0 SK SV A 4 RL code tb_L_law) (hX : va_X b L9 xs s s.heap) (hb : b < s.heap.size) (hA : ¬ A b) (had : ad 400 = b) (hn5 : n + 5 ≤ L9) (hL : L9 ≤ 2560) (hK : adK ad SK SV) (hR : 15 ≤ R.frames ∧ 618 ≤ R.locals) (hR2 : cells ≤ R.cells ∧ slots ≤ R.slots) (I : SI g sv σ τ ρ c9 gr) (kk : ∀ (g sv : Nat → Nat → Int32) (σ τ : Nat → Nat → Nat) (ρ : Nat → Nat) (c9 : Nat) (gr : Nat → Nat → Int32) (h : Int64), SI g sv σ τ ρ c9 gr → bV p l e R s m args below meth c D cA shL A 4 tb_L_law Q ad 191 cells slots (layL g sv σ τ ρ c9 gr h) 884 ([(1, .ref 0), (2, .ref 182), (3, .int (nI n)), (0, .ref 400)] : Lc) []) : bV p l e R s m args below meth c D cA shL A 4 tb_L_law Q ad 191 cells slots (layL g sv σ τ ρ c9 gr h) 590 ([(1, .ref 0), (2, .ref 182), (3, .int (nI n)), (0, .ref 400)] : Lc) [] := by
  refine bv_aload_n (n := 1) (x := 0) C rfl rfl ?_
  refine bv_hE C (fun hE => ?_)
  obtain ⟨v, g1, s1, σ1, τ1, ρ1, c1, gr1, h1, I1, k1, k2⟩ := sm_interval (l := l) (D := D) (cA := cA) (SK := SK) (SV := SV)  ad (fun o => ad (182 + o)) (aD_X hE) (aD_M hE) hK g sv σ τ ρ c9 gr h I
  refine bv_cX (As := []) (rest := []) C rfl k1 ml_L_124 im_X8_interval sel_X8_interval ini_X8 cd_X8_interval ok_X8_interval rfl ⟨by omega, by omega⟩ hR2 rfl (fun _ => rfl) (fun _ => rfl) (Nat.zero_le _) ?_
  refine bv_aload_n (n := 2) (x := 182) C rfl rfl ?_
  refine bv_cM (As := []) (rest := [.int v]) C rfl k2 ml_L_127 im_X9_interval sel_X9_interval ini_X9 cd_X9_interval ok_X9_interval rfl ⟨by omega, by omega⟩ hR2 rfl (fun _ => rfl) (fun _ => rfl) (Nat.le_of_ble_eq_true rfl) ?_
  exact bv_icmp_eq (j := 884) C rfl (by rw [pc884]; rfl) (fun _ => kk _ _ _ _ _ _ _ _ I1) (fun z => absurd rfl z)
set_option maxRecDepth 100000 in
theorem lc_27 (C : bC p s m args meth c D cA z0 SK SV A 4 RL code tb_L_law) (hX : va_X b L9 xs s s.heap) (hb : b < s.heap.size) (hA : ¬ A b) (had : ad 400 = b) (hn5 : n + 5 ≤ L9) (hL : L9 ≤ 2560) (hK : adK ad SK SV) (hR : 15 ≤ R.frames ∧ 618 ≤ R.locals) (hR2 : cells ≤ R.cells ∧ slots ≤ R.slots) (I : SI g sv σ τ ρ c9 gr) (kk : ∀ (g sv : Nat → Nat → Int32) (σ τ : Nat → Nat → Nat) (ρ : Nat → Nat) (c9 : Nat) (gr : Nat → Nat → Int32) (h : Int64), SI g sv σ τ ρ c9 gr → bV p l e R s m args below meth c D cA shL A 4 tb_L_law Q ad 191 cells slots (layL g sv σ τ ρ c9 gr h) 884 ([(1, .ref 0), (2, .ref 182), (3, .int (nI n)), (0, .ref 400)] : Lc) []) : bV p l e R s m args below meth c D cA shL A 4 tb_L_law Q ad 191 cells slots (layL g sv σ τ ρ c9 gr h) 597 ([(1, .ref 0), (2, .ref 182), (3, .int (nI n)), (0, .ref 400)] : Lc) [] := by
  refine bv_aload_n (n := 1) (x := 0) C rfl rfl ?_
  refine bv_hE C (fun hE => ?_)
  obtain ⟨v, g1, s1, σ1, τ1, ρ1, c1, gr1, h1, I1, k1, k2⟩ := sm_frames (l := l) (D := D) (cA := cA) (SK := SK) (SV := SV)  ad (fun o => ad (182 + o)) (aD_X hE) (aD_M hE) hK g sv σ τ ρ c9 gr h I
  refine bv_cX (As := []) (rest := []) C rfl k1 ml_L_128 im_X8_frames sel_X8_frames ini_X8 cd_X8_frames ok_X8_frames rfl ⟨by omega, by omega⟩ hR2 rfl (fun _ => rfl) (fun _ => rfl) (Nat.zero_le _) ?_
  refine bv_aload_n (n := 2) (x := 182) C rfl rfl ?_
  refine bv_cM (As := []) (rest := [.int v]) C rfl k2 ml_L_131 im_X9_frames sel_X9_frames ini_X9 cd_X9_frames ok_X9_frames rfl ⟨by omega, by omega⟩ hR2 rfl (fun _ => rfl) (fun _ => rfl) (Nat.le_of_ble_eq_true rfl) ?_
  exact bv_icmp_eq (j := 884) C rfl (by rw [pc884]; rfl) (fun _ => kk _ _ _ _ _ _ _ _ I1) (fun z => absurd rfl z)
set_option maxRecDepth 100000 in
theorem lc_28 (C : bC p s m args meth c D cA z0 SK SV A 4 RL code tb_L_law) (hX : va_X b L9 xs s s.heap) (hb : b < s.heap.size) (hA : ¬ A b) (had : ad 400 = b) (hn5 : n + 5 ≤ L9) (hL : L9 ≤ 2560) (hK : adK ad SK SV) (hR : 15 ≤ R.frames ∧ 618 ≤ R.locals) (hR2 : cells ≤ R.cells ∧ slots ≤ R.slots) (I : SI g sv σ τ ρ c9 gr) (kk : ∀ (g sv : Nat → Nat → Int32) (σ τ : Nat → Nat → Nat) (ρ : Nat → Nat) (c9 : Nat) (gr : Nat → Nat → Int32) (h : Int64), SI g sv σ τ ρ c9 gr → bV p l e R s m args below meth c D cA shL A 4 tb_L_law Q ad 191 cells slots (layL g sv σ τ ρ c9 gr h) 884 ([(1, .ref 0), (2, .ref 182), (3, .int (nI n)), (0, .ref 400)] : Lc) []) : bV p l e R s m args below meth c D cA shL A 4 tb_L_law Q ad 191 cells slots (layL g sv σ τ ρ c9 gr h) 604 ([(1, .ref 0), (2, .ref 182), (3, .int (nI n)), (0, .ref 400)] : Lc) [] := by
  refine bv_aload_n (n := 1) (x := 0) C rfl rfl ?_
  refine bv_hE C (fun hE => ?_)
  obtain ⟨v, g1, s1, σ1, τ1, ρ1, c1, gr1, h1, I1, k1, k2⟩ := sm_time (l := l) (D := D) (cA := cA) (SK := SK) (SV := SV)  ad (fun o => ad (182 + o)) (aD_X hE) (aD_M hE) hK g sv σ τ ρ c9 gr h I
  refine bv_cX (As := []) (rest := []) C rfl k1 ml_L_132 im_X8_time sel_X8_time ini_X8 cd_X8_time ok_X8_time rfl ⟨by omega, by omega⟩ hR2 rfl (fun _ => rfl) (fun _ => rfl) (Nat.zero_le _) ?_
  refine bv_aload_n (n := 2) (x := 182) C rfl rfl ?_
  refine bv_cM (As := []) (rest := [.int v]) C rfl k2 ml_L_135 im_X9_time sel_X9_time ini_X9 cd_X9_time ok_X9_time rfl ⟨by omega, by omega⟩ hR2 rfl (fun _ => rfl) (fun _ => rfl) (Nat.le_of_ble_eq_true rfl) ?_
  exact bv_icmp_eq (j := 884) C rfl (by rw [pc884]; rfl) (fun _ => kk _ _ _ _ _ _ _ _ I1) (fun z => absurd rfl z)
set_option maxRecDepth 100000 in
theorem lc_29 (C : bC p s m args meth c D cA z0 SK SV A 4 RL code tb_L_law) (hX : va_X b L9 xs s s.heap) (hb : b < s.heap.size) (hA : ¬ A b) (had : ad 400 = b) (hn5 : n + 5 ≤ L9) (hL : L9 ≤ 2560) (hK : adK ad SK SV) (hR : 15 ≤ R.frames ∧ 618 ≤ R.locals) (hR2 : cells ≤ R.cells ∧ slots ≤ R.slots) (I : SI g sv σ τ ρ c9 gr) (kk : ∀ (g sv : Nat → Nat → Int32) (σ τ : Nat → Nat → Nat) (ρ : Nat → Nat) (c9 : Nat) (gr : Nat → Nat → Int32) (h : Int64), SI g sv σ τ ρ c9 gr → bV p l e R s m args below meth c D cA shL A 4 tb_L_law Q ad 191 cells slots (layL g sv σ τ ρ c9 gr h) 884 ([(1, .ref 0), (2, .ref 182), (3, .int (nI n)), (0, .ref 400)] : Lc) []) : bV p l e R s m args below meth c D cA shL A 4 tb_L_law Q ad 191 cells slots (layL g sv σ τ ρ c9 gr h) 611 ([(1, .ref 0), (2, .ref 182), (3, .int (nI n)), (0, .ref 400)] : Lc) [] := by
  refine bv_aload_n (n := 1) (x := 0) C rfl rfl ?_
  refine bv_hE C (fun hE => ?_)
  obtain ⟨v, g1, s1, σ1, τ1, ρ1, c1, gr1, h1, I1, k1, k2⟩ := sm_pathCount (l := l) (D := D) (cA := cA) (SK := SK) (SV := SV)  ad (fun o => ad (182 + o)) (aD_X hE) (aD_M hE) hK g sv σ τ ρ c9 gr h I
  refine bv_cX (As := []) (rest := []) C rfl k1 ml_L_136 im_X8_pathCount sel_X8_pathCount ini_X8 cd_X8_pathCount ok_X8_pathCount rfl ⟨by omega, by omega⟩ hR2 rfl (fun _ => rfl) (fun _ => rfl) (Nat.zero_le _) ?_
  refine bv_aload_n (n := 2) (x := 182) C rfl rfl ?_
  refine bv_cM (As := []) (rest := [.int v]) C rfl k2 ml_L_139 im_X9_pathCount sel_X9_pathCount ini_X9 cd_X9_pathCount ok_X9_pathCount rfl ⟨by omega, by omega⟩ hR2 rfl (fun _ => rfl) (fun _ => rfl) (Nat.le_of_ble_eq_true rfl) ?_
  exact bv_icmp_eq (j := 884) C rfl (by rw [pc884]; rfl) (fun _ => kk _ _ _ _ _ _ _ _ I1) (fun z => absurd rfl z)
set_option maxRecDepth 100000 in
theorem lc_30 (C : bC p s m args meth c D cA z0 SK SV A 4 RL code tb_L_law) (hX : va_X b L9 xs s s.heap) (hb : b < s.heap.size) (hA : ¬ A b) (had : ad 400 = b) (hn5 : n + 5 ≤ L9) (hL : L9 ≤ 2560) (hK : adK ad SK SV) (hR : 15 ≤ R.frames ∧ 618 ≤ R.locals) (hR2 : cells ≤ R.cells ∧ slots ≤ R.slots) (I : SI g sv σ τ ρ c9 gr) (kk : ∀ (g sv : Nat → Nat → Int32) (σ τ : Nat → Nat → Nat) (ρ : Nat → Nat) (c9 : Nat) (gr : Nat → Nat → Int32) (h : Int64), SI g sv σ τ ρ c9 gr → bV p l e R s m args below meth c D cA shL A 4 tb_L_law Q ad 191 cells slots (layL g sv σ τ ρ c9 gr h) 884 ([(1, .ref 0), (2, .ref 182), (3, .int (nI n)), (0, .ref 400)] : Lc) []) : bV p l e R s m args below meth c D cA shL A 4 tb_L_law Q ad 191 cells slots (layL g sv σ τ ρ c9 gr h) 618 ([(1, .ref 0), (2, .ref 182), (3, .int (nI n)), (0, .ref 400)] : Lc) [] := by
  refine bv_aload_n (n := 1) (x := 0) C rfl rfl ?_
  refine bv_scr C hX hb hA had (n := n) (q := 1) rfl rfl rfl rfl rfl rfl rfl (by omega) hn5 hL ?_
  refine bv_scr C hX hb hA had (n := n) (q := 2) rfl rfl rfl rfl rfl rfl rfl (by omega) hn5 hL ?_
  refine bv_hE C (fun hE => ?_)
  obtain ⟨v, g1, s1, σ1, τ1, ρ1, c1, gr1, h1, I1, k1, k2⟩ := sm_pathDirection (l := l) (D := D) (cA := cA) (SK := SK) (SV := SV) (xs (n + 1)) (xs (n + 2)) ad (fun o => ad (182 + o)) (aD_X hE) (aD_M hE) hK g sv σ τ ρ c9 gr h I
  refine bv_cX (As := [.int (xs (n + 1)), .int (xs (n + 2))]) (rest := []) C rfl k1 ml_L_140 im_X8_pathDirection sel_X8_pathDirection ini_X8 cd_X8_pathDirection ok_X8_pathDirection rfl ⟨by omega, by omega⟩ hR2 rfl (fun _ => rfl) (fun _ => rfl) (Nat.zero_le _) ?_
  refine bv_aload_n (n := 2) (x := 182) C rfl rfl ?_
  refine bv_scr C hX hb hA had (n := n) (q := 1) rfl rfl rfl rfl rfl rfl rfl (by omega) hn5 hL ?_
  refine bv_scr C hX hb hA had (n := n) (q := 2) rfl rfl rfl rfl rfl rfl rfl (by omega) hn5 hL ?_
  refine bv_cM (As := [.int (xs (n + 1)), .int (xs (n + 2))]) (rest := [.int v]) C rfl k2 ml_L_143 im_X9_pathDirection sel_X9_pathDirection ini_X9 cd_X9_pathDirection ok_X9_pathDirection rfl ⟨by omega, by omega⟩ hR2 rfl (fun _ => rfl) (fun _ => rfl) (Nat.le_of_ble_eq_true rfl) ?_
  exact bv_icmp_eq (j := 884) C rfl (by rw [pc884]; rfl) (fun _ => kk _ _ _ _ _ _ _ _ I1) (fun z => absurd rfl z)
set_option maxRecDepth 100000 in
theorem lc_31 (C : bC p s m args meth c D cA z0 SK SV A 4 RL code tb_L_law) (hX : va_X b L9 xs s s.heap) (hb : b < s.heap.size) (hA : ¬ A b) (had : ad 400 = b) (hn5 : n + 5 ≤ L9) (hL : L9 ≤ 2560) (hK : adK ad SK SV) (hR : 15 ≤ R.frames ∧ 618 ≤ R.locals) (hR2 : cells ≤ R.cells ∧ slots ≤ R.slots) (I : SI g sv σ τ ρ c9 gr) (kk : ∀ (g sv : Nat → Nat → Int32) (σ τ : Nat → Nat → Nat) (ρ : Nat → Nat) (c9 : Nat) (gr : Nat → Nat → Int32) (h : Int64), SI g sv σ τ ρ c9 gr → bV p l e R s m args below meth c D cA shL A 4 tb_L_law Q ad 191 cells slots (layL g sv σ τ ρ c9 gr h) 884 ([(1, .ref 0), (2, .ref 182), (3, .int (nI n)), (0, .ref 400)] : Lc) []) : bV p l e R s m args below meth c D cA shL A 4 tb_L_law Q ad 191 cells slots (layL g sv σ τ ρ c9 gr h) 645 ([(1, .ref 0), (2, .ref 182), (3, .int (nI n)), (0, .ref 400)] : Lc) [] := by
  refine bv_aload_n (n := 1) (x := 0) C rfl rfl ?_
  refine bv_scr C hX hb hA had (n := n) (q := 1) rfl rfl rfl rfl rfl rfl rfl (by omega) hn5 hL ?_
  refine bv_scr C hX hb hA had (n := n) (q := 2) rfl rfl rfl rfl rfl rfl rfl (by omega) hn5 hL ?_
  refine bv_scr C hX hb hA had (n := n) (q := 3) rfl rfl rfl rfl rfl rfl rfl (by omega) hn5 hL ?_
  refine bv_hE C (fun hE => ?_)
  obtain ⟨v, g1, s1, σ1, τ1, ρ1, c1, gr1, h1, I1, k1, k2⟩ := sm_quality (l := l) (D := D) (cA := cA) (SK := SK) (SV := SV) (xs (n + 1)) (xs (n + 2)) (xs (n + 3)) ad (fun o => ad (182 + o)) (aD_X hE) (aD_M hE) hK g sv σ τ ρ c9 gr h I
  refine bv_cX (As := [.int (xs (n + 1)), .int (xs (n + 2)), .int (xs (n + 3))]) (rest := []) C rfl k1 ml_L_144 im_X8_quality sel_X8_quality ini_X8 cd_X8_quality ok_X8_quality rfl ⟨by omega, by omega⟩ hR2 rfl (fun _ => rfl) (fun _ => rfl) (Nat.zero_le _) ?_
  refine bv_aload_n (n := 2) (x := 182) C rfl rfl ?_
  refine bv_scr C hX hb hA had (n := n) (q := 1) rfl rfl rfl rfl rfl rfl rfl (by omega) hn5 hL ?_
  refine bv_scr C hX hb hA had (n := n) (q := 2) rfl rfl rfl rfl rfl rfl rfl (by omega) hn5 hL ?_
  refine bv_scr C hX hb hA had (n := n) (q := 3) rfl rfl rfl rfl rfl rfl rfl (by omega) hn5 hL ?_
  refine bv_cM (As := [.int (xs (n + 1)), .int (xs (n + 2)), .int (xs (n + 3))]) (rest := [.int v]) C rfl k2 ml_L_147 im_X9_quality sel_X9_quality ini_X9 cd_X9_quality ok_X9_quality rfl ⟨by omega, by omega⟩ hR2 rfl (fun _ => rfl) (fun _ => rfl) (Nat.le_of_ble_eq_true rfl) ?_
  exact bv_icmp_eq (j := 884) C rfl (by rw [pc884]; rfl) (fun _ => kk _ _ _ _ _ _ _ _ I1) (fun z => absurd rfl z)
set_option maxRecDepth 100000 in
theorem lc_32 (C : bC p s m args meth c D cA z0 SK SV A 4 RL code tb_L_law) (hX : va_X b L9 xs s s.heap) (hb : b < s.heap.size) (hA : ¬ A b) (had : ad 400 = b) (hn5 : n + 5 ≤ L9) (hL : L9 ≤ 2560) (hK : adK ad SK SV) (hR : 15 ≤ R.frames ∧ 618 ≤ R.locals) (hR2 : cells ≤ R.cells ∧ slots ≤ R.slots) (I : SI g sv σ τ ρ c9 gr) (kk : ∀ (g sv : Nat → Nat → Int32) (σ τ : Nat → Nat → Nat) (ρ : Nat → Nat) (c9 : Nat) (gr : Nat → Nat → Int32) (h : Int64), SI g sv σ τ ρ c9 gr → bV p l e R s m args below meth c D cA shL A 4 tb_L_law Q ad 191 cells slots (layL g sv σ τ ρ c9 gr h) 884 ([(1, .ref 0), (2, .ref 182), (3, .int (nI n)), (0, .ref 400)] : Lc) []) : bV p l e R s m args below meth c D cA shL A 4 tb_L_law Q ad 191 cells slots (layL g sv σ τ ρ c9 gr h) 682 ([(1, .ref 0), (2, .ref 182), (3, .int (nI n)), (0, .ref 400)] : Lc) [] := by
  refine bv_aload_n (n := 1) (x := 0) C rfl rfl ?_
  refine bv_hE C (fun hE => ?_)
  obtain ⟨v, g1, s1, σ1, τ1, ρ1, c1, gr1, h1, I1, k1, k2⟩ := sm_bestPair (l := l) (D := D) (cA := cA) (SK := SK) (SV := SV)  ad (fun o => ad (182 + o)) (aD_X hE) (aD_M hE) hK g sv σ τ ρ c9 gr h I
  refine bv_cX (As := []) (rest := []) C rfl k1 ml_L_148 im_X8_bestPair sel_X8_bestPair ini_X8 cd_X8_bestPair ok_X8_bestPair rfl ⟨by omega, by omega⟩ hR2 rfl (fun _ => rfl) (fun _ => rfl) (Nat.zero_le _) ?_
  refine bv_aload_n (n := 2) (x := 182) C rfl rfl ?_
  refine bv_cM (As := []) (rest := [.int v]) C rfl k2 ml_L_151 im_X9_bestPair sel_X9_bestPair ini_X9 cd_X9_bestPair ok_X9_bestPair rfl ⟨by omega, by omega⟩ hR2 rfl (fun _ => rfl) (fun _ => rfl) (Nat.le_of_ble_eq_true rfl) ?_
  exact bv_icmp_eq (j := 884) C rfl (by rw [pc884]; rfl) (fun _ => kk _ _ _ _ _ _ _ _ I1) (fun z => absurd rfl z)
set_option maxRecDepth 100000 in
theorem lc_33 (C : bC p s m args meth c D cA z0 SK SV A 4 RL code tb_L_law) (hX : va_X b L9 xs s s.heap) (hb : b < s.heap.size) (hA : ¬ A b) (had : ad 400 = b) (hn5 : n + 5 ≤ L9) (hL : L9 ≤ 2560) (hK : adK ad SK SV) (hR : 15 ≤ R.frames ∧ 618 ≤ R.locals) (hR2 : cells ≤ R.cells ∧ slots ≤ R.slots) (I : SI g sv σ τ ρ c9 gr) (kk : ∀ (g sv : Nat → Nat → Int32) (σ τ : Nat → Nat → Nat) (ρ : Nat → Nat) (c9 : Nat) (gr : Nat → Nat → Int32) (h : Int64), SI g sv σ τ ρ c9 gr → bV p l e R s m args below meth c D cA shL A 4 tb_L_law Q ad 191 cells slots (layL g sv σ τ ρ c9 gr h) 884 ([(1, .ref 0), (2, .ref 182), (3, .int (nI n)), (0, .ref 400)] : Lc) []) : bV p l e R s m args below meth c D cA shL A 4 tb_L_law Q ad 191 cells slots (layL g sv σ τ ρ c9 gr h) 689 ([(1, .ref 0), (2, .ref 182), (3, .int (nI n)), (0, .ref 400)] : Lc) [] := by
  refine bv_aload_n (n := 1) (x := 0) C rfl rfl ?_
  refine bv_hE C (fun hE => ?_)
  obtain ⟨v, g1, s1, σ1, τ1, ρ1, c1, gr1, h1, I1, k1, k2⟩ := sm_shortfall (l := l) (D := D) (cA := cA) (SK := SK) (SV := SV)  ad (fun o => ad (182 + o)) (aD_X hE) (aD_M hE) hK g sv σ τ ρ c9 gr h I
  refine bv_cX (As := []) (rest := []) C rfl k1 ml_L_152 im_X8_shortfall sel_X8_shortfall ini_X8 cd_X8_shortfall ok_X8_shortfall rfl ⟨by omega, by omega⟩ hR2 rfl (fun _ => rfl) (fun _ => rfl) (Nat.zero_le _) ?_
  refine bv_aload_n (n := 2) (x := 182) C rfl rfl ?_
  refine bv_cM (As := []) (rest := [.int v]) C rfl k2 ml_L_155 im_X9_shortfall sel_X9_shortfall ini_X9 cd_X9_shortfall ok_X9_shortfall rfl ⟨by omega, by omega⟩ hR2 rfl (fun _ => rfl) (fun _ => rfl) (Nat.le_of_ble_eq_true rfl) ?_
  exact bv_icmp_eq (j := 884) C rfl (by rw [pc884]; rfl) (fun _ => kk _ _ _ _ _ _ _ _ I1) (fun z => absurd rfl z)
set_option maxRecDepth 100000 in
theorem lc_36 (C : bC p s m args meth c D cA z0 SK SV A 4 RL code tb_L_law) (hX : va_X b L9 xs s s.heap) (hb : b < s.heap.size) (hA : ¬ A b) (had : ad 400 = b) (hn5 : n + 5 ≤ L9) (hL : L9 ≤ 2560) (hK : adK ad SK SV) (hR : 15 ≤ R.frames ∧ 618 ≤ R.locals) (hR2 : cells ≤ R.cells ∧ slots ≤ R.slots) (I : SI g sv σ τ ρ c9 gr) (kk : ∀ (g sv : Nat → Nat → Int32) (σ τ : Nat → Nat → Nat) (ρ : Nat → Nat) (c9 : Nat) (gr : Nat → Nat → Int32) (h : Int64), SI g sv σ τ ρ c9 gr → bV p l e R s m args below meth c D cA shL A 4 tb_L_law Q ad 191 cells slots (layL g sv σ τ ρ c9 gr h) 884 ([(1, .ref 0), (2, .ref 182), (3, .int (nI n)), (0, .ref 400)] : Lc) []) : bV p l e R s m args below meth c D cA shL A 4 tb_L_law Q ad 191 cells slots (layL g sv σ τ ρ c9 gr h) 750 ([(1, .ref 0), (2, .ref 182), (3, .int (nI n)), (0, .ref 400)] : Lc) [] := by
  refine bv_aload_n (n := 1) (x := 0) C rfl rfl ?_
  refine bv_scr C hX hb hA had (n := n) (q := 1) rfl rfl rfl rfl rfl rfl rfl (by omega) hn5 hL ?_
  refine bv_hE C (fun hE => ?_)
  obtain ⟨v, g1, s1, σ1, τ1, ρ1, c1, gr1, h1, I1, k1, k2⟩ := sm_outage (l := l) (D := D) (cA := cA) (SK := SK) (SV := SV) (xs (n + 1)) ad (fun o => ad (182 + o)) (aD_X hE) (aD_M hE) hK g sv σ τ ρ c9 gr h I
  refine bv_cX (As := [.int (xs (n + 1))]) (rest := []) C rfl k1 ml_L_164 im_X8_outage sel_X8_outage ini_X8 cd_X8_outage ok_X8_outage rfl ⟨by omega, by omega⟩ hR2 rfl (fun _ => rfl) (fun _ => rfl) (Nat.zero_le _) ?_
  refine bv_aload_n (n := 2) (x := 182) C rfl rfl ?_
  refine bv_scr C hX hb hA had (n := n) (q := 1) rfl rfl rfl rfl rfl rfl rfl (by omega) hn5 hL ?_
  refine bv_cM (As := [.int (xs (n + 1))]) (rest := [.int v]) C rfl k2 ml_L_167 im_X9_outage sel_X9_outage ini_X9 cd_X9_outage ok_X9_outage rfl ⟨by omega, by omega⟩ hR2 rfl (fun _ => rfl) (fun _ => rfl) (Nat.le_of_ble_eq_true rfl) ?_
  exact bv_icmp_eq (j := 884) C rfl (by rw [pc884]; rfl) (fun _ => kk _ _ _ _ _ _ _ _ I1) (fun z => absurd rfl z)
set_option maxRecDepth 100000 in
theorem lc_37 (C : bC p s m args meth c D cA z0 SK SV A 4 RL code tb_L_law) (hX : va_X b L9 xs s s.heap) (hb : b < s.heap.size) (hA : ¬ A b) (had : ad 400 = b) (hn5 : n + 5 ≤ L9) (hL : L9 ≤ 2560) (hK : adK ad SK SV) (hR : 15 ≤ R.frames ∧ 618 ≤ R.locals) (hR2 : cells ≤ R.cells ∧ slots ≤ R.slots) (I : SI g sv σ τ ρ c9 gr) (kk : ∀ (g sv : Nat → Nat → Int32) (σ τ : Nat → Nat → Nat) (ρ : Nat → Nat) (c9 : Nat) (gr : Nat → Nat → Int32) (h : Int64), SI g sv σ τ ρ c9 gr → bV p l e R s m args below meth c D cA shL A 4 tb_L_law Q ad 191 cells slots (layL g sv σ τ ρ c9 gr h) 884 ([(1, .ref 0), (2, .ref 182), (3, .int (nI n)), (0, .ref 400)] : Lc) []) : bV p l e R s m args below meth c D cA shL A 4 tb_L_law Q ad 191 cells slots (layL g sv σ τ ρ c9 gr h) 767 ([(1, .ref 0), (2, .ref 182), (3, .int (nI n)), (0, .ref 400)] : Lc) [] := by
  refine bv_aload_n (n := 1) (x := 0) C rfl rfl ?_
  refine bv_hE C (fun hE => ?_)
  obtain ⟨v, g1, s1, σ1, τ1, ρ1, c1, gr1, h1, I1, k1, k2⟩ := sm_backupCount (l := l) (D := D) (cA := cA) (SK := SK) (SV := SV)  ad (fun o => ad (182 + o)) (aD_X hE) (aD_M hE) hK g sv σ τ ρ c9 gr h I
  refine bv_cX (As := []) (rest := []) C rfl k1 ml_L_168 im_X8_backupCount sel_X8_backupCount ini_X8 cd_X8_backupCount ok_X8_backupCount rfl ⟨by omega, by omega⟩ hR2 rfl (fun _ => rfl) (fun _ => rfl) (Nat.zero_le _) ?_
  refine bv_aload_n (n := 2) (x := 182) C rfl rfl ?_
  refine bv_cM (As := []) (rest := [.int v]) C rfl k2 ml_L_171 im_X9_backupCount sel_X9_backupCount ini_X9 cd_X9_backupCount ok_X9_backupCount rfl ⟨by omega, by omega⟩ hR2 rfl (fun _ => rfl) (fun _ => rfl) (Nat.le_of_ble_eq_true rfl) ?_
  exact bv_icmp_eq (j := 884) C rfl (by rw [pc884]; rfl) (fun _ => kk _ _ _ _ _ _ _ _ I1) (fun z => absurd rfl z)
set_option maxRecDepth 100000 in
theorem lc_38 (C : bC p s m args meth c D cA z0 SK SV A 4 RL code tb_L_law) (hX : va_X b L9 xs s s.heap) (hb : b < s.heap.size) (hA : ¬ A b) (had : ad 400 = b) (hn5 : n + 5 ≤ L9) (hL : L9 ≤ 2560) (hK : adK ad SK SV) (hR : 15 ≤ R.frames ∧ 618 ≤ R.locals) (hR2 : cells ≤ R.cells ∧ slots ≤ R.slots) (I : SI g sv σ τ ρ c9 gr) (kk : ∀ (g sv : Nat → Nat → Int32) (σ τ : Nat → Nat → Nat) (ρ : Nat → Nat) (c9 : Nat) (gr : Nat → Nat → Int32) (h : Int64), SI g sv σ τ ρ c9 gr → bV p l e R s m args below meth c D cA shL A 4 tb_L_law Q ad 191 cells slots (layL g sv σ τ ρ c9 gr h) 884 ([(1, .ref 0), (2, .ref 182), (3, .int (nI n)), (0, .ref 400)] : Lc) []) : bV p l e R s m args below meth c D cA shL A 4 tb_L_law Q ad 191 cells slots (layL g sv σ τ ρ c9 gr h) 774 ([(1, .ref 0), (2, .ref 182), (3, .int (nI n)), (0, .ref 400)] : Lc) [] := by
  refine bv_aload_n (n := 1) (x := 0) C rfl rfl ?_
  refine bv_scr C hX hb hA had (n := n) (q := 1) rfl rfl rfl rfl rfl rfl rfl (by omega) hn5 hL ?_
  refine bv_scr C hX hb hA had (n := n) (q := 2) rfl rfl rfl rfl rfl rfl rfl (by omega) hn5 hL ?_
  refine bv_hE C (fun hE => ?_)
  obtain ⟨v, g1, s1, σ1, τ1, ρ1, c1, gr1, h1, I1, k1, k2⟩ := sm_backupBeam (l := l) (D := D) (cA := cA) (SK := SK) (SV := SV) (xs (n + 1)) (xs (n + 2)) ad (fun o => ad (182 + o)) (aD_X hE) (aD_M hE) hK g sv σ τ ρ c9 gr h I
  refine bv_cX (As := [.int (xs (n + 1)), .int (xs (n + 2))]) (rest := []) C rfl k1 ml_L_172 im_X8_backupBeam sel_X8_backupBeam ini_X8 cd_X8_backupBeam ok_X8_backupBeam rfl ⟨by omega, by omega⟩ hR2 rfl (fun _ => rfl) (fun _ => rfl) (Nat.zero_le _) ?_
  refine bv_aload_n (n := 2) (x := 182) C rfl rfl ?_
  refine bv_scr C hX hb hA had (n := n) (q := 1) rfl rfl rfl rfl rfl rfl rfl (by omega) hn5 hL ?_
  refine bv_scr C hX hb hA had (n := n) (q := 2) rfl rfl rfl rfl rfl rfl rfl (by omega) hn5 hL ?_
  refine bv_cM (As := [.int (xs (n + 1)), .int (xs (n + 2))]) (rest := [.int v]) C rfl k2 ml_L_175 im_X9_backupBeam sel_X9_backupBeam ini_X9 cd_X9_backupBeam ok_X9_backupBeam rfl ⟨by omega, by omega⟩ hR2 rfl (fun _ => rfl) (fun _ => rfl) (Nat.le_of_ble_eq_true rfl) ?_
  exact bv_icmp_eq (j := 884) C rfl (by rw [pc884]; rfl) (fun _ => kk _ _ _ _ _ _ _ _ I1) (fun z => absurd rfl z)
set_option maxRecDepth 100000 in
theorem lc_39 (C : bC p s m args meth c D cA z0 SK SV A 4 RL code tb_L_law) (hX : va_X b L9 xs s s.heap) (hb : b < s.heap.size) (hA : ¬ A b) (had : ad 400 = b) (hn5 : n + 5 ≤ L9) (hL : L9 ≤ 2560) (hK : adK ad SK SV) (hR : 15 ≤ R.frames ∧ 618 ≤ R.locals) (hR2 : cells ≤ R.cells ∧ slots ≤ R.slots) (I : SI g sv σ τ ρ c9 gr) (kk : ∀ (g sv : Nat → Nat → Int32) (σ τ : Nat → Nat → Nat) (ρ : Nat → Nat) (c9 : Nat) (gr : Nat → Nat → Int32) (h : Int64), SI g sv σ τ ρ c9 gr → bV p l e R s m args below meth c D cA shL A 4 tb_L_law Q ad 191 cells slots (layL g sv σ τ ρ c9 gr h) 884 ([(1, .ref 0), (2, .ref 182), (3, .int (nI n)), (0, .ref 400)] : Lc) []) : bV p l e R s m args below meth c D cA shL A 4 tb_L_law Q ad 191 cells slots (layL g sv σ τ ρ c9 gr h) 801 ([(1, .ref 0), (2, .ref 182), (3, .int (nI n)), (0, .ref 400)] : Lc) [] := by
  refine bv_aload_n (n := 1) (x := 0) C rfl rfl ?_
  refine bv_scr C hX hb hA had (n := n) (q := 1) rfl rfl rfl rfl rfl rfl rfl (by omega) hn5 hL ?_
  refine bv_hE C (fun hE => ?_)
  obtain ⟨v, g1, s1, σ1, τ1, ρ1, c1, gr1, h1, I1, k1, k2⟩ := sm_backupQuality (l := l) (D := D) (cA := cA) (SK := SK) (SV := SV) (xs (n + 1)) ad (fun o => ad (182 + o)) (aD_X hE) (aD_M hE) hK g sv σ τ ρ c9 gr h I
  refine bv_cX (As := [.int (xs (n + 1))]) (rest := []) C rfl k1 ml_L_176 im_X8_backupQuality sel_X8_backupQuality ini_X8 cd_X8_backupQuality ok_X8_backupQuality rfl ⟨by omega, by omega⟩ hR2 rfl (fun _ => rfl) (fun _ => rfl) (Nat.zero_le _) ?_
  refine bv_aload_n (n := 2) (x := 182) C rfl rfl ?_
  refine bv_scr C hX hb hA had (n := n) (q := 1) rfl rfl rfl rfl rfl rfl rfl (by omega) hn5 hL ?_
  refine bv_cM (As := [.int (xs (n + 1))]) (rest := [.int v]) C rfl k2 ml_L_179 im_X9_backupQuality sel_X9_backupQuality ini_X9 cd_X9_backupQuality ok_X9_backupQuality rfl ⟨by omega, by omega⟩ hR2 rfl (fun _ => rfl) (fun _ => rfl) (Nat.le_of_ble_eq_true rfl) ?_
  exact bv_icmp_eq (j := 884) C rfl (by rw [pc884]; rfl) (fun _ => kk _ _ _ _ _ _ _ _ I1) (fun z => absurd rfl z)
set_option maxRecDepth 100000 in
theorem lc_40 (C : bC p s m args meth c D cA z0 SK SV A 4 RL code tb_L_law) (hX : va_X b L9 xs s s.heap) (hb : b < s.heap.size) (hA : ¬ A b) (had : ad 400 = b) (hn5 : n + 5 ≤ L9) (hL : L9 ≤ 2560) (hK : adK ad SK SV) (hR : 15 ≤ R.frames ∧ 618 ≤ R.locals) (hR2 : cells ≤ R.cells ∧ slots ≤ R.slots) (I : SI g sv σ τ ρ c9 gr) (kk : ∀ (g sv : Nat → Nat → Int32) (σ τ : Nat → Nat → Nat) (ρ : Nat → Nat) (c9 : Nat) (gr : Nat → Nat → Int32) (h : Int64), SI g sv σ τ ρ c9 gr → bV p l e R s m args below meth c D cA shL A 4 tb_L_law Q ad 191 cells slots (layL g sv σ τ ρ c9 gr h) 884 ([(1, .ref 0), (2, .ref 182), (3, .int (nI n)), (0, .ref 400)] : Lc) []) : bV p l e R s m args below meth c D cA shL A 4 tb_L_law Q ad 191 cells slots (layL g sv σ τ ρ c9 gr h) 818 ([(1, .ref 0), (2, .ref 182), (3, .int (nI n)), (0, .ref 400)] : Lc) [] := by
  refine bv_aload_n (n := 1) (x := 0) C rfl rfl ?_
  refine bv_hE C (fun hE => ?_)
  obtain ⟨v, g1, s1, σ1, τ1, ρ1, c1, gr1, h1, I1, k1, k2⟩ := sm_eventCount (l := l) (D := D) (cA := cA) (SK := SK) (SV := SV)  ad (fun o => ad (182 + o)) (aD_X hE) (aD_M hE) hK g sv σ τ ρ c9 gr h I
  refine bv_cX (As := []) (rest := []) C rfl k1 ml_L_180 im_X8_eventCount sel_X8_eventCount ini_X8 cd_X8_eventCount ok_X8_eventCount rfl ⟨by omega, by omega⟩ hR2 rfl (fun _ => rfl) (fun _ => rfl) (Nat.zero_le _) ?_
  refine bv_aload_n (n := 2) (x := 182) C rfl rfl ?_
  refine bv_cM (As := []) (rest := [.int v]) C rfl k2 ml_L_183 im_X9_eventCount sel_X9_eventCount ini_X9 cd_X9_eventCount ok_X9_eventCount rfl ⟨by omega, by omega⟩ hR2 rfl (fun _ => rfl) (fun _ => rfl) (Nat.le_of_ble_eq_true rfl) ?_
  exact bv_icmp_eq (j := 884) C rfl (by rw [pc884]; rfl) (fun _ => kk _ _ _ _ _ _ _ _ I1) (fun z => absurd rfl z)
set_option maxRecDepth 100000 in
theorem lc_41 (C : bC p s m args meth c D cA z0 SK SV A 4 RL code tb_L_law) (hX : va_X b L9 xs s s.heap) (hb : b < s.heap.size) (hA : ¬ A b) (had : ad 400 = b) (hn5 : n + 5 ≤ L9) (hL : L9 ≤ 2560) (hK : adK ad SK SV) (hR : 15 ≤ R.frames ∧ 618 ≤ R.locals) (hR2 : cells ≤ R.cells ∧ slots ≤ R.slots) (I : SI g sv σ τ ρ c9 gr) (kk : ∀ (g sv : Nat → Nat → Int32) (σ τ : Nat → Nat → Nat) (ρ : Nat → Nat) (c9 : Nat) (gr : Nat → Nat → Int32) (h : Int64), SI g sv σ τ ρ c9 gr → bV p l e R s m args below meth c D cA shL A 4 tb_L_law Q ad 191 cells slots (layL g sv σ τ ρ c9 gr h) 884 ([(1, .ref 0), (2, .ref 182), (3, .int (nI n)), (0, .ref 400)] : Lc) []) : bV p l e R s m args below meth c D cA shL A 4 tb_L_law Q ad 191 cells slots (layL g sv σ τ ρ c9 gr h) 825 ([(1, .ref 0), (2, .ref 182), (3, .int (nI n)), (0, .ref 400)] : Lc) [] := by
  refine bv_aload_n (n := 1) (x := 0) C rfl rfl ?_
  refine bv_scr C hX hb hA had (n := n) (q := 1) rfl rfl rfl rfl rfl rfl rfl (by omega) hn5 hL ?_
  refine bv_hE C (fun hE => ?_)
  obtain ⟨v, g1, s1, σ1, τ1, ρ1, c1, gr1, h1, I1, k1, k2⟩ := sm_eventKind (l := l) (D := D) (cA := cA) (SK := SK) (SV := SV) (xs (n + 1)) ad (fun o => ad (182 + o)) (aD_X hE) (aD_M hE) hK g sv σ τ ρ c9 gr h I
  refine bv_cX (As := [.int (xs (n + 1))]) (rest := []) C rfl k1 ml_L_184 im_X8_eventKind sel_X8_eventKind ini_X8 cd_X8_eventKind ok_X8_eventKind rfl ⟨by omega, by omega⟩ hR2 rfl (fun _ => rfl) (fun _ => rfl) (Nat.zero_le _) ?_
  refine bv_aload_n (n := 2) (x := 182) C rfl rfl ?_
  refine bv_scr C hX hb hA had (n := n) (q := 1) rfl rfl rfl rfl rfl rfl rfl (by omega) hn5 hL ?_
  refine bv_cM (As := [.int (xs (n + 1))]) (rest := [.int v]) C rfl k2 ml_L_187 im_X9_eventKind sel_X9_eventKind ini_X9 cd_X9_eventKind ok_X9_eventKind rfl ⟨by omega, by omega⟩ hR2 rfl (fun _ => rfl) (fun _ => rfl) (Nat.le_of_ble_eq_true rfl) ?_
  exact bv_icmp_eq (j := 884) C rfl (by rw [pc884]; rfl) (fun _ => kk _ _ _ _ _ _ _ _ I1) (fun z => absurd rfl z)
set_option maxRecDepth 100000 in
theorem lc_42 (C : bC p s m args meth c D cA z0 SK SV A 4 RL code tb_L_law) (hX : va_X b L9 xs s s.heap) (hb : b < s.heap.size) (hA : ¬ A b) (had : ad 400 = b) (hn5 : n + 5 ≤ L9) (hL : L9 ≤ 2560) (hK : adK ad SK SV) (hR : 15 ≤ R.frames ∧ 618 ≤ R.locals) (hR2 : cells ≤ R.cells ∧ slots ≤ R.slots) (I : SI g sv σ τ ρ c9 gr) (kk : ∀ (g sv : Nat → Nat → Int32) (σ τ : Nat → Nat → Nat) (ρ : Nat → Nat) (c9 : Nat) (gr : Nat → Nat → Int32) (h : Int64), SI g sv σ τ ρ c9 gr → bV p l e R s m args below meth c D cA shL A 4 tb_L_law Q ad 191 cells slots (layL g sv σ τ ρ c9 gr h) 884 ([(1, .ref 0), (2, .ref 182), (3, .int (nI n)), (0, .ref 400)] : Lc) []) : bV p l e R s m args below meth c D cA shL A 4 tb_L_law Q ad 191 cells slots (layL g sv σ τ ρ c9 gr h) 842 ([(1, .ref 0), (2, .ref 182), (3, .int (nI n)), (0, .ref 400)] : Lc) [] := by
  refine bv_aload_n (n := 1) (x := 0) C rfl rfl ?_
  refine bv_scr C hX hb hA had (n := n) (q := 1) rfl rfl rfl rfl rfl rfl rfl (by omega) hn5 hL ?_
  refine bv_hE C (fun hE => ?_)
  obtain ⟨v, g1, s1, σ1, τ1, ρ1, c1, gr1, h1, I1, k1, k2⟩ := sm_eventValue (l := l) (D := D) (cA := cA) (SK := SK) (SV := SV) (xs (n + 1)) ad (fun o => ad (182 + o)) (aD_X hE) (aD_M hE) hK g sv σ τ ρ c9 gr h I
  refine bv_cX (As := [.int (xs (n + 1))]) (rest := []) C rfl k1 ml_L_188 im_X8_eventValue sel_X8_eventValue ini_X8 cd_X8_eventValue ok_X8_eventValue rfl ⟨by omega, by omega⟩ hR2 rfl (fun _ => rfl) (fun _ => rfl) (Nat.zero_le _) ?_
  refine bv_aload_n (n := 2) (x := 182) C rfl rfl ?_
  refine bv_scr C hX hb hA had (n := n) (q := 1) rfl rfl rfl rfl rfl rfl rfl (by omega) hn5 hL ?_
  refine bv_cM (As := [.int (xs (n + 1))]) (rest := [.int v]) C rfl k2 ml_L_191 im_X9_eventValue sel_X9_eventValue ini_X9 cd_X9_eventValue ok_X9_eventValue rfl ⟨by omega, by omega⟩ hR2 rfl (fun _ => rfl) (fun _ => rfl) (Nat.le_of_ble_eq_true rfl) ?_
  exact bv_icmp_eq (j := 884) C rfl (by rw [pc884]; rfl) (fun _ => kk _ _ _ _ _ _ _ _ I1) (fun z => absurd rfl z)
set_option maxRecDepth 100000 in
theorem lc_43 (C : bC p s m args meth c D cA z0 SK SV A 4 RL code tb_L_law) (hX : va_X b L9 xs s s.heap) (hb : b < s.heap.size) (hA : ¬ A b) (had : ad 400 = b) (hn5 : n + 5 ≤ L9) (hL : L9 ≤ 2560) (hK : adK ad SK SV) (hR : 15 ≤ R.frames ∧ 618 ≤ R.locals) (hR2 : cells ≤ R.cells ∧ slots ≤ R.slots) (I : SI g sv σ τ ρ c9 gr) (kk : ∀ (g sv : Nat → Nat → Int32) (σ τ : Nat → Nat → Nat) (ρ : Nat → Nat) (c9 : Nat) (gr : Nat → Nat → Int32) (h : Int64), SI g sv σ τ ρ c9 gr → bV p l e R s m args below meth c D cA shL A 4 tb_L_law Q ad 191 cells slots (layL g sv σ τ ρ c9 gr h) 884 ([(1, .ref 0), (2, .ref 182), (3, .int (nI n)), (0, .ref 400)] : Lc) []) : bV p l e R s m args below meth c D cA shL A 4 tb_L_law Q ad 191 cells slots (layL g sv σ τ ρ c9 gr h) 859 ([(1, .ref 0), (2, .ref 182), (3, .int (nI n)), (0, .ref 400)] : Lc) [] := by
  refine bv_aload_n (n := 1) (x := 0) C rfl rfl ?_
  refine bv_scr C hX hb hA had (n := n) (q := 1) rfl rfl rfl rfl rfl rfl rfl (by omega) hn5 hL ?_
  refine bv_hE C (fun hE => ?_)
  obtain ⟨v, g1, s1, σ1, τ1, ρ1, c1, gr1, h1, I1, k1, k2⟩ := sm_eventInterval (l := l) (D := D) (cA := cA) (SK := SK) (SV := SV) (xs (n + 1)) ad (fun o => ad (182 + o)) (aD_X hE) (aD_M hE) hK g sv σ τ ρ c9 gr h I
  refine bv_cX (As := [.int (xs (n + 1))]) (rest := []) C rfl k1 ml_L_192 im_X8_eventInterval sel_X8_eventInterval ini_X8 cd_X8_eventInterval ok_X8_eventInterval rfl ⟨by omega, by omega⟩ hR2 rfl (fun _ => rfl) (fun _ => rfl) (Nat.zero_le _) ?_
  refine bv_aload_n (n := 2) (x := 182) C rfl rfl ?_
  refine bv_scr C hX hb hA had (n := n) (q := 1) rfl rfl rfl rfl rfl rfl rfl (by omega) hn5 hL ?_
  refine bv_cM (As := [.int (xs (n + 1))]) (rest := [.int v]) C rfl k2 ml_L_195 im_X9_eventInterval sel_X9_eventInterval ini_X9 cd_X9_eventInterval ok_X9_eventInterval rfl ⟨by omega, by omega⟩ hR2 rfl (fun _ => rfl) (fun _ => rfl) (Nat.le_of_ble_eq_true rfl) ?_
  exact bv_icmp_eq (j := 884) C rfl (by rw [pc884]; rfl) (fun _ => kk _ _ _ _ _ _ _ _ I1) (fun z => absurd rfl z)
end LK
