/-! THE LAW: the cases of a bool and of the digest -/
def blB (x : Int32) : Int32 := if x = 0 then Int32.ofInt 0 else Int32.ofInt 1
theorem blB_01 (x : Int32) : blB x = 0 ∨ blB x = 1 := by
  unfold blB
  split
  · exact Or.inl rfl
  · exact Or.inr rfl
section LB
variable {p : Program} {l : Launch} {e : Env} {R : Room} {s : State} {m : MethodId} {args : Array Value} {below : List Frame} {meth : Method} {c : Code} {D : va_G} {cA : FieldType → ClassId} {z0 : Nat} {SK SV : Nat → Nat} {sh : Sh} {A : Nat → Prop} {nL : Nat} {own : String} {cc : ByteArray} {tb : Tb} {Q : State → Prop} {ad : Nat → Nat} {N cells slots : Nat} {w w1 : Wd} {i j pc : Nat} {L : Lc} {st r : List Value}
/-- ifeq 7, iconst 1, goto 4, iconst 0 -/
theorem bv_boo (C : bC p s m args meth c D cA z0 SK SV A nL own cc tb) {p0 p1 p2 p3 : Nat} {x : Int32} (t0 : tb[i]? = some (p0, .ifCond .eq 7)) (t1 : tb[i + 1]? = some (p1, .iconst 1)) (t2 : tb[i + 2]? = some (p2, .goto 4)) (t3 : tb[i + 3]? = some (p3, .iconst 0)) (h0 : (p0 : Int) + 7 = (p3 : Int)) (h2 : (p2 : Int) + 4 = ((p3 + 1 : Nat) : Int)) (k : bV p l e R s m args below meth c D cA sh A nL tb Q ad N cells slots w (i + 4) L (.int (blB x) :: st)) : bV p l e R s m args below meth c D cA sh A nL tb Q ad N cells slots w i L (.int x :: st) := by
  have h9 : pcAt tb (i + 4) = p3 + 1 := pcAt_nx C.2.2.2.2.2.2.1 t3 rfl
  refine bv_if_eq (j := i + 3) C t0 (by rw [pcAt_of t3]; exact h0) (fun hx => ?_) (fun hx => ?_)
  · refine bv_iconst C t3 ?_
    unfold blB at k
    rw [if_pos hx] at k
    exact k
  · refine bv_iconst C t1 ?_
    refine bv_goto (j := i + 4) C t2 (by rw [h9]; exact h2) ?_
    unfold blB at k
    rw [if_neg hx] at k
    exact k
theorem lcmp_self (v : Int64) : lg_cmp v v = 0 := (lg_cmp_eq v v).mpr rfl
end LB
section LK
variable {p : Program} {l : Launch} {e : Env} {R : Room} {s : State} {m : MethodId} {args : Array Value} {below : List Frame} {meth : Method} {c : Code} {D : va_G} {cA : FieldType → ClassId} {z0 : Nat} {SK SV : Nat → Nat} {A : Nat → Prop} {Q : State → Prop} {ad : Nat → Nat} {cells slots : Nat} {g sv : Nat → Nat → Int32} {σ τ : Nat → Nat → Nat} {ρ : Nat → Nat} {c9 : Nat} {gr : Nat → Nat → Int32} {h : Int64} {n b L9 : Nat} {xs : Nat → Int32}
set_option maxRecDepth 100000 in
theorem lc_12 (C : bC p s m args meth c D cA z0 SK SV A 4 RL code tb_L_law) (hX : va_X b L9 xs s s.heap) (hb : b < s.heap.size) (hA : ¬ A b) (had : ad 400 = b) (hn5 : n + 5 ≤ L9) (hL : L9 ≤ 2560) (hK : adK ad SK SV) (hR : 15 ≤ R.frames ∧ 618 ≤ R.locals) (hR2 : cells ≤ R.cells ∧ slots ≤ R.slots) (I : SI g sv σ τ ρ c9 gr) (kk : ∀ (g sv : Nat → Nat → Int32) (σ τ : Nat → Nat → Nat) (ρ : Nat → Nat) (c9 : Nat) (gr : Nat → Nat → Int32) (h : Int64), SI g sv σ τ ρ c9 gr → bV p l e R s m args below meth c D cA shL A 4 tb_L_law Q ad 191 cells slots (layL g sv σ τ ρ c9 gr h) 884 ([(1, .ref 0), (2, .ref 182), (3, .int (nI n)), (0, .ref 400)] : Lc) []) : bV p l e R s m args below meth c D cA shL A 4 tb_L_law Q ad 191 cells slots (layL g sv σ τ ρ c9 gr h) 296 ([(1, .ref 0), (2, .ref 182), (3, .int (nI n)), (0, .ref 400)] : Lc) [] := by
  refine bv_aload_n (n := 1) (x := 0) C rfl rfl ?_
  refine bv_scr C hX hb hA had (n := n) (q := 1) rfl rfl rfl rfl rfl rfl rfl (by omega) hn5 hL ?_
  refine bv_boo C rfl rfl rfl rfl rfl rfl ?_
  refine bv_scr C hX hb hA had (n := n) (q := 2) rfl rfl rfl rfl rfl rfl rfl (by omega) hn5 hL ?_
  refine bv_hE C (fun hE => ?_)
  obtain ⟨v, g1, s1, σ1, τ1, ρ1, c1, gr1, h1, I1, k1, k2⟩ := sm_setTracking (l := l) (D := D) (cA := cA) (SK := SK) (SV := SV) (blB (xs (n + 1))) (xs (n + 2)) (blB_01 _) ad (fun o => ad (182 + o)) (aD_X hE) (aD_M hE) hK g sv σ τ ρ c9 gr h I
  refine bv_cX (As := [.int (blB (xs (n + 1))), .int (xs (n + 2))]) (rest := []) C rfl k1 ml_L_66 im_X8_setTracking sel_X8_setTracking ini_X8 cd_X8_setTracking ok_X8_setTracking rfl ⟨by omega, by omega⟩ hR2 rfl (fun _ => rfl) (fun _ => rfl) (Nat.zero_le _) ?_
  refine bv_aload_n (n := 2) (x := 182) C rfl rfl ?_
  refine bv_scr C hX hb hA had (n := n) (q := 1) rfl rfl rfl rfl rfl rfl rfl (by omega) hn5 hL ?_
  refine bv_boo C rfl rfl rfl rfl rfl rfl ?_
  refine bv_scr C hX hb hA had (n := n) (q := 2) rfl rfl rfl rfl rfl rfl rfl (by omega) hn5 hL ?_
  refine bv_cM (As := [.int (blB (xs (n + 1))), .int (xs (n + 2))]) (rest := [.int v]) C rfl k2 ml_L_70 im_X9_setTracking sel_X9_setTracking ini_X9 cd_X9_setTracking ok_X9_setTracking rfl ⟨by omega, by omega⟩ hR2 rfl (fun _ => rfl) (fun _ => rfl) (Nat.le_of_ble_eq_true rfl) ?_
  exact bv_icmp_eq (j := 884) C rfl (by rw [pc884]; rfl) (fun _ => kk _ _ _ _ _ _ _ _ I1) (fun z => absurd rfl z)
set_option maxRecDepth 100000 in
theorem lc_13 (C : bC p s m args meth c D cA z0 SK SV A 4 RL code tb_L_law) (hX : va_X b L9 xs s s.heap) (hb : b < s.heap.size) (hA : ¬ A b) (had : ad 400 = b) (hn5 : n + 5 ≤ L9) (hL : L9 ≤ 2560) (hK : adK ad SK SV) (hR : 15 ≤ R.frames ∧ 618 ≤ R.locals) (hR2 : cells ≤ R.cells ∧ slots ≤ R.slots) (I : SI g sv σ τ ρ c9 gr) (kk : ∀ (g sv : Nat → Nat → Int32) (σ τ : Nat → Nat → Nat) (ρ : Nat → Nat) (c9 : Nat) (gr : Nat → Nat → Int32) (h : Int64), SI g sv σ τ ρ c9 gr → bV p l e R s m args below meth c D cA shL A 4 tb_L_law Q ad 191 cells slots (layL g sv σ τ ρ c9 gr h) 884 ([(1, .ref 0), (2, .ref 182), (3, .int (nI n)), (0, .ref 400)] : Lc) []) : bV p l e R s m args below meth c D cA shL A 4 tb_L_law Q ad 191 cells slots (layL g sv σ τ ρ c9 gr h) 331 ([(1, .ref 0), (2, .ref 182), (3, .int (nI n)), (0, .ref 400)] : Lc) [] := by
  refine bv_aload_n (n := 1) (x := 0) C rfl rfl ?_
  refine bv_scr C hX hb hA had (n := n) (q := 1) rfl rfl rfl rfl rfl rfl rfl (by omega) hn5 hL ?_
  refine bv_scr C hX hb hA had (n := n) (q := 2) rfl rfl rfl rfl rfl rfl rfl (by omega) hn5 hL ?_
  refine bv_boo C rfl rfl rfl rfl rfl rfl ?_
  refine bv_hE C (fun hE => ?_)
  obtain ⟨v, g1, s1, σ1, τ1, ρ1, c1, gr1, h1, I1, k1, k2⟩ := sm_setRecovery (l := l) (D := D) (cA := cA) (SK := SK) (SV := SV) (xs (n + 1)) (blB (xs (n + 2))) (blB_01 _) ad (fun o => ad (182 + o)) (aD_X hE) (aD_M hE) hK g sv σ τ ρ c9 gr h I
  refine bv_cX (As := [.int (xs (n + 1)), .int (blB (xs (n + 2)))]) (rest := []) C rfl k1 ml_L_71 im_X8_setRecovery sel_X8_setRecovery ini_X8 cd_X8_setRecovery ok_X8_setRecovery rfl ⟨by omega, by omega⟩ hR2 rfl (fun _ => rfl) (fun _ => rfl) (Nat.zero_le _) ?_
  refine bv_aload_n (n := 2) (x := 182) C rfl rfl ?_
  refine bv_scr C hX hb hA had (n := n) (q := 1) rfl rfl rfl rfl rfl rfl rfl (by omega) hn5 hL ?_
  refine bv_scr C hX hb hA had (n := n) (q := 2) rfl rfl rfl rfl rfl rfl rfl (by omega) hn5 hL ?_
  refine bv_boo C rfl rfl rfl rfl rfl rfl ?_
  refine bv_cM (As := [.int (xs (n + 1)), .int (blB (xs (n + 2)))]) (rest := [.int v]) C rfl k2 ml_L_75 im_X9_setRecovery sel_X9_setRecovery ini_X9 cd_X9_setRecovery ok_X9_setRecovery rfl ⟨by omega, by omega⟩ hR2 rfl (fun _ => rfl) (fun _ => rfl) (Nat.le_of_ble_eq_true rfl) ?_
  exact bv_icmp_eq (j := 884) C rfl (by rw [pc884]; rfl) (fun _ => kk _ _ _ _ _ _ _ _ I1) (fun z => absurd rfl z)
set_option maxRecDepth 100000 in
theorem lc_44 (C : bC p s m args meth c D cA z0 SK SV A 4 RL code tb_L_law) (hX : va_X b L9 xs s s.heap) (hb : b < s.heap.size) (hA : ¬ A b) (had : ad 400 = b) (hn5 : n + 5 ≤ L9) (hL : L9 ≤ 2560) (hK : adK ad SK SV) (hR : 15 ≤ R.frames ∧ 618 ≤ R.locals) (hR2 : cells ≤ R.cells ∧ slots ≤ R.slots) (I : SI g sv σ τ ρ c9 gr) (kk : ∀ (g sv : Nat → Nat → Int32) (σ τ : Nat → Nat → Nat) (ρ : Nat → Nat) (c9 : Nat) (gr : Nat → Nat → Int32) (h : Int64), SI g sv σ τ ρ c9 gr → bV p l e R s m args below meth c D cA shL A 4 tb_L_law Q ad 191 cells slots (layL g sv σ τ ρ c9 gr h) 884 ([(1, .ref 0), (2, .ref 182), (3, .int (nI n)), (0, .ref 400)] : Lc) []) : bV p l e R s m args below meth c D cA shL A 4 tb_L_law Q ad 191 cells slots (layL g sv σ τ ρ c9 gr h) 876 ([(1, .ref 0), (2, .ref 182), (3, .int (nI n)), (0, .ref 400)] : Lc) [] := by
  refine bv_aload_n (n := 1) (x := 0) C rfl rfl ?_
  refine bv_hE C (fun hE => ?_)
  obtain ⟨v, g1, s1, σ1, τ1, ρ1, c1, gr1, h1, I1, k1, k2⟩ := sm_digest (l := l) (D := D) (cA := cA) (SK := SK) (SV := SV)  ad (fun o => ad (182 + o)) (aD_X hE) (aD_M hE) hK g sv σ τ ρ c9 gr h I
  refine bv_cX (As := []) (rest := []) C rfl k1 ml_L_196 im_X8_digest sel_X8_digest ini_X8 cd_X8_digest ok_X8_digest rfl ⟨by omega, by omega⟩ hR2 rfl (fun _ => rfl) (fun _ => rfl) (Nat.zero_le _) ?_
  refine bv_aload_n (n := 2) (x := 182) C rfl rfl ?_
  refine bv_cM (As := []) (rest := [.long v]) C rfl k2 ml_L_200 im_X9_digest sel_X9_digest ini_X9 cd_X9_digest ok_X9_digest rfl ⟨by omega, by omega⟩ hR2 rfl (fun _ => rfl) (fun _ => rfl) (Nat.le_of_ble_eq_true rfl) ?_
  refine bv_lcmp C rfl ?_
  rw [lcmp_self]
  exact bv_if_eq (j := 884) C rfl (by rw [pc884]; rfl) (fun _ => kk _ _ _ _ _ _ _ _ I1) (fun z => absurd rfl z)
end LK
