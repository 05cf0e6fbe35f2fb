/-! THE LAW: its cases -/
theorem pc884 : pcAt tb_L_law 884 = 1376 := by decide +kernel
section LK
variable {p : Program} {l : Launch} {e : Env} {R : Room} {s : State} {m : MethodId} {args : Array Value} {below : List Frame} {meth : Method} {c : Code} {D : va_G} {cA : FieldType → ClassId} {z0 : Nat} {SK SV : Nat → Nat} {A : Nat → Prop} {Q : State → Prop} {ad : Nat → Nat} {cells slots : Nat} {g sv : Nat → Nat → Int32} {σ τ : Nat → Nat → Nat} {ρ : Nat → Nat} {c9 : Nat} {gr : Nat → Nat → Int32} {h : Int64} {n : Nat}
theorem lc_1 (C : bC p s m args meth c D cA z0 SK SV A 4 RL code tb_L_law) (hK : adK ad SK SV) (hR : 15 ≤ R.frames ∧ 618 ≤ R.locals) (hR2 : cells ≤ R.cells ∧ slots ≤ R.slots) (I : SI g sv σ τ ρ c9 gr) (kk : ∀ (g sv : Nat → Nat → Int32) (σ τ : Nat → Nat → Nat) (ρ : Nat → Nat) (c9 : Nat) (gr : Nat → Nat → Int32) (h : Int64), SI g sv σ τ ρ c9 gr → bV p l e R s m args below meth c D cA shL A 4 tb_L_law Q ad 191 cells slots (layL g sv σ τ ρ c9 gr h) 884 ([(1, .ref 0), (2, .ref 182), (3, .int (nI n)), (0, .ref 400)] : Lc) []) : bV p l e R s m args below meth c D cA shL A 4 tb_L_law Q ad 191 cells slots (layL g sv σ τ ρ c9 gr h) 39 ([(1, .ref 0), (2, .ref 182), (3, .int (nI n)), (0, .ref 400)] : Lc) [] := by
  refine bv_aload_n (n := 1) (x := 0) C rfl rfl ?_
  refine bv_hE C (fun hE => ?_)
  obtain ⟨v, g1, s1, σ1, τ1, ρ1, c1, gr1, h1, I1, k1, k2⟩ := sm_clearText (l := l) (D := D) (cA := cA) (SK := SK) (SV := SV) ad (fun o => ad (182 + o)) (aD_X hE) (aD_M hE) hK g sv σ τ ρ c9 gr h I
  refine bv_cX (As := []) (rest := []) C rfl k1 ml_L_18 im_X8_clearText sel_X8_clearText ini_X8 cd_X8_clearText ok_X8_clearText rfl ⟨by omega, by omega⟩ hR2 rfl (fun _ => rfl) (fun _ => rfl) (Nat.zero_le _) ?_
  refine bv_aload_n (n := 2) (x := 182) C rfl rfl ?_
  refine bv_cM (As := []) (rest := [.int v]) C rfl k2 ml_L_22 im_X9_clearText sel_X9_clearText ini_X9 cd_X9_clearText ok_X9_clearText rfl ⟨by omega, by omega⟩ hR2 rfl (fun _ => rfl) (fun _ => rfl) (Nat.le_of_ble_eq_true rfl) ?_
  exact bv_icmp_eq (j := 884) C rfl (by rw [pc884]; rfl) (fun _ => kk _ _ _ _ _ _ _ _ I1) (fun z => absurd rfl z)
end LK
