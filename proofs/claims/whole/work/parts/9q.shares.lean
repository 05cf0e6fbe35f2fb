def fc_shareBits_r (n S0 S1 : Nat) (a b : Int32) (g s : Nat → Nat → Int32) (ρ : Nat → Nat) (c9 : Nat) : Int32 := (if (hsC (g 1 15) a) = 0 then (-100001) else (if (hsC (g 1 35) b) = 0 then (-100001) else (if (g 1 12) = 0 then (-100000) else ((FP.fdiv (recG g 0 a b n) (shT g n S0 S1)).toInt32))))
set_option maxRecDepth 100000 in
set_option maxHeartbeats 8000000 in
theorem fc_shareBits {l : Launch} {D : va_G} {cA : FieldType → ClassId} {z0 : Nat} {SK SV : Nat → Nat} {ad : Nat → Nat} (hE : aD (fun q => z0 ≤ q) ad 182) (g s : Nat → Nat → Int32) (σ τ : Nat → Nat → Nat) (hσ : pmF σ τ) (ρ : Nat → Nat) (c9 : Nat) (n S0 S1 : Nat) (a b : Int32) (hs : statR g n) (hS0 : g 1 15 = nI S0) (hS1 : g 1 35 = nI S1) (hA : S0 ≤ 16) (hB : S1 ≤ 16) (hk : ¬ g 1 12 = 0 → shOKC g n S0 S1 a b) (hk2 : ¬ hsC (g 1 15) a = 0 → ¬ hsC (g 1 35) b = 0 → ¬ g 1 12 = 0 → 8388608 ≤ (FP.fdiv (recG g 0 a b n) (shT g n S0 S1)).toNat ∧ (FP.fdiv (recG g 0 a b n) (shT g n S0 S1)).toNat ≤ 1065353216) : bF l D cA z0 SK SV ad shF 182 yX8_shareBits cX8_shareBits 3 (some .int) 4 [.ref 0, .int a, .int b] (layF g s σ τ ρ c9) (some (.int (fc_shareBits_r n S0 S1 a b g s ρ c9))) (layF g s σ τ ρ c9) := by
  refine bCT_intro (tb := tb_X8_shareBits) (own := RX8) hE pn_X8 rfl tk_X8_shareBits rfl (Nat.le_of_ble_eq_true rfl) ?_
  intro p e s0 m args below meth c C hr
  refine bv_blk C frk_X8 csk_X8 4 4 rfl (L1 := ([(0, .ref 0), (1, .int a), (2, .int b)] : Lc)) (st1 := ([.int a, .ref 7] : List Value)) (w1 := (layF g s σ τ ρ c9)) (by rfl) ?_
  refine bv_eV1 (io := io 0) (N' := 26) (w2 := (layF g s σ τ ρ c9)) C rfl (cs_hasSector_1 (io_aD (b := 0) (by decide) hE) g (σ 0) (τ 0) (hσ 0 (by decide)) a) ml_X8_192 im_X7_hasSector sel_X7_hasSector ini_X7 cd_X7_hasSector ok_X7_hasSector rfl ⟨Nat.le_of_ble_eq_true rfl, Nat.le_of_ble_eq_true rfl⟩ ⟨Nat.zero_le _, Nat.zero_le _⟩ (by decide) rfl rfl rfl (rest := ([] : List Value)) rfl (Nat.le_of_ble_eq_true rfl) (emb_F0 hσ) (aft_F0i hσ) rfl ?_
  refine bv_if_eq (j := 12) C rfl rfl (fun c1 => ?_) (fun c1 => ?_)
  · refine bv_blk C frk_X8 csk_X8 1 13 rfl (L1 := ([(0, .ref 0), (1, .int a), (2, .int b)] : Lc)) (st1 := ([.int (-100001)] : List Value)) (w1 := (layF g s σ τ ρ c9)) (by rfl) ?_
    exact bv_iret C rfl hr rfl ⟨by (exact congrArg (fun x => some (Value.int x)) (((if_pos c1).trans rfl)).symm), by (exact congrArg (fun x => x) (rfl).symm)⟩
  · refine bv_blk C frk_X8 csk_X8 4 10 rfl (L1 := ([(0, .ref 0), (1, .int a), (2, .int b)] : Lc)) (st1 := ([.int b, .ref 9] : List Value)) (w1 := (layF g s σ τ ρ c9)) (by rfl) ?_
    refine bv_eV1 (io := io 0) (N' := 26) (w2 := (layF g s σ τ ρ c9)) C rfl (cs_hasSector_3 (io_aD (b := 0) (by decide) hE) g (σ 0) (τ 0) (hσ 0 (by decide)) b) ml_X8_192 im_X7_hasSector sel_X7_hasSector ini_X7 cd_X7_hasSector ok_X7_hasSector rfl ⟨Nat.le_of_ble_eq_true rfl, Nat.le_of_ble_eq_true rfl⟩ ⟨Nat.zero_le _, Nat.zero_le _⟩ (by decide) rfl rfl rfl (rest := ([] : List Value)) rfl (Nat.le_of_ble_eq_true rfl) (emb_F0 hσ) (aft_F0i hσ) rfl ?_
    refine bv_if_ne (j := 14) C rfl rfl (fun c2 => ?_) (fun c2 => ?_)
    · refine bv_blk C frk_X8 csk_X8 3 17 rfl (L1 := ([(0, .ref 0), (1, .int a), (2, .int b)] : Lc)) (st1 := ([.int (g 1 12)] : List Value)) (w1 := (layF g s σ τ ρ c9)) (by rfl) ?_
      refine bv_if_ne (j := 20) C rfl rfl (fun c3 => ?_) (fun c3 => ?_)
      · refine bv_blk C frk_X8 csk_X8 4 24 rfl (L1 := ([(0, .ref 0), (1, .int a), (2, .int b)] : Lc)) (st1 := ([.int b, .int a, .ref 6] : List Value)) (w1 := (layF g s σ τ ρ c9)) (by rfl) ?_
        refine bv_eV1 (io := io 0) (N' := 26) (w2 := (layF g s σ τ ρ c9)) C rfl (cs_shareP (io_aD (b := 0) (by decide) hE) g (σ 0) (τ 0) (hσ 0 (by decide)) n S0 S1 a b hs hS0 hS1 hA hB (hk c3)) ml_X8_231 im_X6_shareOf sel_X6_shareOf ini_X6 cd_X6_shareOf ok_X6_shareOf rfl ⟨Nat.le_of_ble_eq_true rfl, Nat.le_of_ble_eq_true rfl⟩ ⟨Nat.zero_le _, Nat.zero_le _⟩ (by decide) rfl rfl rfl (rest := ([] : List Value)) rfl (Nat.le_of_ble_eq_true rfl) (emb_F0 hσ) (aft_F0i hσ) rfl ?_
        refine bv_fS1 C rfl (cs_bitsOf hE _ (FP.fdiv (recG g 0 a b n) (shT g n S0 S1)) (hk2 c1 c2 c3).1 (hk2 c1 c2 c3).2) ml_X8_236 st_X4_bitsOf ini_X4 cd_X4_bitsOf ok_X4_bitsOf rfl ⟨Nat.le_of_ble_eq_true rfl, Nat.le_of_ble_eq_true rfl⟩ ⟨Nat.zero_le _, Nat.zero_le _⟩ (rest := ([] : List Value)) rfl (Nat.le_of_ble_eq_true rfl) ?_
        exact bv_iret C rfl hr rfl ⟨by (exact congrArg (fun x => some (Value.int x)) (((if_neg c1).trans ((if_neg c2).trans ((if_neg c3).trans rfl)))).symm), by (exact congrArg (fun x => x) (rfl).symm)⟩
      · refine bv_blk C frk_X8 csk_X8 1 19 rfl (L1 := ([(0, .ref 0), (1, .int a), (2, .int b)] : Lc)) (st1 := ([.int (-100000)] : List Value)) (w1 := (layF g s σ τ ρ c9)) (by rfl) ?_
        refine bv_goto (j := 26) C rfl rfl ?_
        exact bv_iret C rfl hr rfl ⟨by (exact congrArg (fun x => some (Value.int x)) (((if_neg c1).trans ((if_neg c2).trans ((if_pos c3).trans rfl)))).symm), by (exact congrArg (fun x => x) (rfl).symm)⟩
    · refine bv_blk C frk_X8 csk_X8 1 13 rfl (L1 := ([(0, .ref 0), (1, .int a), (2, .int b)] : Lc)) (st1 := ([.int (-100001)] : List Value)) (w1 := (layF g s σ τ ρ c9)) (by rfl) ?_
      exact bv_iret C rfl hr rfl ⟨by (exact congrArg (fun x => some (Value.int x)) (((if_neg c1).trans ((if_pos c2).trans rfl))).symm), by (exact congrArg (fun x => x) (rfl).symm)⟩
theorem rl_sI {n : Nat} {a0 b0 a b : Nat → Nat → Int32} (h : rlG n a0 b0 a b) (i : Nat) : ∀ (q j : Nat) (t : UInt32), shI b n i q j t = shI a n i q j t
  | 0, _, _ => rfl
  | q + 1, j, t => by rw [shI_s, shI_s, rl_rec h (by omega) n (Nat.le_refl _), rl_sI h i q]
theorem rl_sO {n S1 : Nat} {a0 b0 a b : Nat → Nat → Int32} (h : rlG n a0 b0 a b) : ∀ (r i : Nat) (t : UInt32), shO b n S1 r i t = shO a n S1 r i t
  | 0, _, _ => rfl
  | r + 1, i, t => by rw [shO_nx, shO_nx, rl_sI h, rl_sO h r]
theorem rl_sT {n S0 S1 : Nat} {a0 b0 a b : Nat → Nat → Int32} (h : rlG n a0 b0 a b) : shT b n S0 S1 = shT a n S0 S1 := rl_sO h _ _ _
theorem ix_of {x y : Int32} {n : Nat} (hy : y = nI n) (hn : n ≤ 16) (h : ¬ hsC y x = 0) : ∃ i : Nat, i < n ∧ x = nI i := by
  rw [hsC_0 hy (by omega), Classical.not_not, lp hy (by omega), hy, Int32.not_lt, Int32.not_le, Int32.le_iff_toInt_le, Int32.lt_iff_toInt_lt, nI_toInt (by omega), show (0 : Int32).toInt = 0 from rfl] at h
  refine ⟨x.toInt.toNat, by omega, Int32.toInt_inj.mp ?_⟩
  rw [nI_toInt (by omega)]
  omega
theorem sm_share {l : Launch} {D : va_G} {cA : FieldType → ClassId} {z0 : Nat} {SK SV : Nat → Nat} (a b : Int32) : smI l D cA z0 SK SV yX8_share cX8_share 3 4 yX9_share cX9_share 3 6 [.int a, .int b] := by
  intro ad am hE hM hK g s σ τ ρ c9 gr h I
  obtain ⟨n, S, hg, hr, le⟩ := I.2.1
  have hσ := I.pm
  have hb := I.bo
  have hρ := I.rho
  have hc := I.c6
  have hv := I.sv
  have rl := inv_rl hg le
  have hs := inv_st hg
  have hs2 := inv_st hr
  obtain ⟨k1, k2, k3, k4, k5, k6⟩ := inv_sec hg
  obtain ⟨j1, j2, -⟩ := inv_sec hr
  have e12 := n_12 (g := g) hs.1 hs.2.1
  have K := fc_share (l := l) (D := D) (cA := cA) (SK := SK) (SV := SV) hE g s σ τ hσ ρ c9 n (S 0) (S 1) a b hs k1 k2 k4 k6 (fun z => sh_K hs (fun z2 => z (by rw [e12]; exact z2)) k3 k4 k5 k6 a b)
  have q0 := hsC_0 (x := a) k1 (by omega)
  have q1 := hsC_0 (x := b) k2 (by omega)
  have e15 : gr 1 15 = g 1 15 := j1.trans k1.symm
  have e35 : gr 1 35 = g 1 35 := j2.trans k2.symm
  unfold fc_share_r at K
  by_cases u0 : 0 ≤ a ∧ a ≤ g 1 15 - 1
  · have w0 : ¬ hsC (g 1 15) a = 0 := by rw [q0]; exact fun z => z u0
    rw [if_neg w0] at K
    by_cases u1 : 0 ≤ b ∧ b ≤ g 1 35 - 1
    · have w1 : ¬ hsC (g 1 35) b = 0 := by rw [q1]; exact fun z => z u1
      rw [if_neg w1] at K
      refine sm_mk (h1 := h) K (ct_share_t hM gr h n (S 0) (S 1) a b hs2 j1 j2 k4 k6 (by rw [e15, e35]; exact ⟨u0, u1⟩) (fun z => (sh_K hs2 z k3 k4 k5 k6 a b).1)) I ?_ rfl rfl
      by_cases c : n = 0
      · rw [if_pos c, if_pos (by rw [e12]; exact c)]
      · rw [if_neg c, if_neg (by rw [e12]; exact c), rl_rec rl (by omega) n (Nat.le_refl _), rl_sT rl]
    · have w1 : hsC (g 1 35) b = 0 := by rw [q1]; exact u1
      rw [if_pos w1] at K
      exact sm_mk (h1 := h) K (ct_share_f hM gr h a b (by rw [e15, e35]; exact fun z => u1 z.2)) I rfl rfl rfl
  · have w0 : hsC (g 1 15) a = 0 := by rw [q0]; exact u0
    rw [if_pos w0] at K
    exact sm_mk (h1 := h) K (ct_share_f hM gr h a b (by rw [e15, e35]; exact fun z => u0 z.1)) I rfl rfl rfl
theorem sm_shareBits {l : Launch} {D : va_G} {cA : FieldType → ClassId} {z0 : Nat} {SK SV : Nat → Nat} (a b : Int32) : smI l D cA z0 SK SV yX8_shareBits cX8_shareBits 3 4 yX9_shareBits cX9_shareBits 3 6 [.int a, .int b] := by
  intro ad am hE hM hK g s σ τ ρ c9 gr h I
  obtain ⟨n, S, hg, hr, le⟩ := I.2.1
  have hσ := I.pm
  have hb := I.bo
  have hρ := I.rho
  have hc := I.c6
  have hv := I.sv
  have rl := inv_rl hg le
  have hs := inv_st hg
  have hs2 := inv_st hr
  obtain ⟨k1, k2, k3, k4, k5, k6⟩ := inv_sec hg
  obtain ⟨j1, j2, -⟩ := inv_sec hr
  have e12 := n_12 (g := g) hs.1 hs.2.1
  have K := fc_shareBits (l := l) (D := D) (cA := cA) (SK := SK) (SV := SV) hE g s σ τ hσ ρ c9 n (S 0) (S 1) a b hs k1 k2 k4 k6 (fun z => sh_K hs (fun z2 => z (by rw [e12]; exact z2)) k3 k4 k5 k6 a b) (fun u0 u1 u2 => by
      obtain ⟨i, i1, rfl⟩ := ix_of k1 k4 u0
      obtain ⟨j, i2, rfl⟩ := ix_of k2 k6 u1
      exact sh_B hs (fun z => u2 (by rw [e12]; exact z)) k3 k4 k5 k6 i1 i2)
  have q0 := hsC_0 (x := a) k1 (by omega)
  have q1 := hsC_0 (x := b) k2 (by omega)
  have e15 : gr 1 15 = g 1 15 := j1.trans k1.symm
  have e35 : gr 1 35 = g 1 35 := j2.trans k2.symm
  unfold fc_shareBits_r at K
  by_cases u0 : 0 ≤ a ∧ a ≤ g 1 15 - 1
  · have w0 : ¬ hsC (g 1 15) a = 0 := by rw [q0]; exact fun z => z u0
    rw [if_neg w0] at K
    by_cases u1 : 0 ≤ b ∧ b ≤ g 1 35 - 1
    · have w1 : ¬ hsC (g 1 35) b = 0 := by rw [q1]; exact fun z => z u1
      rw [if_neg w1] at K
      refine sm_mk (h1 := h) K (ct_shareBits_t hM gr h n (S 0) (S 1) a b hs2 j1 j2 k4 k6 (by rw [e15, e35]; exact ⟨u0, u1⟩) (fun z => (sh_K hs2 z k3 k4 k5 k6 a b).1)) I ?_ rfl rfl
      by_cases c : n = 0
      · rw [if_pos c, if_pos (by rw [e12]; exact c)]
      · rw [if_neg c, if_neg (by rw [e12]; exact c), rl_rec rl (by omega) n (Nat.le_refl _), rl_sT rl]
    · have w1 : hsC (g 1 35) b = 0 := by rw [q1]; exact u1
      rw [if_pos w1] at K
      exact sm_mk (h1 := h) K (ct_shareBits_f hM gr h a b (by rw [e15, e35]; exact fun z => u1 z.2)) I rfl rfl rfl
  · have w0 : hsC (g 1 15) a = 0 := by rw [q0]; exact u0
    rw [if_pos w0] at K
    exact sm_mk (h1 := h) K (ct_shareBits_f hM gr h a b (by rw [e15, e35]; exact fun z => u0 z.1)) I rfl rfl rfl
