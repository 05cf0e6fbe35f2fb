/-! THE LAW: shares, the switch, the loop, the start, the end -/
section LS
variable {p : Program} {l : Launch} {e : Env} {R : Room} {s : State} {m : MethodId} {args : Array Value} {below : List Frame} {meth : Method} {c : Code} {D : va_G} {cA : FieldType → ClassId} {z0 : Nat} {SK SV : Nat → Nat} {A : Nat → Prop} {Q : State → Prop} {ad : Nat → Nat} {cells slots : Nat} {g sv : Nat → Nat → Int32} {σ τ : Nat → Nat → Nat} {ρ : Nat → Nat} {c9 : Nat} {gr : Nat → Nat → Int32} {h : Int64} {n b L9 : Nat} {xs : Nat → Int32}
set_option maxRecDepth 100000 in
theorem lc_34 (C : bC p s m args meth c D cA z0 SK SV A 4 RL code tb_L_law) (hX : va_X b L9 xs s s.heap) (hb : b < s.heap.size) (hA : ¬ A b) (had : ad 400 = b) (hn5 : n + 5 ≤ L9) (hL : L9 ≤ 2560) (hK : adK ad SK SV) (hR : 15 ≤ R.frames ∧ 618 ≤ R.locals) (hR2 : cells ≤ R.cells ∧ slots ≤ R.slots) (I : SI g sv σ τ ρ c9 gr) (kk : ∀ (g sv : Nat → Nat → Int32) (σ τ : Nat → Nat → Nat) (ρ : Nat → Nat) (c9 : Nat) (gr : Nat → Nat → Int32) (h : Int64), SI g sv σ τ ρ c9 gr → bV p l e R s m args below meth c D cA shL A 4 tb_L_law Q ad 191 cells slots (layL g sv σ τ ρ c9 gr h) 884 ([(1, .ref 0), (2, .ref 182), (3, .int (nI n)), (0, .ref 400)] : Lc) []) : bV p l e R s m args below meth c D cA shL A 4 tb_L_law Q ad 191 cells slots (layL g sv σ τ ρ c9 gr h) 696 ([(1, .ref 0), (2, .ref 182), (3, .int (nI n)), (0, .ref 400)] : Lc) [] := by
  refine bv_aload_n (n := 1) (x := 0) C rfl rfl ?_
  refine bv_scr C hX hb hA had (n := n) (q := 1) rfl rfl rfl rfl rfl rfl rfl (by omega) hn5 hL ?_
  refine bv_scr C hX hb hA had (n := n) (q := 2) rfl rfl rfl rfl rfl rfl rfl (by omega) hn5 hL ?_
  refine bv_hE C (fun hE => ?_)
  obtain ⟨v, g1, s1, σ1, τ1, ρ1, c1, gr1, h1, I1, k1, k2⟩ := sm_share (l := l) (D := D) (cA := cA) (SK := SK) (SV := SV) (xs (n + 1)) (xs (n + 2)) ad (fun o => ad (182 + o)) (aD_X hE) (aD_M hE) hK g sv σ τ ρ c9 gr h I
  refine bv_cX (As := [.int (xs (n + 1)), .int (xs (n + 2))]) (rest := []) C rfl k1 ml_L_156 im_X8_share sel_X8_share ini_X8 cd_X8_share ok_X8_share rfl ⟨by omega, by omega⟩ hR2 rfl (fun _ => rfl) (fun _ => rfl) (Nat.zero_le _) ?_
  refine bv_aload_n (n := 2) (x := 182) C rfl rfl ?_
  refine bv_scr C hX hb hA had (n := n) (q := 1) rfl rfl rfl rfl rfl rfl rfl (by omega) hn5 hL ?_
  refine bv_scr C hX hb hA had (n := n) (q := 2) rfl rfl rfl rfl rfl rfl rfl (by omega) hn5 hL ?_
  refine bv_cM (As := [.int (xs (n + 1)), .int (xs (n + 2))]) (rest := [.int v]) C rfl k2 ml_L_159 im_X9_share sel_X9_share ini_X9 cd_X9_share ok_X9_share rfl ⟨by omega, by omega⟩ hR2 rfl (fun _ => rfl) (fun _ => rfl) (Nat.le_of_ble_eq_true rfl) ?_
  exact bv_icmp_eq (j := 884) C rfl (by rw [pc884]; rfl) (fun _ => kk _ _ _ _ _ _ _ _ I1) (fun z => absurd rfl z)
set_option maxRecDepth 100000 in
theorem lc_35 (C : bC p s m args meth c D cA z0 SK SV A 4 RL code tb_L_law) (hX : va_X b L9 xs s s.heap) (hb : b < s.heap.size) (hA : ¬ A b) (had : ad 400 = b) (hn5 : n + 5 ≤ L9) (hL : L9 ≤ 2560) (hK : adK ad SK SV) (hR : 15 ≤ R.frames ∧ 618 ≤ R.locals) (hR2 : cells ≤ R.cells ∧ slots ≤ R.slots) (I : SI g sv σ τ ρ c9 gr) (kk : ∀ (g sv : Nat → Nat → Int32) (σ τ : Nat → Nat → Nat) (ρ : Nat → Nat) (c9 : Nat) (gr : Nat → Nat → Int32) (h : Int64), SI g sv σ τ ρ c9 gr → bV p l e R s m args below meth c D cA shL A 4 tb_L_law Q ad 191 cells slots (layL g sv σ τ ρ c9 gr h) 884 ([(1, .ref 0), (2, .ref 182), (3, .int (nI n)), (0, .ref 400)] : Lc) []) : bV p l e R s m args below meth c D cA shL A 4 tb_L_law Q ad 191 cells slots (layL g sv σ τ ρ c9 gr h) 723 ([(1, .ref 0), (2, .ref 182), (3, .int (nI n)), (0, .ref 400)] : Lc) [] := by
  refine bv_aload_n (n := 1) (x := 0) C rfl rfl ?_
  refine bv_scr C hX hb hA had (n := n) (q := 1) rfl rfl rfl rfl rfl rfl rfl (by omega) hn5 hL ?_
  refine bv_scr C hX hb hA had (n := n) (q := 2) rfl rfl rfl rfl rfl rfl rfl (by omega) hn5 hL ?_
  refine bv_hE C (fun hE => ?_)
  obtain ⟨v, g1, s1, σ1, τ1, ρ1, c1, gr1, h1, I1, k1, k2⟩ := sm_shareBits (l := l) (D := D) (cA := cA) (SK := SK) (SV := SV) (xs (n + 1)) (xs (n + 2)) ad (fun o => ad (182 + o)) (aD_X hE) (aD_M hE) hK g sv σ τ ρ c9 gr h I
  refine bv_cX (As := [.int (xs (n + 1)), .int (xs (n + 2))]) (rest := []) C rfl k1 ml_L_160 im_X8_shareBits sel_X8_shareBits ini_X8 cd_X8_shareBits ok_X8_shareBits rfl ⟨by omega, by omega⟩ hR2 rfl (fun _ => rfl) (fun _ => rfl) (Nat.zero_le _) ?_
  refine bv_aload_n (n := 2) (x := 182) C rfl rfl ?_
  refine bv_scr C hX hb hA had (n := n) (q := 1) rfl rfl rfl rfl rfl rfl rfl (by omega) hn5 hL ?_
  refine bv_scr C hX hb hA had (n := n) (q := 2) rfl rfl rfl rfl rfl rfl rfl (by omega) hn5 hL ?_
  refine bv_cM (As := [.int (xs (n + 1)), .int (xs (n + 2))]) (rest := [.int v]) C rfl k2 ml_L_163 im_X9_shareBits sel_X9_shareBits ini_X9 cd_X9_shareBits ok_X9_shareBits rfl ⟨by omega, by omega⟩ hR2 rfl (fun _ => rfl) (fun _ => rfl) (Nat.le_of_ble_eq_true rfl) ?_
  exact bv_icmp_eq (j := 884) C rfl (by rw [pc884]; rfl) (fun _ => kk _ _ _ _ _ _ _ _ I1) (fun z => absurd rfl z)
theorem pq_0 : pcAt tb_L_law 22 = 228 := by decide +kernel
theorem pq_1 : pcAt tb_L_law 39 = 251 := by decide +kernel
theorem pq_2 : pcAt tb_L_law 46 = 264 := by decide +kernel
theorem pq_3 : pcAt tb_L_law 53 = 277 := by decide +kernel
theorem pq_4 : pcAt tb_L_law 60 = 290 := by decide +kernel
theorem pq_5 : pcAt tb_L_law 107 = 343 := by decide +kernel
theorem pq_6 : pcAt tb_L_law 134 = 376 := by decide +kernel
theorem pq_7 : pcAt tb_L_law 171 = 419 := by decide +kernel
theorem pq_8 : pcAt tb_L_law 188 = 442 := by decide +kernel
theorem pq_9 : pcAt tb_L_law 225 = 485 := by decide +kernel
theorem pq_10 : pcAt tb_L_law 252 = 518 := by decide +kernel
theorem pq_11 : pcAt tb_L_law 269 = 541 := by decide +kernel
theorem pq_12 : pcAt tb_L_law 296 = 574 := by decide +kernel
theorem pq_13 : pcAt tb_L_law 331 = 623 := by decide +kernel
theorem pq_14 : pcAt tb_L_law 366 = 672 := by decide +kernel
theorem pq_15 : pcAt tb_L_law 383 = 695 := by decide +kernel
theorem pq_16 : pcAt tb_L_law 400 = 718 := by decide +kernel
theorem pq_17 : pcAt tb_L_law 417 = 741 := by decide +kernel
theorem pq_18 : pcAt tb_L_law 444 = 774 := by decide +kernel
theorem pq_19 : pcAt tb_L_law 461 = 797 := by decide +kernel
theorem pq_20 : pcAt tb_L_law 468 = 810 := by decide +kernel
theorem pq_21 : pcAt tb_L_law 475 = 823 := by decide +kernel
theorem pq_22 : pcAt tb_L_law 492 = 846 := by decide +kernel
theorem pq_23 : pcAt tb_L_law 519 = 879 := by decide +kernel
theorem pq_24 : pcAt tb_L_law 556 = 922 := by decide +kernel
theorem pq_25 : pcAt tb_L_law 583 = 955 := by decide +kernel
theorem pq_26 : pcAt tb_L_law 590 = 968 := by decide +kernel
theorem pq_27 : pcAt tb_L_law 597 = 981 := by decide +kernel
theorem pq_28 : pcAt tb_L_law 604 = 994 := by decide +kernel
theorem pq_29 : pcAt tb_L_law 611 = 1007 := by decide +kernel
theorem pq_30 : pcAt tb_L_law 618 = 1020 := by decide +kernel
theorem pq_31 : pcAt tb_L_law 645 = 1053 := by decide +kernel
theorem pq_32 : pcAt tb_L_law 682 = 1096 := by decide +kernel
theorem pq_33 : pcAt tb_L_law 689 = 1109 := by decide +kernel
theorem pq_34 : pcAt tb_L_law 696 = 1122 := by decide +kernel
theorem pq_35 : pcAt tb_L_law 723 = 1155 := by decide +kernel
theorem pq_36 : pcAt tb_L_law 750 = 1188 := by decide +kernel
theorem pq_37 : pcAt tb_L_law 767 = 1211 := by decide +kernel
theorem pq_38 : pcAt tb_L_law 774 = 1224 := by decide +kernel
theorem pq_39 : pcAt tb_L_law 801 = 1257 := by decide +kernel
theorem pq_40 : pcAt tb_L_law 818 = 1280 := by decide +kernel
theorem pq_41 : pcAt tb_L_law 825 = 1293 := by decide +kernel
theorem pq_42 : pcAt tb_L_law 842 = 1316 := by decide +kernel
theorem pq_43 : pcAt tb_L_law 859 = 1339 := by decide +kernel
theorem pq_44 : pcAt tb_L_law 876 = 1362 := by decide +kernel
theorem pc886 : pcAt tb_L_law 886 = 1382 := by decide +kernel
theorem ds_L : decode code 32 = .ok (.tableswitch 1344 0 44 #[196, 219, 232, 245, 258, 311, 344, 387, 410, 453, 486, 509, 542, 591, 640, 663, 686, 709, 742, 765, 778, 791, 814, 847, 890, 923, 936, 949, 962, 975, 988, 1021, 1064, 1077, 1090, 1123, 1156, 1179, 1192, 1225, 1248, 1261, 1284, 1307, 1330], 196) := by decide +kernel
theorem lc_sw (C : bC p s m args meth c D cA z0 SK SV A 4 RL code tb_L_law) (hX : va_X b L9 xs s s.heap) (hb : b < s.heap.size) (hA : ¬ A b) (had : ad 400 = b) (hn5 : n + 5 ≤ L9) (hL : L9 ≤ 2560) (hK : adK ad SK SV) (hR : 15 ≤ R.frames ∧ 618 ≤ R.locals) (hR2 : cells ≤ R.cells ∧ slots ≤ R.slots) (I : SI g sv σ τ ρ c9 gr) (kk : ∀ (g sv : Nat → Nat → Int32) (σ τ : Nat → Nat → Nat) (ρ : Nat → Nat) (c9 : Nat) (gr : Nat → Nat → Int32) (h : Int64), SI g sv σ τ ρ c9 gr → bV p l e R s m args below meth c D cA shL A 4 tb_L_law Q ad 191 cells slots (layL g sv σ τ ρ c9 gr h) 884 ([(1, .ref 0), (2, .ref 182), (3, .int (nI n)), (0, .ref 400)] : Lc) []) (k : Nat) (hk : k < 64) : bV p l e R s m args below meth c D cA shL A 4 tb_L_law Q ad 191 cells slots (layL g sv σ τ ρ c9 gr h) 21 ([(1, .ref 0), (2, .ref 182), (3, .int (nI n)), (0, .ref 400)] : Lc) [.int (nI k)] := by
  match k, hk with
  | 0, _ => exact bv_tswI (j := 22) (off := 196) C rfl ds_L (by decide) (by decide) rfl (by rw [pq_0]; rfl) (lc_0 C hX hb hA had hn5 hL hK hR hR2 I kk)
  | 1, _ => exact bv_tswI (j := 39) (off := 219) C rfl ds_L (by decide) (by decide) rfl (by rw [pq_1]; rfl) (lc_1 C hX hb hA had hn5 hL hK hR hR2 I kk)
  | 2, _ => exact bv_tswI (j := 46) (off := 232) C rfl ds_L (by decide) (by decide) rfl (by rw [pq_2]; rfl) (lc_2 C hX hb hA had hn5 hL hK hR hR2 I kk)
  | 3, _ => exact bv_tswI (j := 53) (off := 245) C rfl ds_L (by decide) (by decide) rfl (by rw [pq_3]; rfl) (lc_3 C hX hb hA had hn5 hL hK hR hR2 I kk)
  | 4, _ => exact bv_tswI (j := 60) (off := 258) C rfl ds_L (by decide) (by decide) rfl (by rw [pq_4]; rfl) (lc_4 C hX hb hA had hn5 hL hK hR hR2 I kk)
  | 5, _ => exact bv_tswI (j := 107) (off := 311) C rfl ds_L (by decide) (by decide) rfl (by rw [pq_5]; rfl) (lc_5 C hX hb hA had hn5 hL hK hR hR2 I kk)
  | 6, _ => exact bv_tswI (j := 134) (off := 344) C rfl ds_L (by decide) (by decide) rfl (by rw [pq_6]; rfl) (lc_6 C hX hb hA had hn5 hL hK hR hR2 I kk)
  | 7, _ => exact bv_tswI (j := 171) (off := 387) C rfl ds_L (by decide) (by decide) rfl (by rw [pq_7]; rfl) (lc_7 C hX hb hA had hn5 hL hK hR hR2 I kk)
  | 8, _ => exact bv_tswI (j := 188) (off := 410) C rfl ds_L (by decide) (by decide) rfl (by rw [pq_8]; rfl) (lc_8 C hX hb hA had hn5 hL hK hR hR2 I kk)
  | 9, _ => exact bv_tswI (j := 225) (off := 453) C rfl ds_L (by decide) (by decide) rfl (by rw [pq_9]; rfl) (lc_9 C hX hb hA had hn5 hL hK hR hR2 I kk)
  | 10, _ => exact bv_tswI (j := 252) (off := 486) C rfl ds_L (by decide) (by decide) rfl (by rw [pq_10]; rfl) (lc_10 C hX hb hA had hn5 hL hK hR hR2 I kk)
  | 11, _ => exact bv_tswI (j := 269) (off := 509) C rfl ds_L (by decide) (by decide) rfl (by rw [pq_11]; rfl) (lc_11 C hX hb hA had hn5 hL hK hR hR2 I kk)
  | 12, _ => exact bv_tswI (j := 296) (off := 542) C rfl ds_L (by decide) (by decide) rfl (by rw [pq_12]; rfl) (lc_12 C hX hb hA had hn5 hL hK hR hR2 I kk)
  | 13, _ => exact bv_tswI (j := 331) (off := 591) C rfl ds_L (by decide) (by decide) rfl (by rw [pq_13]; rfl) (lc_13 C hX hb hA had hn5 hL hK hR hR2 I kk)
  | 14, _ => exact bv_tswI (j := 366) (off := 640) C rfl ds_L (by decide) (by decide) rfl (by rw [pq_14]; rfl) (lc_14 C hX hb hA had hn5 hL hK hR hR2 I kk)
  | 15, _ => exact bv_tswI (j := 383) (off := 663) C rfl ds_L (by decide) (by decide) rfl (by rw [pq_15]; rfl) (lc_15 C hX hb hA had hn5 hL hK hR hR2 I kk)
  | 16, _ => exact bv_tswI (j := 400) (off := 686) C rfl ds_L (by decide) (by decide) rfl (by rw [pq_16]; rfl) (lc_16 C hX hb hA had hn5 hL hK hR hR2 I kk)
  | 17, _ => exact bv_tswI (j := 417) (off := 709) C rfl ds_L (by decide) (by decide) rfl (by rw [pq_17]; rfl) (lc_17 C hX hb hA had hn5 hL hK hR hR2 I kk)
  | 18, _ => exact bv_tswI (j := 444) (off := 742) C rfl ds_L (by decide) (by decide) rfl (by rw [pq_18]; rfl) (lc_18 C hX hb hA had hn5 hL hK hR hR2 I kk)
  | 19, _ => exact bv_tswI (j := 461) (off := 765) C rfl ds_L (by decide) (by decide) rfl (by rw [pq_19]; rfl) (lc_19 C hX hb hA had hn5 hL hK hR hR2 I kk)
  | 20, _ => exact bv_tswI (j := 468) (off := 778) C rfl ds_L (by decide) (by decide) rfl (by rw [pq_20]; rfl) (lc_20 C hX hb hA had hn5 hL hK hR hR2 I kk)
  | 21, _ => exact bv_tswI (j := 475) (off := 791) C rfl ds_L (by decide) (by decide) rfl (by rw [pq_21]; rfl) (lc_21 C hX hb hA had hn5 hL hK hR hR2 I kk)
  | 22, _ => exact bv_tswI (j := 492) (off := 814) C rfl ds_L (by decide) (by decide) rfl (by rw [pq_22]; rfl) (lc_22 C hX hb hA had hn5 hL hK hR hR2 I kk)
  | 23, _ => exact bv_tswI (j := 519) (off := 847) C rfl ds_L (by decide) (by decide) rfl (by rw [pq_23]; rfl) (lc_23 C hX hb hA had hn5 hL hK hR hR2 I kk)
  | 24, _ => exact bv_tswI (j := 556) (off := 890) C rfl ds_L (by decide) (by decide) rfl (by rw [pq_24]; rfl) (lc_24 C hX hb hA had hn5 hL hK hR hR2 I kk)
  | 25, _ => exact bv_tswI (j := 583) (off := 923) C rfl ds_L (by decide) (by decide) rfl (by rw [pq_25]; rfl) (lc_25 C hX hb hA had hn5 hL hK hR hR2 I kk)
  | 26, _ => exact bv_tswI (j := 590) (off := 936) C rfl ds_L (by decide) (by decide) rfl (by rw [pq_26]; rfl) (lc_26 C hX hb hA had hn5 hL hK hR hR2 I kk)
  | 27, _ => exact bv_tswI (j := 597) (off := 949) C rfl ds_L (by decide) (by decide) rfl (by rw [pq_27]; rfl) (lc_27 C hX hb hA had hn5 hL hK hR hR2 I kk)
  | 28, _ => exact bv_tswI (j := 604) (off := 962) C rfl ds_L (by decide) (by decide) rfl (by rw [pq_28]; rfl) (lc_28 C hX hb hA had hn5 hL hK hR hR2 I kk)
  | 29, _ => exact bv_tswI (j := 611) (off := 975) C rfl ds_L (by decide) (by decide) rfl (by rw [pq_29]; rfl) (lc_29 C hX hb hA had hn5 hL hK hR hR2 I kk)
  | 30, _ => exact bv_tswI (j := 618) (off := 988) C rfl ds_L (by decide) (by decide) rfl (by rw [pq_30]; rfl) (lc_30 C hX hb hA had hn5 hL hK hR hR2 I kk)
  | 31, _ => exact bv_tswI (j := 645) (off := 1021) C rfl ds_L (by decide) (by decide) rfl (by rw [pq_31]; rfl) (lc_31 C hX hb hA had hn5 hL hK hR hR2 I kk)
  | 32, _ => exact bv_tswI (j := 682) (off := 1064) C rfl ds_L (by decide) (by decide) rfl (by rw [pq_32]; rfl) (lc_32 C hX hb hA had hn5 hL hK hR hR2 I kk)
  | 33, _ => exact bv_tswI (j := 689) (off := 1077) C rfl ds_L (by decide) (by decide) rfl (by rw [pq_33]; rfl) (lc_33 C hX hb hA had hn5 hL hK hR hR2 I kk)
  | 34, _ => exact bv_tswI (j := 696) (off := 1090) C rfl ds_L (by decide) (by decide) rfl (by rw [pq_34]; rfl) (lc_34 C hX hb hA had hn5 hL hK hR hR2 I kk)
  | 35, _ => exact bv_tswI (j := 723) (off := 1123) C rfl ds_L (by decide) (by decide) rfl (by rw [pq_35]; rfl) (lc_35 C hX hb hA had hn5 hL hK hR hR2 I kk)
  | 36, _ => exact bv_tswI (j := 750) (off := 1156) C rfl ds_L (by decide) (by decide) rfl (by rw [pq_36]; rfl) (lc_36 C hX hb hA had hn5 hL hK hR hR2 I kk)
  | 37, _ => exact bv_tswI (j := 767) (off := 1179) C rfl ds_L (by decide) (by decide) rfl (by rw [pq_37]; rfl) (lc_37 C hX hb hA had hn5 hL hK hR hR2 I kk)
  | 38, _ => exact bv_tswI (j := 774) (off := 1192) C rfl ds_L (by decide) (by decide) rfl (by rw [pq_38]; rfl) (lc_38 C hX hb hA had hn5 hL hK hR hR2 I kk)
  | 39, _ => exact bv_tswI (j := 801) (off := 1225) C rfl ds_L (by decide) (by decide) rfl (by rw [pq_39]; rfl) (lc_39 C hX hb hA had hn5 hL hK hR hR2 I kk)
  | 40, _ => exact bv_tswI (j := 818) (off := 1248) C rfl ds_L (by decide) (by decide) rfl (by rw [pq_40]; rfl) (lc_40 C hX hb hA had hn5 hL hK hR hR2 I kk)
  | 41, _ => exact bv_tswI (j := 825) (off := 1261) C rfl ds_L (by decide) (by decide) rfl (by rw [pq_41]; rfl) (lc_41 C hX hb hA had hn5 hL hK hR hR2 I kk)
  | 42, _ => exact bv_tswI (j := 842) (off := 1284) C rfl ds_L (by decide) (by decide) rfl (by rw [pq_42]; rfl) (lc_42 C hX hb hA had hn5 hL hK hR hR2 I kk)
  | 43, _ => exact bv_tswI (j := 859) (off := 1307) C rfl ds_L (by decide) (by decide) rfl (by rw [pq_43]; rfl) (lc_43 C hX hb hA had hn5 hL hK hR hR2 I kk)
  | 44, _ => exact bv_tswI (j := 876) (off := 1330) C rfl ds_L (by decide) (by decide) rfl (by rw [pq_44]; rfl) (lc_44 C hX hb hA had hn5 hL hK hR hR2 I kk)
  | k + 45, hk => exact bv_tswO (j := 884) C rfl ds_L (Or.inr (by rw [nI_toInt (by omega)]; omega)) (by rw [pc884]; rfl) (kk _ _ _ _ _ _ _ _ I)
theorem lw_n5 {n L9 : Nat} (h : ¬ (Int32.ofNat L9 - Int32.ofInt 5) < nI n) (hL : L9 ≤ 2560) (hn : n ≤ L9) : n + 5 ≤ L9 := by
  have e : (Int32.ofNat L9).toInt = (L9 : Int) := nI_toInt (by omega)
  rw [Int32.lt_iff_toInt_lt, Int32.toInt_sub, e, nI_toInt (by omega), show (Int32.ofInt 5).toInt = 5 from rfl, Int.bmod_def] at h
  omega
theorem and63_n (x : Int32) : ∃ k : Nat, k < 64 ∧ x &&& (Int8.ofInt 63).toInt32 = nI k := ⟨x.toBitVec.toNat % 64, by omega, pk_and x 6 (by decide)⟩
set_option maxRecDepth 100000 in
theorem lc_loop (C : bC p s m args meth c D cA z0 SK SV A 4 RL code tb_L_law) (hX : va_X b L9 xs s s.heap) (hb : b < s.heap.size) (hA : ¬ A b) (had : ad 400 = b) (hL : L9 ≤ 2560) (hK : adK ad SK SV) (hR : 15 ≤ R.frames ∧ 618 ≤ R.locals) (hR2 : cells ≤ R.cells ∧ slots ≤ R.slots) (kE : ∀ (n : Nat) (g sv : Nat → Nat → Int32) (σ τ : Nat → Nat → Nat) (ρ : Nat → Nat) (c9 : Nat) (gr : Nat → Nat → Int32) (h : Int64), bV p l e R s m args below meth c D cA shL A 4 tb_L_law Q ad 191 cells slots (layL g sv σ τ ρ c9 gr h) 886 ([(1, .ref 0), (2, .ref 182), (3, .int (nI n)), (0, .ref 400)] : Lc) []) : ∀ (f n : Nat), n ≤ L9 → L9 < n + f → ∀ (g sv : Nat → Nat → Int32) (σ τ : Nat → Nat → Nat) (ρ : Nat → Nat) (c9 : Nat) (gr : Nat → Nat → Int32) (h : Int64), SI g sv σ τ ρ c9 gr → bV p l e R s m args below meth c D cA shL A 4 tb_L_law Q ad 191 cells slots (layL g sv σ τ ρ c9 gr h) 10 ([(1, .ref 0), (2, .ref 182), (3, .int (nI n)), (0, .ref 400)] : Lc) [] := by
  intro f
  induction f with
  | zero => intro n h1 h2; omega
  | succ f ih =>
    intro n h1 h2 g sv σ τ ρ c9 gr h I
    refine bv_iload_n (n := 3) (x := nI n) C rfl rfl ?_
    refine bv_aload_n (n := 0) (x := 400) C rfl rfl ?_
    refine bv_slen C hX hb hA had rfl ?_
    refine bv_iconst (n := 5) C rfl ?_
    refine bv_isub C rfl ?_
    refine bv_icmp_gt (j := 886) C rfl (by rw [pc886]; rfl) (fun _ => kE _ _ _ _ _ _ _ _ _) (fun hc => ?_)
    have hn5 : n + 5 ≤ L9 := lw_n5 hc hL h1
    refine bv_aload_n (n := 0) (x := 400) C rfl rfl ?_
    refine bv_iload_n (n := 3) (x := nI n) C rfl rfl ?_
    refine bv_ssld C hX hb hA had rfl (n := n) (by omega) hL ?_
    refine bv_bipush C rfl ?_
    refine bv_iand C rfl ?_
    obtain ⟨k, hk, e9⟩ := and63_n (xs n)
    rw [e9]
    refine lc_sw C hX hb hA had hn5 hL hK hR hR2 I (fun g sv σ τ ρ c9 gr h I => ?_) k hk
    refine bv_iinc C rfl rfl (by decide) ?_
    refine bv_goto (j := 10) C rfl rfl ?_
    have e5 : nI n + Int32.ofInt 5 = nI (n + 5) := nI_add n 5
    rw [e5]
    refine bv_sub (L' := [(1, .ref 0), (2, .ref 182), (3, .int (nI (n + 5))), (0, .ref 400)]) [1, 2, 0, 3] rfl ?_
    exact ih (n + 5) hn5 (by omega) g sv σ τ ρ c9 gr h I
end LS
def adI (b : Nat) (SK SV : Nat → Nat) : Nat → Nat := fun o => if o = 400 then b else if 300 ≤ o then SV (o - 300) else SK (o - 200)
theorem adI_K {b : Nat} {SK SV : Nat → Nat} : adK (adI b SK SV) SK SV := by
  refine ⟨fun k hk => ?_, fun k hk => ?_⟩
  · unfold adI
    rw [if_neg (by omega), if_neg (by omega), show 200 + k - 200 = k by omega]
  · unfold adI
    rw [if_neg (by omega), if_pos (by omega), show 300 + k - 300 = k by omega]
theorem adK_ag {ad ad' SK SV : Nat → Nat} (h : ∀ o, 200 ≤ o → ad' o = ad o) (H : adK ad SK SV) : adK ad' SK SV := ⟨fun k hk => (h _ (by omega)).trans (H.1 k hk), fun k hk => (h _ (by omega)).trans (H.2 k hk)⟩
def zW9 : Wd := fun _ _ => .int 0
def kwL_1 : Wd := extW zW9 0 (fun k => defaultValue (tyX8 k))
def kwL_2 : Wd := catW kwL_1 1 0 (layF gF8 sF8 idF idF (fun j => j) 0)
def kwL_3 : Wd := extW kwL_2 182 (fun k => defaultValue (tyX9 k))
def kwL_4 : Wd := catW kwL_3 183 182 (layM (beginG zG) 0)
theorem kwL_5 : wEq shL 191 kwL_4 (layL gF8 sF8 idF idF (fun j => j) 0 (beginG zG) 0) := eqB_ok (by decide +kernel)
theorem SI_0 : SI gF8 sF8 idF idF (fun j => j) 0 (beginG zG) := by
  have e1 : ∀ k, k < 55 → gF8 1 k = bgV k := fun k hk => (show gF8 1 k = gA6 1 k from rfl).trans (an_k k hk)
  have e2 : ∀ k, k < 55 → beginG zG 1 k = bgV k := fun k hk => bg_k (by omega)
  refine ⟨fun _ _ => pmK_id, ⟨0, fun _ => 8, (inv_new e1).1, (inv_new e2).1, ⟨fun k hk => (e2 k (by omega)).trans (e1 k (by omega)).symm, fun k h1 h2 => ?_, fun k h1 h2 => ?_⟩⟩, by omega, fun _ h => h, fun _ _ _ _ h => h, rfl, fun i hi => absurd hi (Nat.not_lt_zero i), rfl, ⟨by decide, by decide⟩, fun k => rfl⟩
  · rw [e1 13 (by omega), show (bgV 13).toNatClampNeg = 0 from by decide] at h2
    omega
  · rw [e1 14 (by omega), show (bgV 14).toNatClampNeg = 0 from by decide] at h2
    omega
set_option maxRecDepth 100000 in
set_option maxHeartbeats 8000000 in
theorem whole_start {p : Program} {e : Env} {s : State} {m : MethodId} {below : List Frame} {meth : Method} {c : Code} (l : Launch) (hflags : l.flags = flags0) {b L : Nat} {xs : Nat → Int32} (hL : L ≤ 2560) (C0 : lw_At p s m meth c b L xs) : W p l e room_1 s m #[Value.ref b] below meth c s.heap [] 0 0 (lw_Z below #[Value.ref b] s) (entryFrame m ([Value.ref b] : List Value).toArray 4) := by
  obtain ⟨D, cA, SK, SV, hbK, hAO⟩ := lw_bK C0
  obtain ⟨hx, hcb, hr, hml, hown, hts, hX, hbl, hlocks, hgv⟩ := C0
  have hl := lv_entry ([Value.ref b]) (n := 4) (Nat.le_of_ble_eq_true rfl)
  rw [lg_entry_eq]
  generalize (lg_sl ([Value.ref b]) ++ List.replicate (4 - (lg_sl ([Value.ref b])).length) Slot.unset).toArray = ls at hl ⊢
  have C : bC p s m #[Value.ref b] meth c D cA s.heap.size SK SV (fun q => s.heap.size ≤ q) 4 RL code tb_L_law := ⟨hx, hcb, hml, hown, fun w hw => hts w (List.mem_filter.mp hw).1, hbK, tk_L_law, fun q hq => hq, hlocks⟩
  have hA : ∀ q : Nat, s.heap.size ≤ q → (fun q : Nat => s.heap.size ≤ q) q := fun _ h => h
  have hbA : ¬ (fun q : Nat => s.heap.size ≤ q) b := Nat.not_le.mpr hbl
  suffices K : bV p l e room_1 s m #[Value.ref b] below meth c D cA shL (fun q => s.heap.size ≤ q) 4 tb_L_law (lw_Z below #[Value.ref b] s) (adI b SK SV) 0 0 0 zW9 0 ([(0, .ref 400)] : Lc) [] by
    have k := K s.heap [] ls ⟨fun i j hi => absurd hi (Nat.not_lt_zero i), fun i hi => absurd hi (Nat.not_lt_zero i)⟩ (fun k q h => by cases h) va_S.rf hl
    exact k
  refine bv_newC (N := 0) (w1 := kwL_1) C rfl cl_X8 tyX8_ok (mw (mT_1 17 rfl) rfl) (mw (mT_1 18 rfl) rfl) ini_X8 hA rfl (by decide +kernel) rfl rfl ⟨Nat.le_of_ble_eq_true rfl, Nat.le_of_ble_eq_true rfl⟩ rfl (by decide) (fun ad1 hg1 => ?_)
  refine bv_dup C rfl rfl ?_
  refine bv_callIC (N := 1) (N' := 182) (r0 := 0) (w1 := kwL_2) C rfl ki_X8 ml_L_9 im_X8_init ini_X8 cd_X8_init ok_X8_init rfl ⟨Nat.le_of_ble_eq_true rfl, Nat.le_of_ble_eq_true rfl⟩ ⟨Nat.le_of_ble_eq_true rfl, Nat.le_of_ble_eq_true rfl⟩ hA hAO (by decide) (by decide) (by decide +kernel) (by decide +kernel) (by decide +kernel) (by decide +kernel) rfl rfl (Nat.le_of_ble_eq_true rfl) rfl (by decide) (fun ad2 hg2 => ?_)
  refine bv_astore_n (n := 1) C rfl (by decide) ?_
  refine bv_newC (N := 182) (w1 := kwL_3) C rfl cl_X9 tyX9_ok (mw (mT_4 190 rfl) rfl) (mw (mT_4 191 rfl) rfl) ini_X9 hA rfl (by decide +kernel) rfl rfl ⟨Nat.le_of_ble_eq_true rfl, Nat.le_of_ble_eq_true rfl⟩ rfl (by decide) (fun ad3 hg3 => ?_)
  refine bv_dup C rfl rfl ?_
  refine bv_callIC (N := 183) (N' := 9) (r0 := 182) (w1 := kwL_4) C rfl ki_X9 ml_L_12 im_X9_init ini_X9 cd_X9_init ok_X9_init rfl ⟨Nat.le_of_ble_eq_true rfl, Nat.le_of_ble_eq_true rfl⟩ ⟨Nat.le_of_ble_eq_true rfl, Nat.le_of_ble_eq_true rfl⟩ hA hAO (by decide) (by decide) (by decide +kernel) (by decide +kernel) (by decide +kernel) (by decide +kernel) rfl rfl (Nat.le_of_ble_eq_true rfl) rfl (by decide) (fun ad4 hg4 => ?_)
  refine bv_astore_n (n := 2) C rfl (by decide) ?_
  refine bv_iconst (n := 0) C rfl ?_
  refine bv_istore_n (n := 3) C rfl (by decide) ?_
  refine bv_w kwL_5 ?_
  have had : ∀ o, 200 ≤ o → ad4 o = adI b SK SV o := fun o ho => (hg4 o (Or.inr ho)).trans ((hg3 o (Or.inr ho)).trans ((hg2 o (Or.inr ho)).trans (hg1 o (Or.inr ho))))
  refine bv_sub (L' := [(1, .ref 0), (2, .ref 182), (3, .int (nI 0)), (0, .ref 400)]) [2, 1, 0, 3] rfl ?_
  refine lc_loop C hX hbl hbA (had 400 (by omega)) hL (adK_ag had adI_K) ⟨Nat.le_of_ble_eq_true rfl, Nat.le_of_ble_eq_true rfl⟩ ⟨Nat.le_of_ble_eq_true rfl, Nat.le_of_ble_eq_true rfl⟩ (fun n g sv σ τ ρ c9 gr h => ?_) (L + 1) 0 (Nat.zero_le _) (by omega) _ _ _ _ _ _ _ _ SI_0
  refine bv_iconst (n := 1) C rfl ?_
  intro H locs ls ha hP hS hl
  have hdg := (tk_L_law 887 _ rfl rfl).1
  refine va_forget (fun q hq => hS.2.2 q hq) ?_
  refine W.widen (k := 600000) (n := 7302250) (Nat.le_of_ble_eq_true rfl) (Nat.le_of_ble_eq_true rfl) ?_
  exact W.base (lw_ret (Drawn.sameBut.refl s.drawn lw_cs) hx hcb hr hlocks hdg)
