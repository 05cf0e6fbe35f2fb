/-- the numbers of the String constants (200 to 207), of the formatter of bounds (208), of the constants' bytes (300 to 307) -/
def adK (ad SK SV : Nat → Nat) : Prop := (∀ k, k < 9 → ad (200 + k) = SK k) ∧ ∀ k, k < 8 → ad (300 + k) = SV k
section CK
variable {p : Program} {l : Launch} {e : Env} {R : Room} {s : State} {m : MethodId} {args : Array Value} {below : List Frame} {meth : Method} {c : Code} {D : va_G} {cA : FieldType → ClassId} {z0 : Nat} {SK SV : Nat → Nat} {sh : Sh} {A : Nat → Prop} {nL : Nat} {own : String} {cc : ByteArray} {tb : Tb} {Q : State → Prop} {ad : Nat → Nat} {N cells slots : Nat} {w w1 : Wd} {i j k pc idx : Nat} {L L1 : Lc} {st st1 r : List Value}
theorem bC.vkS (C : bC p s m args meth c D cA z0 SK SV A nL own cc tb) : vk_S 8 sLen sByt SK SV A s s.heap := C.2.2.2.2.2.1.2.2.1.narrow C.2.2.2.2.2.2.2.1
theorem bv_getsC (C : bC p s m args meth c D cA z0 SK SV A nL own cc tb) (ht : tb[i]? = some (pc, .getstatic idx)) (hlk : Cond.fieldLink own idx "java/lang/String" "COMPACT_STRINGS" "Z" ∈ ALLW) (k : bV p l e R s m args below meth c D cA sh A nL tb Q ad N cells slots w (i + 1) L (.int 1 :: st)) : bV p l e R s m args below meth c D cA sh A nL tb Q ad N cells slots w i L st := by
  intro H locs ls ha hP hS hl
  have hn := pcAt_nx C.2.2.2.2.2.2.1 ht rfl
  have hd := (C.2.2.2.2.2.2.1 i _ ht rfl).1
  rw [pcAt_of ht]
  have k := k H locs ls ha hP hS hl
  rw [hn] at k
  exact va_gets C.1 C.2.1 (C.2.2.2.2.2.1.2.2.2.2.1.narrow C.2.2.2.2.2.2.2.1) hS C.2.2.2.1 (C.2.2.2.2.1 _ hlk) (fun _ h9 => h9) hd k
theorem bv_getsF (C : bC p s m args meth c D cA z0 SK SV A nL own cc tb) (ht : tb[i]? = some (pc, .getstatic idx)) (hlk : Cond.fieldLink own idx "jdk/internal/util/Preconditions" "SIOOBE_FORMATTER" "Ljava/util/function/BiFunction;" ∈ ALLW) (hK : adK ad SK SV) (k : bV p l e R s m args below meth c D cA sh A nL tb Q ad N cells slots w (i + 1) L (.ref 208 :: st)) (kN : bV p l e R s m args below meth c D cA sh A nL tb Q ad N cells slots w (i + 1) L (.null :: st)) : bV p l e R s m args below meth c D cA sh A nL tb Q ad N cells slots w i L st := by
  intro H locs ls ha hP hS hl
  have hn := pcAt_nx C.2.2.2.2.2.2.1 ht rfl
  have hd := (C.2.2.2.2.2.2.1 i _ ht rfl).1
  rw [pcAt_of ht]
  have row : ∀ v : Value, cvv ad v = fmV SK → bV p l e R s m args below meth c D cA sh A nL tb Q ad N cells slots w (i + 1) L (v :: st) → W p l e R s m args below meth c H locs cells slots Q (F0 m pc ls (st.map (cvv ad))) := by
    intro v hv k
    have k := k H locs ls ha hP hS hl
    rw [hn, List.map_cons, hv] at k
    exact va_gets C.1 C.2.1 (C.2.2.2.2.2.1.2.2.2.2.2.narrow C.2.2.2.2.2.2.2.1) hS C.2.2.2.1 (C.2.2.2.2.1 _ hlk) (fun _ h9 => h9) hd k
  by_cases z : SK 9 = 0
  · exact row .null (if_pos z).symm kN
  · exact row (.ref 208) ((congrArg Value.ref (hK.1 8 (by omega))).trans (if_neg z).symm) k
theorem bv_getKc (C : bC p s m args meth c D cA z0 SK SV A nL own cc tb) (ht : tb[i]? = some (pc, .getfield idx)) (hlk : Cond.fieldLink own idx "java/lang/String" "coder" "B" ∈ ALLW) (hK : adK ad SK SV) (hk : k < 8) (kk : bV p l e R s m args below meth c D cA sh A nL tb Q ad N cells slots w (i + 1) L (.int 0 :: r)) : bV p l e R s m args below meth c D cA sh A nL tb Q ad N cells slots w i L (.ref (200 + k) :: r) := by
  intro H locs ls ha hP hS hl
  have hn := pcAt_nx C.2.2.2.2.2.2.1 ht rfl
  have hd := (C.2.2.2.2.2.2.1 i _ ht rfl).1
  rw [pcAt_of ht]
  have kk := kk H locs ls ha hP hS hl
  rw [hn] at kk
  have e8 : cvv ad (.ref (200 + k)) = .ref (SK k) := congrArg Value.ref (hK.1 k (by omega))
  rw [List.map_cons, e8]
  exact vk_getf C.1 C.2.1 (C.vkS.1 k hk).2.1 hS C.2.2.2.1 (C.2.2.2.2.1 _ hlk) (fun _ h9 => h9) hd kk
theorem bv_getKv (C : bC p s m args meth c D cA z0 SK SV A nL own cc tb) (ht : tb[i]? = some (pc, .getfield idx)) (hlk : Cond.fieldLink own idx "java/lang/String" "value" "[B" ∈ ALLW) (hK : adK ad SK SV) (hk : k < 8) (kk : bV p l e R s m args below meth c D cA sh A nL tb Q ad N cells slots w (i + 1) L (.ref (300 + k) :: r)) : bV p l e R s m args below meth c D cA sh A nL tb Q ad N cells slots w i L (.ref (200 + k) :: r) := by
  intro H locs ls ha hP hS hl
  have hn := pcAt_nx C.2.2.2.2.2.2.1 ht rfl
  have hd := (C.2.2.2.2.2.2.1 i _ ht rfl).1
  rw [pcAt_of ht]
  have kk := kk H locs ls ha hP hS hl
  rw [hn] at kk
  have e8 : cvv ad (.ref (200 + k)) = .ref (SK k) := congrArg Value.ref (hK.1 k (by omega))
  have e9 : cvv ad (.ref (300 + k)) = .ref (SV k) := congrArg Value.ref (hK.2 k hk)
  rw [List.map_cons, e9] at kk
  rw [List.map_cons, e8]
  exact vk_getf C.1 C.2.1 (C.vkS.1 k hk).2.2.1 hS C.2.2.2.1 (C.2.2.2.2.1 _ hlk) (fun _ h9 => h9) hd kk
theorem bv_alenK (C : bC p s m args meth c D cA z0 SK SV A nL own cc tb) (ht : tb[i]? = some (pc, .arraylength)) (hK : adK ad SK SV) (hk : k < 8) (kk : bV p l e R s m args below meth c D cA sh A nL tb Q ad N cells slots w (i + 1) L (.int (nI (sLen.getD k 0)) :: r)) : bV p l e R s m args below meth c D cA sh A nL tb Q ad N cells slots w i L (.ref (300 + k) :: r) := by
  intro H locs ls ha hP hS hl
  have hn := pcAt_nx C.2.2.2.2.2.2.1 ht rfl
  have hd := (C.2.2.2.2.2.2.1 i _ ht rfl).1
  rw [pcAt_of ht]
  have kk := kk H locs ls ha hP hS hl
  rw [hn] at kk
  have e9 : cvv ad (.ref (300 + k)) = .ref (SV k) := congrArg Value.ref (hK.2 k hk)
  rw [List.map_cons, e9]
  exact va_tlen C.1 C.2.1 (C.vkS.1 k hk).2.2.2 hS rfl hd kk
theorem sLen_le : ∀ k, k < 8 → sLen.getD k 0 < 10 := by decide
theorem bv_baldK (C : bC p s m args meth c D cA z0 SK SV A nL own cc tb) {x : Int32} (ht : tb[i]? = some (pc, .baload)) (hK : adK ad SK SV) (hk : k < 8) (hx : x = nI j) (hj : j < sLen.getD k 0) (kk : bV p l e R s m args below meth c D cA sh A nL tb Q ad N cells slots w (i + 1) L (.int ((sByt.getD k []).getD j 0) :: r)) : bV p l e R s m args below meth c D cA sh A nL tb Q ad N cells slots w i L (.int x :: .ref (300 + k) :: r) := by
  intro H locs ls ha hP hS hl
  have hn := pcAt_nx C.2.2.2.2.2.2.1 ht rfl
  have hd := (C.2.2.2.2.2.2.1 i _ ht rfl).1
  have h10 := sLen_le k hk
  rw [pcAt_of ht]
  have kk := kk H locs ls ha hP hS hl
  rw [hn] at kk
  have e9 : cvv ad (.ref (300 + k)) = .ref (SV k) := congrArg Value.ref (hK.2 k hk)
  rw [List.map_cons, List.map_cons, e9, hx]
  exact va_tb C.1 C.2.1 (C.vkS.1 k hk).2.2.2 hS (vp_in_nI hj (by omega)) (by rw [nI_clamp (by omega : j < 2 ^ 31)]; rfl) hd kk
theorem bv_callK (C : bC p s m args meth c D cA z0 SK SV A nL own cc tb) {stk rest As : List Value} {y : MethodName} {bytes : ByteArray} {maxL d n : Nat} {ret : Option FieldType} {v : Value} (ht : tb[i]? = some (pc, .invokevirtual idx)) (hM : bF l D cA z0 SK SV ad sh N y bytes maxL ret d (.ref (200 + k) :: As) w (some v) w1)
    (hlk : Cond.methodLink own idx y ∈ ALLW) (him : Cond.instanceMethod y ∈ ALLW) (hsel : Cond.selects y.cls y y ∈ ALLW) (hini : Cond.initialized y.cls ∈ ALLW) (hcd : Cond.code y bytes maxL ret ∈ ALLW) (hok : callOK y n) (hn : As.length = n)
    (hR : d + 1 ≤ R.frames ∧ 8 + (maxL + 11) + 41 * d ≤ R.locals) (hR2 : cells ≤ R.cells ∧ slots ≤ R.slots) (hK : adK ad SK SV) (hk : k < 8) (hcls : y.cls = "java/lang/String") (hst : stk = As.reverse ++ .ref (200 + k) :: rest) (hcat : (rest.map fun v => v.category).sum ≤ 8)
    (kk : bV p l e R s m args below meth c D cA sh A nL tb Q ad N cells slots w1 (i + 1) L (v :: rest)) : bV p l e R s m args below meth c D cA sh A nL tb Q ad N cells slots w i L stk := by
  have hd := (C.2.2.2.2.2.2.1 i _ ht rfl).1
  refine bv_callG (P := fun r w2 => r = some v ∧ w2 = w1) (io := fun o => o) (N' := N) (sh' := sh) (w0 := w) (a := (Value.ref (ad (200 + k)) :: As.map (cvv ad)).toArray) (rest := rest) C bEmb_id (by rw [pcAt_nx C.2.2.2.2.2.2.1 ht rfl, pcAt_of ht]; rfl) (fun H locs ls hP hS hl => ?_) (fun r w2 h => ⟨w2, bAft_id, by rw [opt_id_cv]; obtain ⟨rfl, rfl⟩ := h; exact kk⟩)
  have hrec := vk_recv C.vkS hk hS
  rw [← hK.1 k (by omega), ← hcls] at hrec
  have hKK := bK.kept (H1 := H) (fun a h1 h2 => hS.2.1 a h1 (fun z => h2 (C.2.2.2.2.2.2.2.1 a z))) C.2.2.2.2.2.1
  have hstk : stk.map (cvv ad) = (As.map (cvv ad)).reverse ++ .ref (ad (200 + k)) :: rest.map (cvv ad) := by
    rw [hst, List.map_append, List.map_reverse]; rfl
  refine va_runV (As := As.map (cvv ad)) (b := ad (200 + k)) (Ts := ALLW) ⟨C.1, C.2.1, C.2.2.1, C.2.2.2.1, C.2.2.2.2.1⟩ hM (cwV n C.2.2.2.2.1 (goodAll ?_) rfl rfl rfl ⟨rfl, hok⟩ hR) ⟨bPc_blind, hrec, fun U hU hW => ⟨rfl, by rw [hU]; exact hP, by rw [hU]; exact bK.warm hW hKK⟩⟩ rfl (by simpa using hn) hl.1 hstk (lv_room (by rw [cat_map]; exact hcat)) (by rw [pcAt_of ht]; exact hd) hR2
  intro w hw
  rcases List.mem_append.mp hw with h | h
  · simp only [List.mem_cons, List.not_mem_nil, or_false] at h
    rcases h with rfl | rfl | rfl | rfl
    · exact hlk
    · exact him
    · exact hsel
    · exact hini
  · exact inCode hcd w h
end CK
theorem chr_all : ∀ k, k < 8 → ∀ j, j < sLen.getD k 0 → (Int32.toUInt32 (((sByt.getD k []).getD j 0) &&& 255) % 65536).toInt32 = (sByt.getD k []).getD j 0 := by decide +kernel
theorem nar_ch : ∀ k, k < 8 → ∀ j, j < sLen.getD k 0 → narrow .char (.int ((sByt.getD k []).getD j 0)) = .int ((sByt.getD k []).getD j 0) := fun k hk j hj => by rw [← chr_all k hk j hj]; exact pk_nc _
set_option maxRecDepth 100000 in
set_option maxHeartbeats 8000000 in
theorem cs_coder {l : Launch} {D : va_G} {cA : FieldType → ClassId} {z0 : Nat} {SK SV : Nat → Nat} {ad : Nat → Nat} {sh : Sh} {N : Nat} (hE : aD (fun q => z0 ≤ q) ad N) (w : Wd) (k : Nat) (hK : adK ad SK SV) (hk : k < 8) : bF l D cA z0 SK SV ad sh N yJ0_coder_7d493 cJ0_coder_7d493 1 (some .byte) 0 [.ref (200 + k)] w (some (.int (0))) w := by
  refine bCT_introF (tb := tb_J0_coder_7d493) (own := RJ0) hE (show plainFor yJ0_coder_7d493 = true by decide +kernel) rfl tk_J0_coder_7d493 rfl (Nat.le_of_ble_eq_true rfl) ?_
  intro p e s0 m args below meth c C hr
  refine bv_getsC C rfl (show Cond.fieldLink RJ0 38 "java/lang/String" "COMPACT_STRINGS" "Z" ∈ ALLW from (mw (mT_2 117 rfl) rfl)) ?_
  refine bv_if_eq (j := 5) C rfl rfl (fun h => absurd h (by decide)) (fun _ => ?_)
  refine bv_blk C frk_J0 csk_J0 1 3 rfl (L1 := ([(0, .ref (200 + k))] : Lc)) (st1 := ([.ref (200 + k)] : List Value)) (w1 := w) (by rfl) ?_
  refine bv_getKc C rfl (show Cond.fieldLink RJ0 15 "java/lang/String" "coder" "B" ∈ ALLW from (mw (mT_6 231 rfl) rfl)) hK hk ?_
  refine bv_goto (j := 6) C rfl rfl ?_
  exact bv_iret C rfl hr rfl ⟨by (rfl), by (rfl)⟩
set_option maxRecDepth 100000 in
set_option maxHeartbeats 8000000 in
theorem cs_isLatin {l : Launch} {D : va_G} {cA : FieldType → ClassId} {z0 : Nat} {SK SV : Nat → Nat} {ad : Nat → Nat} {sh : Sh} {N : Nat} (hE : aD (fun q => z0 ≤ q) ad N) (w : Wd) (k : Nat) (hK : adK ad SK SV) (hk : k < 8) : bF l D cA z0 SK SV ad sh N yJ0_isLatin1_aae02 cJ0_isLatin1_aae02 1 (some .boolean) 0 [.ref (200 + k)] w (some (.int (1))) w := by
  refine bCT_introF (tb := tb_J0_isLatin1_aae02) (own := RJ0) hE (show plainFor yJ0_isLatin1_aae02 = true by decide +kernel) rfl tk_J0_isLatin1_aae02 rfl (Nat.le_of_ble_eq_true rfl) ?_
  intro p e s0 m args below meth c C hr
  refine bv_getsC C rfl (show Cond.fieldLink RJ0 38 "java/lang/String" "COMPACT_STRINGS" "Z" ∈ ALLW from (mw (mT_2 117 rfl) rfl)) ?_
  refine bv_if_eq (j := 7) C rfl rfl (fun h => absurd h (by decide)) (fun _ => ?_)
  refine bv_blk C frk_J0 csk_J0 1 3 rfl (L1 := ([(0, .ref (200 + k))] : Lc)) (st1 := ([.ref (200 + k)] : List Value)) (w1 := w) (by rfl) ?_
  refine bv_getKc C rfl (show Cond.fieldLink RJ0 15 "java/lang/String" "coder" "B" ∈ ALLW from (mw (mT_6 231 rfl) rfl)) hK hk ?_
  refine bv_if_ne (j := 7) C rfl rfl (fun h => absurd h (by decide)) (fun _ => ?_)
  refine bv_blk C frk_J0 csk_J0 1 6 rfl (L1 := ([(0, .ref (200 + k))] : Lc)) (st1 := ([.int (1)] : List Value)) (w1 := w) (by rfl) ?_
  refine bv_goto (j := 8) C rfl rfl ?_
  exact bv_iret C rfl hr rfl ⟨by (rfl), by (rfl)⟩
set_option maxRecDepth 100000 in
set_option maxHeartbeats 8000000 in
theorem cs_slen {l : Launch} {D : va_G} {cA : FieldType → ClassId} {z0 : Nat} {SK SV : Nat → Nat} {ad : Nat → Nat} {sh : Sh} {N : Nat} (hE : aD (fun q => z0 ≤ q) ad N) (w : Wd) (k : Nat) (hK : adK ad SK SV) (hk : k < 8) : bF l D cA z0 SK SV ad sh N yJ0_length_8abf5 cJ0_length_8abf5 1 (some .int) 1 [.ref (200 + k)] w (some (.int (nI (sLen.getD k 0)))) w := by
  refine bCT_introF (tb := tb_J0_length_8abf5) (own := RJ0) hE (show plainFor yJ0_length_8abf5 = true by decide +kernel) rfl tk_J0_length_8abf5 rfl (Nat.le_of_ble_eq_true rfl) ?_
  intro p e s0 m args below meth c C hr
  refine bv_blk C frk_J0 csk_J0 1 1 rfl (L1 := ([(0, .ref (200 + k))] : Lc)) (st1 := ([.ref (200 + k)] : List Value)) (w1 := w) (by rfl) ?_
  refine bv_getKv C rfl (show Cond.fieldLink RJ0 9 "java/lang/String" "value" "[B" ∈ ALLW from (mw (mT_6 230 rfl) rfl)) hK hk ?_
  refine bv_alenK C rfl hK hk ?_
  refine bv_blk C frk_J0 csk_J0 1 4 rfl (L1 := ([(0, .ref (200 + k))] : Lc)) (st1 := ([.ref (200 + k), .int (nI (sLen.getD k 0))] : List Value)) (w1 := w) (by rfl) ?_
  refine bv_callK (k := k) C rfl (cs_coder hE _ k hK hk) ml_J0_335 im_J0_coder_7d493 sel_J0_coder_7d493 ini_J0 cd_J0_coder_7d493 ok_J0_coder_7d493 rfl ⟨Nat.le_of_ble_eq_true rfl, Nat.le_of_ble_eq_true rfl⟩ ⟨Nat.zero_le _, Nat.zero_le _⟩ hK hk rfl (rest := ([.int (nI (sLen.getD k 0))] : List Value)) rfl (Nat.le_of_ble_eq_true rfl) ?_
  refine bv_blk C frk_J0 csk_J0 1 6 rfl (L1 := ([(0, .ref (200 + k))] : Lc)) (st1 := ([.int ((nI (sLen.getD k 0)) >>> ((0) &&& 31))] : List Value)) (w1 := w) (by rfl) ?_
  exact bv_iret C rfl hr rfl ⟨by (exact congrArg (fun x => some (Value.int x)) (sb_shr0 _)), by (rfl)⟩
set_option maxRecDepth 100000 in
set_option maxHeartbeats 8000000 in
theorem cs_pchk {l : Launch} {D : va_G} {cA : FieldType → ClassId} {z0 : Nat} {SK SV : Nat → Nat} {ad : Nat → Nat} {sh : Sh} {N : Nat} (hE : aD (fun q => z0 ≤ q) ad N) (w : Wd) (j L9 q : Nat) (hj : j < L9) (hL : L9 < 1000) : bF l D cA z0 SK SV ad sh N yJ3_checkIndex_8e157 cJ3_checkIndex_8e157 3 (some .int) 0 [.int (nI j), .int (nI L9), .ref q] w (some (.int (nI j))) w := by
  refine bCT_introF (tb := tb_J3_checkIndex_8e157) (own := RJ3) hE (show plainFor yJ3_checkIndex_8e157 = true by decide +kernel) rfl tk_J3_checkIndex_8e157 rfl (Nat.le_of_ble_eq_true rfl) ?_
  intro p e s0 m args below meth c C hr
  refine bv_blk C frk_J3 csk_J3 1 1 rfl (L1 := ([(0, .int (nI j)), (1, .int (nI L9)), (2, .ref q)] : Lc)) (st1 := ([.int (nI j)] : List Value)) (w1 := w) (by rfl) ?_
  refine bv_if_lt (j := 5) C rfl rfl (fun h => absurd h (nI_nlt (a := j) (b := 0) (by omega) (by omega))) (fun _ => ?_)
  refine bv_blk C frk_J3 csk_J3 2 4 rfl (L1 := ([(0, .int (nI j)), (1, .int (nI L9)), (2, .ref q)] : Lc)) (st1 := ([.int (nI L9), .int (nI j)] : List Value)) (w1 := w) (by rfl) ?_
  refine bv_icmp_lt (j := 10) C rfl rfl (fun _ => ?_) (fun h => absurd (nI_lt (a := j) (b := L9) (by omega) (by omega)) h)
  refine bv_blk C frk_J3 csk_J3 1 11 rfl (L1 := ([(0, .int (nI j)), (1, .int (nI L9)), (2, .ref q)] : Lc)) (st1 := ([.int (nI j)] : List Value)) (w1 := w) (by rfl) ?_
  exact bv_iret C rfl hr rfl ⟨by (rfl), by (rfl)⟩
set_option maxRecDepth 100000 in
set_option maxHeartbeats 8000000 in
theorem cs_pchkN {l : Launch} {D : va_G} {cA : FieldType → ClassId} {z0 : Nat} {SK SV : Nat → Nat} {ad : Nat → Nat} {sh : Sh} {N : Nat} (hE : aD (fun q => z0 ≤ q) ad N) (w : Wd) (j L9 : Nat) (hj : j < L9) (hL : L9 < 1000) : bF l D cA z0 SK SV ad sh N yJ3_checkIndex_8e157 cJ3_checkIndex_8e157 3 (some .int) 0 [.int (nI j), .int (nI L9), .null] w (some (.int (nI j))) w := by
  refine bCT_introF (tb := tb_J3_checkIndex_8e157) (own := RJ3) hE (show plainFor yJ3_checkIndex_8e157 = true by decide +kernel) rfl tk_J3_checkIndex_8e157 rfl (Nat.le_of_ble_eq_true rfl) ?_
  intro p e s0 m args below meth c C hr
  refine bv_blk C frk_J3 csk_J3 1 1 rfl (L1 := ([(0, .int (nI j)), (1, .int (nI L9)), (2, .null)] : Lc)) (st1 := ([.int (nI j)] : List Value)) (w1 := w) (by rfl) ?_
  refine bv_if_lt (j := 5) C rfl rfl (fun h => absurd h (nI_nlt (a := j) (b := 0) (by omega) (by omega))) (fun _ => ?_)
  refine bv_blk C frk_J3 csk_J3 2 4 rfl (L1 := ([(0, .int (nI j)), (1, .int (nI L9)), (2, .null)] : Lc)) (st1 := ([.int (nI L9), .int (nI j)] : List Value)) (w1 := w) (by rfl) ?_
  refine bv_icmp_lt (j := 10) C rfl rfl (fun _ => ?_) (fun h => absurd (nI_lt (a := j) (b := L9) (by omega) (by omega)) h)
  refine bv_blk C frk_J3 csk_J3 1 11 rfl (L1 := ([(0, .int (nI j)), (1, .int (nI L9)), (2, .null)] : Lc)) (st1 := ([.int (nI j)] : List Value)) (w1 := w) (by rfl) ?_
  exact bv_iret C rfl hr rfl ⟨by (rfl), by (rfl)⟩
set_option maxRecDepth 100000 in
set_option maxHeartbeats 8000000 in
theorem cs_schk {l : Launch} {D : va_G} {cA : FieldType → ClassId} {z0 : Nat} {SK SV : Nat → Nat} {ad : Nat → Nat} {sh : Sh} {N : Nat} (hE : aD (fun q => z0 ≤ q) ad N) (w : Wd) (j L9 : Nat) (hK : adK ad SK SV) (hj : j < L9) (hL : L9 < 1000) : bF l D cA z0 SK SV ad sh N yJ0_checkIndex_df160 cJ0_checkIndex_df160 2 none 1 [.int (nI j), .int (nI L9)] w none w := by
  refine bCT_introF (tb := tb_J0_checkIndex_df160) (own := RJ0) hE (show plainFor yJ0_checkIndex_df160 = true by decide +kernel) rfl tk_J0_checkIndex_df160 rfl (Nat.le_of_ble_eq_true rfl) ?_
  intro p e s0 m args below meth c C hr
  refine bv_blk C frk_J0 csk_J0 2 2 rfl (L1 := ([(0, .int (nI j)), (1, .int (nI L9))] : Lc)) (st1 := ([.int (nI L9), .int (nI j)] : List Value)) (w1 := w) (by rfl) ?_
  refine bv_getsF C rfl (show Cond.fieldLink RJ0 1053 "jdk/internal/util/Preconditions" "SIOOBE_FORMATTER" "Ljava/util/function/BiFunction;" ∈ ALLW from (mw (mT_2 133 rfl) rfl)) hK ?_ ?_
  · refine bv_fS1 C rfl (cs_pchk hE _ j L9 208 hj hL) ml_J0_1059 st_J3_checkIndex_8e157 ini_J3 cd_J3_checkIndex_8e157 ok_J3_checkIndex_8e157 rfl ⟨Nat.le_of_ble_eq_true rfl, Nat.le_of_ble_eq_true rfl⟩ ⟨Nat.zero_le _, Nat.zero_le _⟩ (rest := ([] : List Value)) rfl (Nat.le_of_ble_eq_true rfl) ?_
    refine bv_blk C frk_J0 csk_J0 1 5 rfl (L1 := ([(0, .int (nI j)), (1, .int (nI L9))] : Lc)) (st1 := ([] : List Value)) (w1 := w) (by rfl) ?_
    exact bv_vret C rfl hr ⟨by (rfl), by (rfl)⟩
  · refine bv_fS1 C rfl (cs_pchkN hE _ j L9 hj hL) ml_J0_1059 st_J3_checkIndex_8e157 ini_J3 cd_J3_checkIndex_8e157 ok_J3_checkIndex_8e157 rfl ⟨Nat.le_of_ble_eq_true rfl, Nat.le_of_ble_eq_true rfl⟩ ⟨Nat.zero_le _, Nat.zero_le _⟩ (rest := ([] : List Value)) rfl (Nat.le_of_ble_eq_true rfl) ?_
    refine bv_blk C frk_J0 csk_J0 1 5 rfl (L1 := ([(0, .int (nI j)), (1, .int (nI L9))] : Lc)) (st1 := ([] : List Value)) (w1 := w) (by rfl) ?_
    exact bv_vret C rfl hr ⟨by (rfl), by (rfl)⟩
set_option maxRecDepth 100000 in
set_option maxHeartbeats 8000000 in
theorem cs_lchar {l : Launch} {D : va_G} {cA : FieldType → ClassId} {z0 : Nat} {SK SV : Nat → Nat} {ad : Nat → Nat} {sh : Sh} {N : Nat} (hE : aD (fun q => z0 ≤ q) ad N) (w : Wd) (k j : Nat) (hK : adK ad SK SV) (hk : k < 8) (hj : j < sLen.getD k 0) : bF l D cA z0 SK SV ad sh N yJ1_charAt_3b067 cJ1_charAt_3b067 2 (some .char) 2 [.ref (300 + k), .int (nI j)] w (some (.int ((sByt.getD k []).getD j 0))) w := by
  refine bCT_introF (tb := tb_J1_charAt_3b067) (own := RJ1) hE (show plainFor yJ1_charAt_3b067 = true by decide +kernel) rfl tk_J1_charAt_3b067 rfl (Nat.le_of_ble_eq_true rfl) ?_
  intro p e s0 m args below meth c C hr
  refine bv_blk C frk_J1 csk_J1 2 2 rfl (L1 := ([(0, .ref (300 + k)), (1, .int (nI j))] : Lc)) (st1 := ([.ref (300 + k), .int (nI j)] : List Value)) (w1 := w) (by rfl) ?_
  refine bv_alenK C rfl hK hk ?_
  refine bv_fS0 C rfl (cs_schk hE _ j (sLen.getD k 0) hK hj (by have q := sLen_le k hk; omega)) ml_J1_9 st_J0_checkIndex_df160 ini_J0 cd_J0_checkIndex_df160 ok_J0_checkIndex_df160 rfl ⟨Nat.le_of_ble_eq_true rfl, Nat.le_of_ble_eq_true rfl⟩ ⟨Nat.zero_le _, Nat.zero_le _⟩ (rest := ([] : List Value)) rfl (Nat.le_of_ble_eq_true rfl) ?_
  refine bv_blk C frk_J1 csk_J1 2 6 rfl (L1 := ([(0, .ref (300 + k)), (1, .int (nI j))] : Lc)) (st1 := ([.int (nI j), .ref (300 + k)] : List Value)) (w1 := w) (by rfl) ?_
  refine bv_baldK (j := j) C rfl hK hk (by exact rfl) (by omega) ?_
  refine bv_blk C frk_J1 csk_J1 3 10 rfl (L1 := ([(0, .ref (300 + k)), (1, .int (nI j))] : Lc)) (st1 := ([.int ((Int32.toUInt32 (((sByt.getD k []).getD j 0) &&& (255)) % 65536).toInt32)] : List Value)) (w1 := w) (by rfl) ?_
  exact bv_iret C rfl hr (by first | exact pk_nc _ | exact nar_ch k hk j hj) ⟨by (exact congrArg (fun x => some (Value.int x)) (chr_all k hk j hj)), by (rfl)⟩
set_option maxRecDepth 100000 in
set_option maxHeartbeats 8000000 in
theorem cs_charAt {l : Launch} {D : va_G} {cA : FieldType → ClassId} {z0 : Nat} {SK SV : Nat → Nat} {ad : Nat → Nat} {sh : Sh} {N : Nat} (hE : aD (fun q => z0 ≤ q) ad N) (w : Wd) (k j : Nat) (hK : adK ad SK SV) (hk : k < 8) (hj : j < sLen.getD k 0) : bF l D cA z0 SK SV ad sh N yJ0_charAt_5068e cJ0_charAt_5068e 2 (some .char) 4 [.ref (200 + k), .int (nI j)] w (some (.int ((sByt.getD k []).getD j 0))) w := by
  refine bCT_introF (tb := tb_J0_charAt_5068e) (own := RJ0) hE (show plainFor yJ0_charAt_5068e = true by decide +kernel) rfl tk_J0_charAt_5068e rfl (Nat.le_of_ble_eq_true rfl) ?_
  intro p e s0 m args below meth c C hr
  refine bv_blk C frk_J0 csk_J0 1 1 rfl (L1 := ([(0, .ref (200 + k)), (1, .int (nI j))] : Lc)) (st1 := ([.ref (200 + k)] : List Value)) (w1 := w) (by rfl) ?_
  refine bv_callK (k := k) C rfl (cs_isLatin hE _ k hK hk) ml_J0_492 im_J0_isLatin1_aae02 sel_J0_isLatin1_aae02 ini_J0 cd_J0_isLatin1_aae02 ok_J0_isLatin1_aae02 rfl ⟨Nat.le_of_ble_eq_true rfl, Nat.le_of_ble_eq_true rfl⟩ ⟨Nat.zero_le _, Nat.zero_le _⟩ hK hk rfl (rest := ([] : List Value)) rfl (Nat.le_of_ble_eq_true rfl) ?_
  refine bv_if_eq (j := 8) C rfl rfl (fun h => absurd h (by decide)) (fun _ => ?_)
  refine bv_blk C frk_J0 csk_J0 1 4 rfl (L1 := ([(0, .ref (200 + k)), (1, .int (nI j))] : Lc)) (st1 := ([.ref (200 + k)] : List Value)) (w1 := w) (by rfl) ?_
  refine bv_getKv C rfl (show Cond.fieldLink RJ0 9 "java/lang/String" "value" "[B" ∈ ALLW from (mw (mT_6 230 rfl) rfl)) hK hk ?_
  refine bv_blk C frk_J0 csk_J0 1 6 rfl (L1 := ([(0, .ref (200 + k)), (1, .int (nI j))] : Lc)) (st1 := ([.int (nI j), .ref (300 + k)] : List Value)) (w1 := w) (by rfl) ?_
  refine bv_fS1 C rfl (cs_lchar hE _ k j hK hk hj) ml_J0_495 st_J1_charAt_3b067 ini_J1 cd_J1_charAt_3b067 ok_J1_charAt_3b067 rfl ⟨Nat.le_of_ble_eq_true rfl, Nat.le_of_ble_eq_true rfl⟩ ⟨Nat.zero_le _, Nat.zero_le _⟩ (rest := ([] : List Value)) rfl (Nat.le_of_ble_eq_true rfl) ?_
  exact bv_iret C rfl hr (by first | exact pk_nc _ | exact nar_ch k hk j hj) ⟨by (rfl), by (rfl)⟩
