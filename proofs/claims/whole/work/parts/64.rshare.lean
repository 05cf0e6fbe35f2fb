section CL5
variable {p : Program} {l : Launch} {e : Env} {R : Room} {s : State} {m : MethodId} {args : Array Value} {below : List Frame} {meth : Method} {c : Code} {D : va_G} {cA : FieldType → ClassId} {z0 : Nat} {SK SV : Nat → Nat} {sh : Sh} {A : Nat → Prop} {nL : Nat} {own : String} {cc : ByteArray} {tb : Tb} {Q : State → Prop} {ad : Nat → Nat} {N cells slots : Nat} {w w1 : Wd} {i j pc : Nat} {L L1 : Lc} {st st1 r : List Value}
theorem st_ldcW {T : State} {locs : List Loc} (X : Stand p l e R s m args below meth c T locs cells slots) (hexec : p.tables.exec = Jvm.exec) {own : String} {index : Nat} {b : UInt32} (hown : s.vm.findClass own = some m.cls)
    (hconst : (Cond.constantFloat own index b).before args s = true) {g : JFrame} (hg : g.method = m) (hdg : decode c.code g.pc = .ok (.ldc_w index, 3)) :
    ∀ target, Steps p.tables e below (T.setTop { g with pc := g.pc + 3, stack := .float b :: g.stack }) target → Steps p.tables e below (T.setTop g) target := by
  obtain ⟨k, cf, hk, hcf, hcp⟩ := Cond.constantFloat_spec hown hconst
  obtain ⟨k', hk', he⟩ := X.warmed.alike.2.2 _ _ hk
  intro target hrest
  subst hg
  jvm_step X.here [hexec, hdg, Op.ldc_w.wp_float (s := T) (f := g) X.here.top hk' (by rw [he]; exact hcf) hcp]
  exact hrest
theorem bv_ldcwf (C : bC p s m args meth c D cA z0 SK SV A nL own cc tb) {n : Nat} {v : UInt32} (ht : tb[i]? = some (pc, .ldc_w n)) (hc : Cond.constantFloat own n v ∈ ALLW) (k : bV p l e R s m args below meth c D cA sh A nL tb Q ad N cells slots w (i + 1) L (.float v :: st)) : bV p l e R s m args below meth c D cA sh A nL tb Q ad N cells slots w i L (st) := by
  intro H locs ls ha hP hS hl
  have hn := pcAt_nx C.2.2.2.2.2.2.1 ht rfl
  have hd := (C.2.2.2.2.2.2.1 i _ ht rfl).1
  rw [pcAt_of ht]
  have k := k H locs ls ha hP hS hl
  rw [hn] at k
  intro T hT X
  obtain ⟨t, a, b⟩ := k T hT X
  exact ⟨t, st_ldcW X C.1 C.2.2.2.1 (C.2.2.2.2.1 _ hc) (g := F0 m pc ls (st.map (cvv ad))) rfl (by rw [C.2.1]; exact hd) t a, b⟩
theorem bv_f2ib (C : bC p s m args meth c D cA z0 SK SV A nL own cc tb) {n : Nat} {b : UInt32} (ht : tb[i]? = some (pc, .invokestatic n)) (hlk : Cond.methodLink own n ({ cls := "java/lang/Float", name := "floatToRawIntBits", desc := "(F)I" } : Jvm.MethodName) ∈ ALLW) (hnat : Cond.native ({ cls := "java/lang/Float", name := "floatToRawIntBits", desc := "(F)I" } : Jvm.MethodName) ∈ ALLW) (hstat : Cond.static ({ cls := "java/lang/Float", name := "floatToRawIntBits", desc := "(F)I" } : Jvm.MethodName) ∈ ALLW) (hini : Cond.initialized "java/lang/Float" ∈ ALLW) (hfr : 1 ≤ R.frames) (hlo : 15 ≤ R.locals) (k : bV p l e R s m args below meth c D cA sh A nL tb Q ad N cells slots w (i + 1) L [.int b.toInt32]) : bV p l e R s m args below meth c D cA sh A nL tb Q ad N cells slots w i L [.float b] := by
  intro H locs ls ha hP hS hl
  have hn := pcAt_nx C.2.2.2.2.2.2.1 ht rfl
  have hd := (C.2.2.2.2.2.2.1 i _ ht rfl).1
  rw [pcAt_of ht]
  have k := k H locs ls ha hP hS hl
  rw [hn] at k
  exact vn_f2i (rest := []) C.1 C.2.1 (C.2.2.1.trans hl.1.symm) C.2.2.2.1 (C.2.2.2.2.1 _ hlk) (C.2.2.2.2.1 _ hnat) (C.2.2.2.2.1 _ hstat) (C.2.2.2.2.1 _ hini) hfr (Nat.le_trans (Nat.le_of_eq (Nat.zero_add 15)) hlo) hd k
end CL5
set_option maxRecDepth 100000 in
set_option maxHeartbeats 8000000 in
theorem cj_isNaN {l : Launch} {D : va_G} {cA : FieldType → ClassId} {z0 : Nat} {SK SV : Nat → Nat} {ad : Nat → Nat} {sh : Sh} {N : Nat} (hE : aD (fun q => z0 ≤ q) ad N) (w : Wd) (x : UInt32) (hx : Op.cmpValue (FP.fcmp x x) .l = 0) : bF l D cA z0 SK SV ad sh N yJxf58ca_isNaN_12338 cJxf58ca_isNaN_12338 1 (some .boolean) 0 [.float x] w (some (.int (0))) w := by
  refine bCT_introF (tb := tb_Jxf58ca_isNaN_12338) (own := RJxf58ca) hE (show plainFor yJxf58ca_isNaN_12338 = true by decide +kernel) rfl tk_Jxf58ca_isNaN_12338 rfl (Nat.le_of_ble_eq_true rfl) ?_
  intro p e s0 m args below meth c C hr
  refine bv_blk C frk_Jxf58ca csk_Jxf58ca 3 3 rfl (L1 := ([(0, .float x)] : Lc)) (st1 := ([.int (Op.cmpValue (FP.fcmp x x) .l)] : List Value)) (w1 := w) (by rfl) ?_
  refine bv_if_eq (j := 6) C rfl rfl (fun c1 => ?_) (fun c1 => ?_)
  · refine bv_blk C frk_Jxf58ca csk_Jxf58ca 1 7 rfl (L1 := ([(0, .float x)] : Lc)) (st1 := ([.int (0)] : List Value)) (w1 := w) (by rfl) ?_
    exact bv_iret C rfl hr rfl ⟨by (rfl), by (rfl)⟩
  · refine bv_blk C frk_Jxf58ca csk_Jxf58ca 1 5 rfl (L1 := ([(0, .float x)] : Lc)) (st1 := ([.int (1)] : List Value)) (w1 := w) (by rfl) ?_
    refine bv_goto (j := 7) C rfl rfl ?_
    exact bv_iret C rfl hr rfl ⟨by (exact absurd hx c1), by (rfl)⟩
set_option maxRecDepth 100000 in
set_option maxHeartbeats 8000000 in
theorem cj_f2ib {l : Launch} {D : va_G} {cA : FieldType → ClassId} {z0 : Nat} {SK SV : Nat → Nat} {ad : Nat → Nat} {sh : Sh} {N : Nat} (hE : aD (fun q => z0 ≤ q) ad N) (w : Wd) (x : UInt32) (hx : Op.cmpValue (FP.fcmp x x) .l = 0) : bF l D cA z0 SK SV ad sh N yJxf58ca_floatToIntBits_5c35a cJxf58ca_floatToIntBits_5c35a 1 (some .int) 1 [.float x] w (some (.int x.toInt32)) w := by
  refine bCT_introF (tb := tb_Jxf58ca_floatToIntBits_5c35a) (own := RJxf58ca) hE (show plainFor yJxf58ca_floatToIntBits_5c35a = true by decide +kernel) rfl tk_Jxf58ca_floatToIntBits_5c35a rfl (Nat.le_of_ble_eq_true rfl) ?_
  intro p e s0 m args below meth c C hr
  refine bv_blk C frk_Jxf58ca csk_Jxf58ca 1 1 rfl (L1 := ([(0, .float x)] : Lc)) (st1 := ([.float x] : List Value)) (w1 := w) (by rfl) ?_
  refine bv_fS1 C rfl (cj_isNaN hE _ x hx) ml_Jxf58ca_59 st_Jxf58ca_isNaN_12338 ini_Jxf58ca cd_Jxf58ca_isNaN_12338 ok_Jxf58ca_isNaN_12338 rfl ⟨Nat.le_of_ble_eq_true rfl, Nat.le_of_ble_eq_true rfl⟩ ⟨Nat.zero_le _, Nat.zero_le _⟩ (rest := ([] : List Value)) rfl (Nat.le_of_ble_eq_true rfl) ?_
  refine bv_if_ne (j := 6) C rfl rfl (fun h => absurd h (by decide)) (fun _ => ?_)
  refine bv_blk C frk_Jxf58ca csk_Jxf58ca 1 4 rfl (L1 := ([(0, .float x)] : Lc)) (st1 := ([.float x] : List Value)) (w1 := w) (by rfl) ?_
  refine bv_f2ib C rfl (mw (mT_6 176 rfl) rfl) (mw (mT_6 178 rfl) rfl) (mw (mT_6 177 rfl) rfl) (mw (mT_1 16 rfl) rfl) (Nat.le_of_ble_eq_true rfl) (Nat.le_of_ble_eq_true rfl) ?_
  exact bv_iret C rfl hr rfl ⟨by (rfl), by (rfl)⟩
def ct_shortfall_r (n S0 S1 : Nat) (g : Nat → Nat → Int32) : Int32 := (if (g 1 12) = 0 then (-100000) else (if (g 1 18) = (-100000) then (-100000) else (if (g 1 38) = (-100000) then (-100000) else ((quaG g 0 ((if n = 0 then -100000 else (bpO g n S1 S0 0 (0, quaG g 0 0 0 n)).1) / (16)) ((if n = 0 then -100000 else (bpO g n S1 S0 0 (0, quaG g 0 0 0 n)).1) - (if n = 0 then -100000 else (bpO g n S1 S0 0 (0, quaG g 0 0 0 n)).1) / (16) * (16)) n) - (quaG g 0 (g 1 18) (g 1 38) n)))))
set_option maxRecDepth 100000 in
set_option maxHeartbeats 8000000 in
theorem ct_shortfall {l : Launch} {D : va_G} {cA : FieldType → ClassId} {z0 : Nat} {SK SV : Nat → Nat} {ad : Nat → Nat} (hE : aD (fun q => z0 ≤ q) ad 9) (g : Nat → Nat → Int32) (h : Int64) (n S0 S1 : Nat) (hs : statR g n) (hS0 : g 1 15 = nI S0) (hS1 : g 1 35 = nI S1) (hA : S0 ≤ 16) (hB : S1 ≤ 16) : bF l D cA z0 SK SV ad shM 9 yX9_shortfall cX9_shortfall 2 (some .int) 7 [.ref 0] (layM g h) (some (.int (ct_shortfall_r n S0 S1 g))) (layM g h) := by
  refine bCT_intro (tb := tb_X9_shortfall) (own := RX9) hE pn_X9 rfl tk_X9_shortfall rfl (Nat.le_of_ble_eq_true rfl) ?_
  intro p e s0 m args below meth c C hr
  have hn8 := hs.2.1
  refine bv_blk C frk_X9 csk_X9 3 3 rfl (L1 := ([(0, .ref 0)] : Lc)) (st1 := ([.int (12), .ref 1] : List Value)) (w1 := (layM g h)) (by rfl) ?_
  refine bv_iald C rfl rfl (by decide) (j := 12) (by exact rfl) (by first | decide | omega) (by decide) (y := (g 1 12)) (by rfl) ?_
  refine bv_if_eq (j := 17) C rfl rfl (fun c1 => ?_) (fun c1 => ?_)
  · refine bv_blk C frk_X9 csk_X9 1 18 rfl (L1 := ([(0, .ref 0)] : Lc)) (st1 := ([.int (-100000)] : List Value)) (w1 := (layM g h)) (by rfl) ?_
    exact bv_iret C rfl hr rfl ⟨by (exact congrArg (fun x => some (Value.int x)) (((if_pos c1).trans rfl)).symm), by (rfl)⟩
  · refine bv_blk C frk_X9 csk_X9 3 8 rfl (L1 := ([(0, .ref 0)] : Lc)) (st1 := ([.int (3), .int (0), .ref 0] : List Value)) (w1 := (layM g h)) (by rfl) ?_
    refine bv_fV1 C rfl (ct_of hE _ _ 0 3 (by omega) (by omega)) ml_X9_69 im_X9_of sel_X9_of ini_X9 cd_X9_of ok_X9_of rfl ⟨Nat.le_of_ble_eq_true rfl, Nat.le_of_ble_eq_true rfl⟩ ⟨Nat.zero_le _, Nat.zero_le _⟩ (by decide) rfl rfl rfl (rest := ([] : List Value)) rfl (Nat.le_of_ble_eq_true rfl) ?_
    refine bv_blk C frk_X9 csk_X9 1 10 rfl (L1 := ([(0, .ref 0)] : Lc)) (st1 := ([.int (-100000), .int (g 1 18)] : List Value)) (w1 := (layM g h)) (by rfl) ?_
    refine bv_icmp_eq (j := 17) C rfl rfl (fun c2 => ?_) (fun c2 => ?_)
    · refine bv_blk C frk_X9 csk_X9 1 18 rfl (L1 := ([(0, .ref 0)] : Lc)) (st1 := ([.int (-100000)] : List Value)) (w1 := (layM g h)) (by rfl) ?_
      exact bv_iret C rfl hr rfl ⟨by (exact congrArg (fun x => some (Value.int x)) (((if_neg c1).trans ((if_pos c2).trans rfl))).symm), by (rfl)⟩
    · refine bv_blk C frk_X9 csk_X9 3 14 rfl (L1 := ([(0, .ref 0)] : Lc)) (st1 := ([.int (3), .int (1), .ref 0] : List Value)) (w1 := (layM g h)) (by rfl) ?_
      refine bv_fV1 C rfl (ct_of hE _ _ 1 3 (by omega) (by omega)) ml_X9_69 im_X9_of sel_X9_of ini_X9 cd_X9_of ok_X9_of rfl ⟨Nat.le_of_ble_eq_true rfl, Nat.le_of_ble_eq_true rfl⟩ ⟨Nat.zero_le _, Nat.zero_le _⟩ (by decide) rfl rfl rfl (rest := ([] : List Value)) rfl (Nat.le_of_ble_eq_true rfl) ?_
      refine bv_blk C frk_X9 csk_X9 1 16 rfl (L1 := ([(0, .ref 0)] : Lc)) (st1 := ([.int (-100000), .int (g 1 38)] : List Value)) (w1 := (layM g h)) (by rfl) ?_
      refine bv_icmp_ne (j := 19) C rfl rfl (fun c3 => ?_) (fun c3 => ?_)
      · refine bv_blk C frk_X9 csk_X9 1 20 rfl (L1 := ([(0, .ref 0)] : Lc)) (st1 := ([.ref 0] : List Value)) (w1 := (layM g h)) (by rfl) ?_
        refine bv_fV1 C rfl (ct_bestPair hE g _ n S0 S1 hs hS0 hS1 hA hB) ml_X9_294 im_X9_bestPair sel_X9_bestPair ini_X9 cd_X9_bestPair ok_X9_bestPair rfl ⟨Nat.le_of_ble_eq_true rfl, Nat.le_of_ble_eq_true rfl⟩ ⟨Nat.zero_le _, Nat.zero_le _⟩ (by decide) rfl rfl rfl (rest := ([] : List Value)) rfl (Nat.le_of_ble_eq_true rfl) ?_
        refine bv_blk C frk_X9 csk_X9 5 26 rfl (L1 := ([(1, .int (if n = 0 then -100000 else (bpO g n S1 S0 0 (0, quaG g 0 0 0 n)).1)), (0, .ref 0)] : Lc)) (st1 := ([.int (16), .int (if n = 0 then -100000 else (bpO g n S1 S0 0 (0, quaG g 0 0 0 n)).1), .int (0), .ref 0] : List Value)) (w1 := (layM g h)) (by rfl) ?_
        refine bv_idiv C rfl (by decide) ?_
        refine bv_blk C frk_X9 csk_X9 2 29 rfl (L1 := ([(1, .int (if n = 0 then -100000 else (bpO g n S1 S0 0 (0, quaG g 0 0 0 n)).1)), (0, .ref 0)] : Lc)) (st1 := ([.int (16), .int (if n = 0 then -100000 else (bpO g n S1 S0 0 (0, quaG g 0 0 0 n)).1), .int ((if n = 0 then -100000 else (bpO g n S1 S0 0 (0, quaG g 0 0 0 n)).1) / (16)), .int (0), .ref 0] : List Value)) (w1 := (layM g h)) (by rfl) ?_
        refine bv_irem C rfl (by decide) ?_
        refine bv_fV1 C rfl (ct_qualityOf hE g _ 0 n ((if n = 0 then -100000 else (bpO g n S1 S0 0 (0, quaG g 0 0 0 n)).1) / (16)) ((if n = 0 then -100000 else (bpO g n S1 S0 0 (0, quaG g 0 0 0 n)).1) - (if n = 0 then -100000 else (bpO g n S1 S0 0 (0, quaG g 0 0 0 n)).1) / (16) * (16)) (by omega) (okQ_of hs 0 (by omega) _ _)) ml_X9_106 im_X9_qualityOf sel_X9_qualityOf ini_X9 cd_X9_qualityOf ok_X9_qualityOf rfl ⟨Nat.le_of_ble_eq_true rfl, Nat.le_of_ble_eq_true rfl⟩ ⟨Nat.zero_le _, Nat.zero_le _⟩ (by decide) rfl rfl rfl (rest := ([] : List Value)) rfl (Nat.le_of_ble_eq_true rfl) ?_
        refine bv_blk C frk_X9 csk_X9 5 36 rfl (L1 := ([(1, .int (if n = 0 then -100000 else (bpO g n S1 S0 0 (0, quaG g 0 0 0 n)).1)), (0, .ref 0)] : Lc)) (st1 := ([.int (3), .int (0), .ref 0, .int (0), .ref 0, .int (quaG g 0 ((if n = 0 then -100000 else (bpO g n S1 S0 0 (0, quaG g 0 0 0 n)).1) / (16)) ((if n = 0 then -100000 else (bpO g n S1 S0 0 (0, quaG g 0 0 0 n)).1) - (if n = 0 then -100000 else (bpO g n S1 S0 0 (0, quaG g 0 0 0 n)).1) / (16) * (16)) n)] : List Value)) (w1 := (layM g h)) (by rfl) ?_
        refine bv_fV1 C rfl (ct_of hE _ _ 0 3 (by omega) (by omega)) ml_X9_69 im_X9_of sel_X9_of ini_X9 cd_X9_of ok_X9_of rfl ⟨Nat.le_of_ble_eq_true rfl, Nat.le_of_ble_eq_true rfl⟩ ⟨Nat.zero_le _, Nat.zero_le _⟩ (by decide) rfl rfl rfl (rest := ([.int (0), .ref 0, .int (quaG g 0 ((if n = 0 then -100000 else (bpO g n S1 S0 0 (0, quaG g 0 0 0 n)).1) / (16)) ((if n = 0 then -100000 else (bpO g n S1 S0 0 (0, quaG g 0 0 0 n)).1) - (if n = 0 then -100000 else (bpO g n S1 S0 0 (0, quaG g 0 0 0 n)).1) / (16) * (16)) n)] : List Value)) rfl (Nat.le_of_ble_eq_true rfl) ?_
        refine bv_blk C frk_X9 csk_X9 3 40 rfl (L1 := ([(1, .int (if n = 0 then -100000 else (bpO g n S1 S0 0 (0, quaG g 0 0 0 n)).1)), (0, .ref 0)] : Lc)) (st1 := ([.int (3), .int (1), .ref 0, .int (g 1 18), .int (0), .ref 0, .int (quaG g 0 ((if n = 0 then -100000 else (bpO g n S1 S0 0 (0, quaG g 0 0 0 n)).1) / (16)) ((if n = 0 then -100000 else (bpO g n S1 S0 0 (0, quaG g 0 0 0 n)).1) - (if n = 0 then -100000 else (bpO g n S1 S0 0 (0, quaG g 0 0 0 n)).1) / (16) * (16)) n)] : List Value)) (w1 := (layM g h)) (by rfl) ?_
        refine bv_fV1 C rfl (ct_of hE _ _ 1 3 (by omega) (by omega)) ml_X9_69 im_X9_of sel_X9_of ini_X9 cd_X9_of ok_X9_of rfl ⟨Nat.le_of_ble_eq_true rfl, Nat.le_of_ble_eq_true rfl⟩ ⟨Nat.zero_le _, Nat.zero_le _⟩ (by decide) rfl rfl rfl (rest := ([.int (g 1 18), .int (0), .ref 0, .int (quaG g 0 ((if n = 0 then -100000 else (bpO g n S1 S0 0 (0, quaG g 0 0 0 n)).1) / (16)) ((if n = 0 then -100000 else (bpO g n S1 S0 0 (0, quaG g 0 0 0 n)).1) - (if n = 0 then -100000 else (bpO g n S1 S0 0 (0, quaG g 0 0 0 n)).1) / (16) * (16)) n)] : List Value)) rfl (Nat.le_of_ble_eq_true rfl) ?_
        refine bv_fV1 C rfl (ct_qualityOf hE g _ 0 n (g 1 18) (g 1 38) (by omega) (okQ_of hs 0 (by omega) _ _)) ml_X9_106 im_X9_qualityOf sel_X9_qualityOf ini_X9 cd_X9_qualityOf ok_X9_qualityOf rfl ⟨Nat.le_of_ble_eq_true rfl, Nat.le_of_ble_eq_true rfl⟩ ⟨Nat.zero_le _, Nat.zero_le _⟩ (by decide) rfl rfl rfl (rest := ([.int (quaG g 0 ((if n = 0 then -100000 else (bpO g n S1 S0 0 (0, quaG g 0 0 0 n)).1) / (16)) ((if n = 0 then -100000 else (bpO g n S1 S0 0 (0, quaG g 0 0 0 n)).1) - (if n = 0 then -100000 else (bpO g n S1 S0 0 (0, quaG g 0 0 0 n)).1) / (16) * (16)) n)] : List Value)) rfl (Nat.le_of_ble_eq_true rfl) ?_
        refine bv_blk C frk_X9 csk_X9 1 43 rfl (L1 := ([(1, .int (if n = 0 then -100000 else (bpO g n S1 S0 0 (0, quaG g 0 0 0 n)).1)), (0, .ref 0)] : Lc)) (st1 := ([.int ((quaG g 0 ((if n = 0 then -100000 else (bpO g n S1 S0 0 (0, quaG g 0 0 0 n)).1) / (16)) ((if n = 0 then -100000 else (bpO g n S1 S0 0 (0, quaG g 0 0 0 n)).1) - (if n = 0 then -100000 else (bpO g n S1 S0 0 (0, quaG g 0 0 0 n)).1) / (16) * (16)) n) - (quaG g 0 (g 1 18) (g 1 38) n))] : List Value)) (w1 := (layM g h)) (by rfl) ?_
        exact bv_iret C rfl hr rfl ⟨by (exact congrArg (fun x => some (Value.int x)) (((if_neg c1).trans ((if_neg c2).trans ((if_neg c3).trans rfl)))).symm), by (rfl)⟩
      · refine bv_blk C frk_X9 csk_X9 1 18 rfl (L1 := ([(0, .ref 0)] : Lc)) (st1 := ([.int (-100000)] : List Value)) (w1 := (layM g h)) (by rfl) ?_
        exact bv_iret C rfl hr rfl ⟨by (exact congrArg (fun x => some (Value.int x)) (((if_neg c1).trans ((if_neg c2).trans ((if_pos c3).trans rfl)))).symm), by (rfl)⟩
def shOK (g : Nat → Nat → Int32) (n S0 S1 : Nat) (a b : Int32) : Prop := (∀ (i j : Nat) (t : UInt32), i < S0 → j < S1 → (∃ q j2, shO g n S1 (S0 - i - 1) (i + 1) (shI g n i q j2 t) = shT g n S0 S1) → vf_n32 (FP.fadd t (recG g 0 (nI i) (nI j) n))) ∧ vf_n32 (FP.fdiv (recG g 0 a b n) (shT g n S0 S1)) ∧ vf_n32 (FP.fmul (FP.fdiv (recG g 0 a b n) (shT g n S0 S1)) 1148846080) ∧ Op.cmpValue (FP.fcmp (FP.fdiv (recG g 0 a b n) (shT g n S0 S1)) (FP.fdiv (recG g 0 a b n) (shT g n S0 S1))) .l = 0
set_option maxRecDepth 100000 in
set_option maxHeartbeats 8000000 in
theorem ct_share_f {l : Launch} {D : va_G} {cA : FieldType → ClassId} {z0 : Nat} {SK SV : Nat → Nat} {ad : Nat → Nat} (hE : aD (fun q => z0 ≤ q) ad 9) (g : Nat → Nat → Int32) (h : Int64) (a b : Int32) (hp : ¬ (((0) ≤ a ∧ a ≤ (g 1 15) - (1)) ∧ ((0) ≤ b ∧ b ≤ (g 1 35) - (1)))) : bF l D cA z0 SK SV ad shM 9 yX9_share cX9_share 3 (some .int) 6 [.ref 0, .int a, .int b] (layM g h) (some (.int (-100001))) (layM g h) := by
  refine bCT_intro (tb := tb_X9_share) (own := RX9) hE pn_X9 rfl tk_X9_share rfl (Nat.le_of_ble_eq_true rfl) ?_
  intro p e s0 m args below meth c C hr
  refine bv_blk C frk_X9 csk_X9 3 3 rfl (L1 := ([(0, .ref 0), (1, .int a), (2, .int b)] : Lc)) (st1 := ([.int b, .int a, .ref 0] : List Value)) (w1 := (layM g h)) (by rfl) ?_
  refine bv_fV1 C rfl (ct_areSectors_f hE g _ a b hp) ml_X9_297 im_X9_areSectors sel_X9_areSectors ini_X9 cd_X9_areSectors ok_X9_areSectors rfl ⟨Nat.le_of_ble_eq_true rfl, Nat.le_of_ble_eq_true rfl⟩ ⟨Nat.zero_le _, Nat.zero_le _⟩ (by decide) rfl rfl rfl (rest := ([] : List Value)) rfl (Nat.le_of_ble_eq_true rfl) ?_
  refine bv_if_ne (j := 7) C rfl rfl (fun h => absurd h (by decide)) (fun _ => ?_)
  refine bv_blk C frk_X9 csk_X9 1 6 rfl (L1 := ([(0, .ref 0), (1, .int a), (2, .int b)] : Lc)) (st1 := ([.int (-100001)] : List Value)) (w1 := (layM g h)) (by rfl) ?_
  exact bv_iret C rfl hr rfl ⟨by (rfl), by (rfl)⟩
set_option maxRecDepth 100000 in
set_option maxHeartbeats 8000000 in
theorem ct_shareBits_f {l : Launch} {D : va_G} {cA : FieldType → ClassId} {z0 : Nat} {SK SV : Nat → Nat} {ad : Nat → Nat} (hE : aD (fun q => z0 ≤ q) ad 9) (g : Nat → Nat → Int32) (h : Int64) (a b : Int32) (hp : ¬ (((0) ≤ a ∧ a ≤ (g 1 15) - (1)) ∧ ((0) ≤ b ∧ b ≤ (g 1 35) - (1)))) : bF l D cA z0 SK SV ad shM 9 yX9_shareBits cX9_shareBits 3 (some .int) 6 [.ref 0, .int a, .int b] (layM g h) (some (.int (-100001))) (layM g h) := by
  refine bCT_intro (tb := tb_X9_shareBits) (own := RX9) hE pn_X9 rfl tk_X9_shareBits rfl (Nat.le_of_ble_eq_true rfl) ?_
  intro p e s0 m args below meth c C hr
  refine bv_blk C frk_X9 csk_X9 3 3 rfl (L1 := ([(0, .ref 0), (1, .int a), (2, .int b)] : Lc)) (st1 := ([.int b, .int a, .ref 0] : List Value)) (w1 := (layM g h)) (by rfl) ?_
  refine bv_fV1 C rfl (ct_areSectors_f hE g _ a b hp) ml_X9_297 im_X9_areSectors sel_X9_areSectors ini_X9 cd_X9_areSectors ok_X9_areSectors rfl ⟨Nat.le_of_ble_eq_true rfl, Nat.le_of_ble_eq_true rfl⟩ ⟨Nat.zero_le _, Nat.zero_le _⟩ (by decide) rfl rfl rfl (rest := ([] : List Value)) rfl (Nat.le_of_ble_eq_true rfl) ?_
  refine bv_if_ne (j := 7) C rfl rfl (fun h => absurd h (by decide)) (fun _ => ?_)
  refine bv_blk C frk_X9 csk_X9 1 6 rfl (L1 := ([(0, .ref 0), (1, .int a), (2, .int b)] : Lc)) (st1 := ([.int (-100001)] : List Value)) (w1 := (layM g h)) (by rfl) ?_
  exact bv_iret C rfl hr rfl ⟨by (rfl), by (rfl)⟩
set_option maxRecDepth 100000 in
set_option maxHeartbeats 8000000 in
theorem ct_share_t {l : Launch} {D : va_G} {cA : FieldType → ClassId} {z0 : Nat} {SK SV : Nat → Nat} {ad : Nat → Nat} (hE : aD (fun q => z0 ≤ q) ad 9) (g : Nat → Nat → Int32) (h : Int64) (n S0 S1 : Nat) (a b : Int32) (hs : statR g n) (hS0 : g 1 15 = nI S0) (hS1 : g 1 35 = nI S1) (hA : S0 ≤ 16) (hB : S1 ≤ 16) (hp : (((0) ≤ a ∧ a ≤ (g 1 15) - (1)) ∧ ((0) ≤ b ∧ b ≤ (g 1 35) - (1)))) (hk : ¬ n = 0 → shOK g n S0 S1 a b) : bF l D cA z0 SK SV ad shM 9 yX9_share cX9_share 3 (some .int) 6 [.ref 0, .int a, .int b] (layM g h) (some (.int (if n = 0 then -100000 else FP.f2i (FP.fmul (FP.fdiv (recG g 0 a b n) (shT g n S0 S1)) 1148846080)))) (layM g h) := by
  refine bCT_intro (tb := tb_X9_share) (own := RX9) hE pn_X9 rfl tk_X9_share rfl (Nat.le_of_ble_eq_true rfl) ?_
  intro p e s0 m args below meth c C hr
  have hn8 := hs.2.1
  refine bv_blk C frk_X9 csk_X9 3 3 rfl (L1 := ([(0, .ref 0), (1, .int a), (2, .int b)] : Lc)) (st1 := ([.int b, .int a, .ref 0] : List Value)) (w1 := (layM g h)) (by rfl) ?_
  refine bv_fV1 C rfl (ct_areSectors_t hE g _ a b hp) ml_X9_297 im_X9_areSectors sel_X9_areSectors ini_X9 cd_X9_areSectors ok_X9_areSectors rfl ⟨Nat.le_of_ble_eq_true rfl, Nat.le_of_ble_eq_true rfl⟩ ⟨Nat.zero_le _, Nat.zero_le _⟩ (by decide) rfl rfl rfl (rest := ([] : List Value)) rfl (Nat.le_of_ble_eq_true rfl) ?_
  refine bv_if_ne (j := 7) C rfl rfl (fun _ => ?_) (fun h => absurd h (by decide))
  refine bv_blk C frk_X9 csk_X9 3 10 rfl (L1 := ([(0, .ref 0), (1, .int a), (2, .int b)] : Lc)) (st1 := ([.int (12), .ref 1] : List Value)) (w1 := (layM g h)) (by rfl) ?_
  refine bv_iald C rfl rfl (by decide) (j := 12) (by exact rfl) (by first | decide | omega) (by decide) (y := (g 1 12)) (by rfl) ?_
  refine bv_if_ne (j := 14) C rfl rfl (fun c2 => ?_) (fun c2 => ?_)
  · refine bv_blk C frk_X9 csk_X9 3 17 rfl (L1 := ([(0, .ref 0), (1, .int a), (2, .int b)] : Lc)) (st1 := ([.int b, .int a, .ref 0] : List Value)) (w1 := (layM g h)) (by rfl) ?_
    refine bv_fV1 C rfl (ct_shareOf hE g _ n S0 S1 a b hs hS0 hS1 hA hB (hk (fun z => c2 ((n0_of hs.1 (by omega)).mpr z))).1 (hk (fun z => c2 ((n0_of hs.1 (by omega)).mpr z))).2.1) ml_X9_300 im_X9_shareOf sel_X9_shareOf ini_X9 cd_X9_shareOf ok_X9_shareOf rfl ⟨Nat.le_of_ble_eq_true rfl, Nat.le_of_ble_eq_true rfl⟩ ⟨Nat.zero_le _, Nat.zero_le _⟩ (by decide) rfl rfl rfl (rest := ([] : List Value)) rfl (Nat.le_of_ble_eq_true rfl) ?_
    refine bv_ldcwf C rfl (mw (mT_6 165 rfl) rfl) ?_
    refine bv_fmul C rfl (hk (fun z => c2 ((n0_of hs.1 (by omega)).mpr z))).2.2.1 ?_
    refine bv_blk C frk_X9 csk_X9 1 21 rfl (L1 := ([(0, .ref 0), (1, .int a), (2, .int b)] : Lc)) (st1 := ([.int (FP.f2i (FP.fmul (FP.fdiv (recG g 0 a b n) (shT g n S0 S1)) 1148846080))] : List Value)) (w1 := (layM g h)) (by rfl) ?_
    exact bv_iret C rfl hr rfl ⟨by (rw [if_neg (fun z => c2 ((n0_of hs.1 (by omega)).mpr z))]), by (rfl)⟩
  · refine bv_blk C frk_X9 csk_X9 1 13 rfl (L1 := ([(0, .ref 0), (1, .int a), (2, .int b)] : Lc)) (st1 := ([.int (-100000)] : List Value)) (w1 := (layM g h)) (by rfl) ?_
    refine bv_goto (j := 21) C rfl rfl ?_
    exact bv_iret C rfl hr rfl ⟨by (rw [if_pos ((n0_of hs.1 (by omega)).mp c2)]), by (rfl)⟩
set_option maxRecDepth 100000 in
set_option maxHeartbeats 8000000 in
theorem ct_shareBits_t {l : Launch} {D : va_G} {cA : FieldType → ClassId} {z0 : Nat} {SK SV : Nat → Nat} {ad : Nat → Nat} (hE : aD (fun q => z0 ≤ q) ad 9) (g : Nat → Nat → Int32) (h : Int64) (n S0 S1 : Nat) (a b : Int32) (hs : statR g n) (hS0 : g 1 15 = nI S0) (hS1 : g 1 35 = nI S1) (hA : S0 ≤ 16) (hB : S1 ≤ 16) (hp : (((0) ≤ a ∧ a ≤ (g 1 15) - (1)) ∧ ((0) ≤ b ∧ b ≤ (g 1 35) - (1)))) (hk : ¬ n = 0 → shOK g n S0 S1 a b) : bF l D cA z0 SK SV ad shM 9 yX9_shareBits cX9_shareBits 3 (some .int) 6 [.ref 0, .int a, .int b] (layM g h) (some (.int (if n = 0 then -100000 else (FP.fdiv (recG g 0 a b n) (shT g n S0 S1)).toInt32))) (layM g h) := by
  refine bCT_intro (tb := tb_X9_shareBits) (own := RX9) hE pn_X9 rfl tk_X9_shareBits rfl (Nat.le_of_ble_eq_true rfl) ?_
  intro p e s0 m args below meth c C hr
  have hn8 := hs.2.1
  refine bv_blk C frk_X9 csk_X9 3 3 rfl (L1 := ([(0, .ref 0), (1, .int a), (2, .int b)] : Lc)) (st1 := ([.int b, .int a, .ref 0] : List Value)) (w1 := (layM g h)) (by rfl) ?_
  refine bv_fV1 C rfl (ct_areSectors_t hE g _ a b hp) ml_X9_297 im_X9_areSectors sel_X9_areSectors ini_X9 cd_X9_areSectors ok_X9_areSectors rfl ⟨Nat.le_of_ble_eq_true rfl, Nat.le_of_ble_eq_true rfl⟩ ⟨Nat.zero_le _, Nat.zero_le _⟩ (by decide) rfl rfl rfl (rest := ([] : List Value)) rfl (Nat.le_of_ble_eq_true rfl) ?_
  refine bv_if_ne (j := 7) C rfl rfl (fun _ => ?_) (fun h => absurd h (by decide))
  refine bv_blk C frk_X9 csk_X9 3 10 rfl (L1 := ([(0, .ref 0), (1, .int a), (2, .int b)] : Lc)) (st1 := ([.int (12), .ref 1] : List Value)) (w1 := (layM g h)) (by rfl) ?_
  refine bv_iald C rfl rfl (by decide) (j := 12) (by exact rfl) (by first | decide | omega) (by decide) (y := (g 1 12)) (by rfl) ?_
  refine bv_if_ne (j := 14) C rfl rfl (fun c2 => ?_) (fun c2 => ?_)
  · refine bv_blk C frk_X9 csk_X9 3 17 rfl (L1 := ([(0, .ref 0), (1, .int a), (2, .int b)] : Lc)) (st1 := ([.int b, .int a, .ref 0] : List Value)) (w1 := (layM g h)) (by rfl) ?_
    refine bv_fV1 C rfl (ct_shareOf hE g _ n S0 S1 a b hs hS0 hS1 hA hB (hk (fun z => c2 ((n0_of hs.1 (by omega)).mpr z))).1 (hk (fun z => c2 ((n0_of hs.1 (by omega)).mpr z))).2.1) ml_X9_300 im_X9_shareOf sel_X9_shareOf ini_X9 cd_X9_shareOf ok_X9_shareOf rfl ⟨Nat.le_of_ble_eq_true rfl, Nat.le_of_ble_eq_true rfl⟩ ⟨Nat.zero_le _, Nat.zero_le _⟩ (by decide) rfl rfl rfl (rest := ([] : List Value)) rfl (Nat.le_of_ble_eq_true rfl) ?_
    refine bv_fS1 C rfl (cj_f2ib hE _ (FP.fdiv (recG g 0 a b n) (shT g n S0 S1)) (hk (fun z => c2 ((n0_of hs.1 (by omega)).mpr z))).2.2.2) ml_X9_305 st_Jxf58ca_floatToIntBits_5c35a ini_Jxf58ca cd_Jxf58ca_floatToIntBits_5c35a ok_Jxf58ca_floatToIntBits_5c35a rfl ⟨Nat.le_of_ble_eq_true rfl, Nat.le_of_ble_eq_true rfl⟩ ⟨Nat.zero_le _, Nat.zero_le _⟩ (rest := ([] : List Value)) rfl (Nat.le_of_ble_eq_true rfl) ?_
    exact bv_iret C rfl hr rfl ⟨by (rw [if_neg (fun z => c2 ((n0_of hs.1 (by omega)).mpr z))]), by (rfl)⟩
  · refine bv_blk C frk_X9 csk_X9 1 13 rfl (L1 := ([(0, .ref 0), (1, .int a), (2, .int b)] : Lc)) (st1 := ([.int (-100000)] : List Value)) (w1 := (layM g h)) (by rfl) ?_
    refine bv_goto (j := 19) C rfl rfl ?_
    exact bv_iret C rfl hr rfl ⟨by (rw [if_pos ((n0_of hs.1 (by omega)).mp c2)]), by (rfl)⟩
