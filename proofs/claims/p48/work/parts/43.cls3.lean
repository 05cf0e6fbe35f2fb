section TS
variable {p : Program} {l : Launch} {e : Env} {R : Room} {s : State} {m : MethodId} {args : Array Value} {below : List Frame} {meth : Method} {c : Code} {D : va_G} {cA : FieldType → ClassId} {z0 : Nat} {SK : Nat → Nat} {SV : Nat → Int32} {sh : Sh} {A : Nat → Prop} {nL : Nat} {own : String} {cc : ByteArray} {tb : Tb} {Q : State → Prop} {ad : Nat → Nat} {N cells slots : Nat} {w w1 : Wd} {i j pc : Nat} {L L1 : Lc} {st st1 r : List Value}
theorem bv_tswI (C : bC p s m args meth c D cA z0 SK SV A nL own cc tb) {dflt lo hi : Int} {offs : Array Int} {len : Nat} {x : Int32} {off : Int} (ht : tb[i]? = some (pc, .tableswitch dflt lo hi offs)) (hd : decode cc pc = .ok (.tableswitch dflt lo hi offs, len)) (h1 : ¬ x.toInt < lo) (h2 : ¬ hi < x.toInt) (ho : offs[(x.toInt - lo).toNat]? = some off) (hj : (pc : Int) + off = (pcAt tb j : Int)) (k : bV p l e R s m args below meth c D cA sh A nL tb Q ad N cells slots w j L st) : bV p l e R s m args below meth c D cA sh A nL tb Q ad N cells slots w i L (.int x :: st) := by
  intro H locs ls ha hP hS hl
  rw [pcAt_of ht]
  exact lv_tableIn C.1 C.2.1 hd h1 h2 ho hj (k H locs ls ha hP hS hl)
theorem bv_tswO (C : bC p s m args meth c D cA z0 SK SV A nL own cc tb) {dflt lo hi : Int} {offs : Array Int} {len : Nat} {x : Int32} (ht : tb[i]? = some (pc, .tableswitch dflt lo hi offs)) (hd : decode cc pc = .ok (.tableswitch dflt lo hi offs, len)) (h1 : x.toInt < lo ∨ hi < x.toInt) (hj : (pc : Int) + dflt = (pcAt tb j : Int)) (k : bV p l e R s m args below meth c D cA sh A nL tb Q ad N cells slots w j L st) : bV p l e R s m args below meth c D cA sh A nL tb Q ad N cells slots w i L (.int x :: st) := by
  intro H locs ls ha hP hS hl
  rw [pcAt_of ht]
  exact lv_tableOut C.1 C.2.1 hd h1 hj (k H locs ls ha hP hS hl)
theorem met_ofF {y : MethodName} {ws ws' : List Cond} {rm : Room} {Pc : Array Value → State → Prop} {Qc : Array Value → State → Outcome → State → Prop} {mc ms : Nat} {free : Addr → Prop} {cc : ByteArray} {maxL : Nat} {ret : Option FieldType}
    (hy : plainFor y = true) (hw : ws = Cond.code y cc maxL ret :: ws')
    (body : ∀ p e s m args below meth c s₁, BodyLoose p l y (headSpec ws rm) cc maxL ret e s m args below meth c s₁ → c.maxLocals = maxL → Pc args s →
      W p l e (headSpec ws rm).room s m args below meth c s.heap [] 0 0 (MQ below Qc args s mc ms free) (entryFrame m args maxL)) : Met l y ws rm Pc Qc mc ms free := by
  refine MetFree.of_bodySF (code := cc) (maxLocals := maxL) (ret := ret) hy ?_ ?_
  · intro args s m h hn
    obtain ⟨meth, c, h1, h2, h3, h4, h5, h6, -, -⟩ := Cond.code_spec hn (atoms_spec (ws := ws) h _ (by rw [hw]; exact List.mem_cons_self))
    exact ⟨meth, c, h1, h2, h3, h4, h5, h6⟩
  · intro p e s m args below meth c s₁ B hml hP _
    have hh0 : s₁.heap = s.heap := by rw [B.state]; rfl
    obtain ⟨t, a1, o, b1, b2, b3⟩ := body p e s m args below meth c s₁ B hml hP s₁ hh0 (Stand.of_body B)
    exact ⟨t, o, a1, b1, b2, ⟨b3.1, b3.2⟩⟩
theorem bCT_introF {As : List Value} {P : Option Value → Wd → Prop} {y : MethodName} {bytes : ByteArray} {maxL d : Nat} {ret : Option FieldType} (hE : aD (fun q => z0 ≤ q) ad N) (hy : plainFor y = true) (hown : y.cls = own) (htb : tbOK bytes tb) (h0 : pcAt tb 0 = 0) (hlen : (lg_sl As).length ≤ maxL)
    (body : ∀ (p : Program) (e : Env) (s : State) (m : MethodId) (args : Array Value) (below : List Frame) (meth : Method) (c : Code), bC p s m args meth c D cA z0 SK SV (adA ad N) maxL own bytes tb → meth.sig.returnType = ret →
      bV p l e (bR d) s m args below meth c D cA sh (adA ad N) maxL tb (MQ below (bQ D cA ad sh N P) args s 0 0 (adA ad N)) ad N 0 0 w 0 (lv_args 0 As) []) : bCT l D cA z0 SK SV ad sh N y bytes maxL ret d As w P := by
  refine met_ofF (cc := bytes) (maxL := maxL) (ret := ret) hy rfl ?_
  intro p e s m args below meth c s₁ B hml hv
  obtain ⟨rfl, hP, hK⟩ := hv
  have hts := atoms_spec (ws := Cond.code y bytes maxL ret :: ALLW) B.pre
  have hC : bC p s m (As.map (cvv ad)).toArray meth c D cA z0 SK SV (adA ad N) maxL own bytes tb := ⟨B.exec, B.bytes, hml, by rw [← hown]; exact findClass_of_methodNamed B.named, fun w hw => hts w (List.mem_cons_of_mem _ hw), hK, htb, fun q ⟨i, hi, hq⟩ => by rw [hq]; exact hE.2 i hi, B.notSynchronized⟩
  have hl := lv_entry (As.map (cvv ad)) (n := maxL) (by rw [lg_sl_len]; exact hlen)
  rw [lv_args_cv] at hl
  rw [lg_entry_eq]
  have k := body p e s m _ below meth c hC B.returns s.heap [] _ ⟨hE.1, fun i hi => ⟨i, hi, rfl⟩⟩ hP va_S.rf hl
  rw [h0] at k
  exact k
end TS
set_option maxRecDepth 100000 in
set_option maxHeartbeats 8000000 in
theorem cs_stepOf_0 {l : Launch} {D : va_G} {cA : FieldType → ClassId} {z0 : Nat} {SK : Nat → Nat} {SV : Nat → Int32} {ad : Nat → Nat} {sh : Sh} {N : Nat} (hE : aD (fun q => z0 ≤ q) ad N) (w : Wd)  : bF l D cA z0 SK SV ad sh N yX4_stepOf cX4_stepOf 1 (some .float) 0 [.int (0)] w (some (.float (partT 0))) w := by
  refine bCT_intro (tb := tb_X4_stepOf) (own := RX4) hE pn_X4 rfl tk_X4_stepOf rfl (Nat.le_of_ble_eq_true rfl) ?_
  intro p e s0 m args below meth c C hr
  refine bv_blk C frk_X4 csk_X4 1 1 rfl (L1 := ([(0, .int (0))] : Lc)) (st1 := ([.int (0)] : List Value)) (w1 := w) (by rfl) ?_
  refine bv_tswO (j := 24) (len := 59) C rfl (by decide +kernel) (by decide) rfl ?_
  refine bv_fconst1 C rfl ?_
  exact bv_fret C rfl hr ⟨by (rfl), by (rfl)⟩
set_option maxRecDepth 100000 in
set_option maxHeartbeats 8000000 in
theorem cs_stepOf_1 {l : Launch} {D : va_G} {cA : FieldType → ClassId} {z0 : Nat} {SK : Nat → Nat} {SV : Nat → Int32} {ad : Nat → Nat} {sh : Sh} {N : Nat} (hE : aD (fun q => z0 ≤ q) ad N) (w : Wd)  : bF l D cA z0 SK SV ad sh N yX4_stepOf cX4_stepOf 1 (some .float) 0 [.int (1)] w (some (.float (partT 1))) w := by
  refine bCT_intro (tb := tb_X4_stepOf) (own := RX4) hE pn_X4 rfl tk_X4_stepOf rfl (Nat.le_of_ble_eq_true rfl) ?_
  intro p e s0 m args below meth c C hr
  refine bv_blk C frk_X4 csk_X4 1 1 rfl (L1 := ([(0, .int (1))] : Lc)) (st1 := ([.int (1)] : List Value)) (w1 := w) (by rfl) ?_
  refine bv_tswI (j := 2) (len := 59) C rfl (by decide +kernel) (by decide) (by decide) rfl rfl ?_
  refine bv_blk C frk_X4 csk_X4 1 3 rfl (L1 := ([(0, .int (1))] : Lc)) (st1 := ([.float (1065852029)] : List Value)) (w1 := w) (by rfl) ?_
  exact bv_fret C rfl hr ⟨by (rfl), by (rfl)⟩
set_option maxRecDepth 100000 in
set_option maxHeartbeats 8000000 in
theorem cs_stepOf_2 {l : Launch} {D : va_G} {cA : FieldType → ClassId} {z0 : Nat} {SK : Nat → Nat} {SV : Nat → Int32} {ad : Nat → Nat} {sh : Sh} {N : Nat} (hE : aD (fun q => z0 ≤ q) ad N) (w : Wd)  : bF l D cA z0 SK SV ad sh N yX4_stepOf cX4_stepOf 1 (some .float) 0 [.int (2)] w (some (.float (partT 2))) w := by
  refine bCT_intro (tb := tb_X4_stepOf) (own := RX4) hE pn_X4 rfl tk_X4_stepOf rfl (Nat.le_of_ble_eq_true rfl) ?_
  intro p e s0 m args below meth c C hr
  refine bv_blk C frk_X4 csk_X4 1 1 rfl (L1 := ([(0, .int (2))] : Lc)) (st1 := ([.int (2)] : List Value)) (w1 := w) (by rfl) ?_
  refine bv_tswI (j := 4) (len := 59) C rfl (by decide +kernel) (by decide) (by decide) rfl rfl ?_
  refine bv_blk C frk_X4 csk_X4 1 5 rfl (L1 := ([(0, .int (2))] : Lc)) (st1 := ([.float (1066380502)] : List Value)) (w1 := w) (by rfl) ?_
  exact bv_fret C rfl hr ⟨by (rfl), by (rfl)⟩
set_option maxRecDepth 100000 in
set_option maxHeartbeats 8000000 in
theorem cs_stepOf_3 {l : Launch} {D : va_G} {cA : FieldType → ClassId} {z0 : Nat} {SK : Nat → Nat} {SV : Nat → Int32} {ad : Nat → Nat} {sh : Sh} {N : Nat} (hE : aD (fun q => z0 ≤ q) ad N) (w : Wd)  : bF l D cA z0 SK SV ad sh N yX4_stepOf cX4_stepOf 1 (some .float) 0 [.int (3)] w (some (.float (partT 3))) w := by
  refine bCT_intro (tb := tb_X4_stepOf) (own := RX4) hE pn_X4 rfl tk_X4_stepOf rfl (Nat.le_of_ble_eq_true rfl) ?_
  intro p e s0 m args below meth c C hr
  refine bv_blk C frk_X4 csk_X4 1 1 rfl (L1 := ([(0, .int (3))] : Lc)) (st1 := ([.int (3)] : List Value)) (w1 := w) (by rfl) ?_
  refine bv_tswI (j := 6) (len := 59) C rfl (by decide +kernel) (by decide) (by decide) rfl rfl ?_
  refine bv_blk C frk_X4 csk_X4 1 7 rfl (L1 := ([(0, .int (3))] : Lc)) (st1 := ([.float (1066940400)] : List Value)) (w1 := w) (by rfl) ?_
  exact bv_fret C rfl hr ⟨by (rfl), by (rfl)⟩
set_option maxRecDepth 100000 in
set_option maxHeartbeats 8000000 in
theorem cs_stepOf_4 {l : Launch} {D : va_G} {cA : FieldType → ClassId} {z0 : Nat} {SK : Nat → Nat} {SV : Nat → Int32} {ad : Nat → Nat} {sh : Sh} {N : Nat} (hE : aD (fun q => z0 ≤ q) ad N) (w : Wd)  : bF l D cA z0 SK SV ad sh N yX4_stepOf cX4_stepOf 1 (some .float) 0 [.int (4)] w (some (.float (partT 4))) w := by
  refine bCT_intro (tb := tb_X4_stepOf) (own := RX4) hE pn_X4 rfl tk_X4_stepOf rfl (Nat.le_of_ble_eq_true rfl) ?_
  intro p e s0 m args below meth c C hr
  refine bv_blk C frk_X4 csk_X4 1 1 rfl (L1 := ([(0, .int (4))] : Lc)) (st1 := ([.int (4)] : List Value)) (w1 := w) (by rfl) ?_
  refine bv_tswI (j := 8) (len := 59) C rfl (by decide +kernel) (by decide) (by decide) rfl rfl ?_
  refine bv_blk C frk_X4 csk_X4 1 9 rfl (L1 := ([(0, .int (4))] : Lc)) (st1 := ([.float (1067533592)] : List Value)) (w1 := w) (by rfl) ?_
  exact bv_fret C rfl hr ⟨by (rfl), by (rfl)⟩
set_option maxRecDepth 100000 in
set_option maxHeartbeats 8000000 in
theorem cs_stepOf_5 {l : Launch} {D : va_G} {cA : FieldType → ClassId} {z0 : Nat} {SK : Nat → Nat} {SV : Nat → Int32} {ad : Nat → Nat} {sh : Sh} {N : Nat} (hE : aD (fun q => z0 ≤ q) ad N) (w : Wd)  : bF l D cA z0 SK SV ad sh N yX4_stepOf cX4_stepOf 1 (some .float) 0 [.int (5)] w (some (.float (partT 5))) w := by
  refine bCT_intro (tb := tb_X4_stepOf) (own := RX4) hE pn_X4 rfl tk_X4_stepOf rfl (Nat.le_of_ble_eq_true rfl) ?_
  intro p e s0 m args below meth c C hr
  refine bv_blk C frk_X4 csk_X4 1 1 rfl (L1 := ([(0, .int (5))] : Lc)) (st1 := ([.int (5)] : List Value)) (w1 := w) (by rfl) ?_
  refine bv_tswI (j := 10) (len := 59) C rfl (by decide +kernel) (by decide) (by decide) rfl rfl ?_
  refine bv_blk C frk_X4 csk_X4 1 11 rfl (L1 := ([(0, .int (5))] : Lc)) (st1 := ([.float (1068162056)] : List Value)) (w1 := w) (by rfl) ?_
  exact bv_fret C rfl hr ⟨by (rfl), by (rfl)⟩
set_option maxRecDepth 100000 in
set_option maxHeartbeats 8000000 in
theorem cs_stepOf_6 {l : Launch} {D : va_G} {cA : FieldType → ClassId} {z0 : Nat} {SK : Nat → Nat} {SV : Nat → Int32} {ad : Nat → Nat} {sh : Sh} {N : Nat} (hE : aD (fun q => z0 ≤ q) ad N) (w : Wd)  : bF l D cA z0 SK SV ad sh N yX4_stepOf cX4_stepOf 1 (some .float) 0 [.int (6)] w (some (.float (partT 6))) w := by
  refine bCT_intro (tb := tb_X4_stepOf) (own := RX4) hE pn_X4 rfl tk_X4_stepOf rfl (Nat.le_of_ble_eq_true rfl) ?_
  intro p e s0 m args below meth c C hr
  refine bv_blk C frk_X4 csk_X4 1 1 rfl (L1 := ([(0, .int (6))] : Lc)) (st1 := ([.int (6)] : List Value)) (w1 := w) (by rfl) ?_
  refine bv_tswI (j := 12) (len := 59) C rfl (by decide +kernel) (by decide) (by decide) rfl rfl ?_
  refine bv_blk C frk_X4 csk_X4 1 13 rfl (L1 := ([(0, .int (6))] : Lc)) (st1 := ([.float (1068827891)] : List Value)) (w1 := w) (by rfl) ?_
  exact bv_fret C rfl hr ⟨by (rfl), by (rfl)⟩
set_option maxRecDepth 100000 in
set_option maxHeartbeats 8000000 in
theorem cs_stepOf_7 {l : Launch} {D : va_G} {cA : FieldType → ClassId} {z0 : Nat} {SK : Nat → Nat} {SV : Nat → Int32} {ad : Nat → Nat} {sh : Sh} {N : Nat} (hE : aD (fun q => z0 ≤ q) ad N) (w : Wd)  : bF l D cA z0 SK SV ad sh N yX4_stepOf cX4_stepOf 1 (some .float) 0 [.int (7)] w (some (.float (partT 7))) w := by
  refine bCT_intro (tb := tb_X4_stepOf) (own := RX4) hE pn_X4 rfl tk_X4_stepOf rfl (Nat.le_of_ble_eq_true rfl) ?_
  intro p e s0 m args below meth c C hr
  refine bv_blk C frk_X4 csk_X4 1 1 rfl (L1 := ([(0, .int (7))] : Lc)) (st1 := ([.int (7)] : List Value)) (w1 := w) (by rfl) ?_
  refine bv_tswI (j := 14) (len := 59) C rfl (by decide +kernel) (by decide) (by decide) rfl rfl ?_
  refine bv_blk C frk_X4 csk_X4 1 15 rfl (L1 := ([(0, .int (7))] : Lc)) (st1 := ([.float (1069533319)] : List Value)) (w1 := w) (by rfl) ?_
  exact bv_fret C rfl hr ⟨by (rfl), by (rfl)⟩
set_option maxRecDepth 100000 in
set_option maxHeartbeats 8000000 in
theorem cs_stepOf_8 {l : Launch} {D : va_G} {cA : FieldType → ClassId} {z0 : Nat} {SK : Nat → Nat} {SV : Nat → Int32} {ad : Nat → Nat} {sh : Sh} {N : Nat} (hE : aD (fun q => z0 ≤ q) ad N) (w : Wd)  : bF l D cA z0 SK SV ad sh N yX4_stepOf cX4_stepOf 1 (some .float) 0 [.int (8)] w (some (.float (partT 8))) w := by
  refine bCT_intro (tb := tb_X4_stepOf) (own := RX4) hE pn_X4 rfl tk_X4_stepOf rfl (Nat.le_of_ble_eq_true rfl) ?_
  intro p e s0 m args below meth c C hr
  refine bv_blk C frk_X4 csk_X4 1 1 rfl (L1 := ([(0, .int (8))] : Lc)) (st1 := ([.int (8)] : List Value)) (w1 := w) (by rfl) ?_
  refine bv_tswI (j := 16) (len := 59) C rfl (by decide +kernel) (by decide) (by decide) rfl rfl ?_
  refine bv_blk C frk_X4 csk_X4 1 17 rfl (L1 := ([(0, .int (8))] : Lc)) (st1 := ([.float (1070280693)] : List Value)) (w1 := w) (by rfl) ?_
  exact bv_fret C rfl hr ⟨by (rfl), by (rfl)⟩
set_option maxRecDepth 100000 in
set_option maxHeartbeats 8000000 in
theorem cs_stepOf_9 {l : Launch} {D : va_G} {cA : FieldType → ClassId} {z0 : Nat} {SK : Nat → Nat} {SV : Nat → Int32} {ad : Nat → Nat} {sh : Sh} {N : Nat} (hE : aD (fun q => z0 ≤ q) ad N) (w : Wd)  : bF l D cA z0 SK SV ad sh N yX4_stepOf cX4_stepOf 1 (some .float) 0 [.int (9)] w (some (.float (partT 9))) w := by
  refine bCT_intro (tb := tb_X4_stepOf) (own := RX4) hE pn_X4 rfl tk_X4_stepOf rfl (Nat.le_of_ble_eq_true rfl) ?_
  intro p e s0 m args below meth c C hr
  refine bv_blk C frk_X4 csk_X4 1 1 rfl (L1 := ([(0, .int (9))] : Lc)) (st1 := ([.int (9)] : List Value)) (w1 := w) (by rfl) ?_
  refine bv_tswI (j := 18) (len := 59) C rfl (by decide +kernel) (by decide) (by decide) rfl rfl ?_
  refine bv_blk C frk_X4 csk_X4 1 19 rfl (L1 := ([(0, .int (9))] : Lc)) (st1 := ([.float (1071072509)] : List Value)) (w1 := w) (by rfl) ?_
  exact bv_fret C rfl hr ⟨by (rfl), by (rfl)⟩
set_option maxRecDepth 100000 in
set_option maxHeartbeats 8000000 in
theorem cs_stepOf_10 {l : Launch} {D : va_G} {cA : FieldType → ClassId} {z0 : Nat} {SK : Nat → Nat} {SV : Nat → Int32} {ad : Nat → Nat} {sh : Sh} {N : Nat} (hE : aD (fun q => z0 ≤ q) ad N) (w : Wd)  : bF l D cA z0 SK SV ad sh N yX4_stepOf cX4_stepOf 1 (some .float) 0 [.int (10)] w (some (.float (partT 10))) w := by
  refine bCT_intro (tb := tb_X4_stepOf) (own := RX4) hE pn_X4 rfl tk_X4_stepOf rfl (Nat.le_of_ble_eq_true rfl) ?_
  intro p e s0 m args below meth c C hr
  refine bv_blk C frk_X4 csk_X4 1 1 rfl (L1 := ([(0, .int (10))] : Lc)) (st1 := ([.int (10)] : List Value)) (w1 := w) (by rfl) ?_
  refine bv_tswI (j := 20) (len := 59) C rfl (by decide +kernel) (by decide) (by decide) rfl rfl ?_
  refine bv_blk C frk_X4 csk_X4 1 21 rfl (L1 := ([(0, .int (10))] : Lc)) (st1 := ([.float (1071911408)] : List Value)) (w1 := w) (by rfl) ?_
  exact bv_fret C rfl hr ⟨by (rfl), by (rfl)⟩
set_option maxRecDepth 100000 in
set_option maxHeartbeats 8000000 in
theorem cs_stepOf_11 {l : Launch} {D : va_G} {cA : FieldType → ClassId} {z0 : Nat} {SK : Nat → Nat} {SV : Nat → Int32} {ad : Nat → Nat} {sh : Sh} {N : Nat} (hE : aD (fun q => z0 ≤ q) ad N) (w : Wd)  : bF l D cA z0 SK SV ad sh N yX4_stepOf cX4_stepOf 1 (some .float) 0 [.int (11)] w (some (.float (partT 11))) w := by
  refine bCT_intro (tb := tb_X4_stepOf) (own := RX4) hE pn_X4 rfl tk_X4_stepOf rfl (Nat.le_of_ble_eq_true rfl) ?_
  intro p e s0 m args below meth c C hr
  refine bv_blk C frk_X4 csk_X4 1 1 rfl (L1 := ([(0, .int (11))] : Lc)) (st1 := ([.int (11)] : List Value)) (w1 := w) (by rfl) ?_
  refine bv_tswI (j := 22) (len := 59) C rfl (by decide +kernel) (by decide) (by decide) rfl rfl ?_
  refine bv_blk C frk_X4 csk_X4 1 23 rfl (L1 := ([(0, .int (11))] : Lc)) (st1 := ([.float (1072800191)] : List Value)) (w1 := w) (by rfl) ?_
  exact bv_fret C rfl hr ⟨by (rfl), by (rfl)⟩
theorem cs_stepOf {l : Launch} {D : va_G} {cA : FieldType → ClassId} {z0 : Nat} {SK : Nat → Nat} {SV : Nat → Int32} {ad : Nat → Nat} {sh : Sh} {N : Nat} (hE : aD (fun q => z0 ≤ q) ad N) (w : Wd) (k : Nat) (hk : k < 12) : bF l D cA z0 SK SV ad sh N yX4_stepOf cX4_stepOf 1 (some .float) 0 [.int (nI k)] w (some (.float (partT k))) w := by
  rcases (show k = 0 ∨ k = 1 ∨ k = 2 ∨ k = 3 ∨ k = 4 ∨ k = 5 ∨ k = 6 ∨ k = 7 ∨ k = 8 ∨ k = 9 ∨ k = 10 ∨ k = 11 by omega) with rfl | rfl | rfl | rfl | rfl | rfl | rfl | rfl | rfl | rfl | rfl | rfl
  · exact cs_stepOf_0 hE w
  · exact cs_stepOf_1 hE w
  · exact cs_stepOf_2 hE w
  · exact cs_stepOf_3 hE w
  · exact cs_stepOf_4 hE w
  · exact cs_stepOf_5 hE w
  · exact cs_stepOf_6 hE w
  · exact cs_stepOf_7 hE w
  · exact cs_stepOf_8 hE w
  · exact cs_stepOf_9 hE w
  · exact cs_stepOf_10 hE w
  · exact cs_stepOf_11 hE w
def cs_floorDiv_r (x y : Int32) : Int32 := (if 0 ≤ (x ^^^ y) then (x / y) else (if ((x / y) * y) = x then (x / y) else ((x / y) - (1))))
set_option maxRecDepth 100000 in
set_option maxHeartbeats 8000000 in
theorem cs_floorDiv {l : Launch} {D : va_G} {cA : FieldType → ClassId} {z0 : Nat} {SK : Nat → Nat} {SV : Nat → Int32} {ad : Nat → Nat} {sh : Sh} {N : Nat} (hE : aD (fun q => z0 ≤ q) ad N) (w : Wd) (x y : Int32) (hy : ¬ y = 0) : bF l D cA z0 SK SV ad sh N yJ9_floorDiv_7cf53 cJ9_floorDiv_7cf53 3 (some .int) 0 [.int x, .int y] w (some (.int (cs_floorDiv_r x y))) w := by
  refine bCT_introF (tb := tb_J9_floorDiv_7cf53) (own := RJ9) hE (show plainFor yJ9_floorDiv_7cf53 = true by decide +kernel) rfl tk_J9_floorDiv_7cf53 rfl (Nat.le_of_ble_eq_true rfl) ?_
  intro p e s0 m args below meth c C hr
  refine bv_blk C frk_J9 csk_J9 2 2 rfl (L1 := ([(0, .int x), (1, .int y)] : Lc)) (st1 := ([.int y, .int x] : List Value)) (w1 := w) (by rfl) ?_
  refine bv_idiv C rfl hy ?_
  refine bv_blk C frk_J9 csk_J9 4 7 rfl (L1 := ([(2, .int (x / y)), (0, .int x), (1, .int y)] : Lc)) (st1 := ([.int (x ^^^ y)] : List Value)) (w1 := w) (by rfl) ?_
  refine bv_if_ge (j := 17) C rfl rfl (fun c1 => ?_) (fun c1 => ?_)
  · refine bv_blk C frk_J9 csk_J9 1 18 rfl (L1 := ([(2, .int (x / y)), (0, .int x), (1, .int y)] : Lc)) (st1 := ([.int (x / y)] : List Value)) (w1 := w) (by rfl) ?_
    exact bv_iret C rfl hr rfl ⟨by (exact congrArg (fun x => some (Value.int x)) (((if_pos c1).trans rfl)).symm), by (rfl)⟩
  · refine bv_blk C frk_J9 csk_J9 4 12 rfl (L1 := ([(2, .int (x / y)), (0, .int x), (1, .int y)] : Lc)) (st1 := ([.int x, .int ((x / y) * y)] : List Value)) (w1 := w) (by rfl) ?_
    refine bv_icmp_eq (j := 17) C rfl rfl (fun c2 => ?_) (fun c2 => ?_)
    · refine bv_blk C frk_J9 csk_J9 1 18 rfl (L1 := ([(2, .int (x / y)), (0, .int x), (1, .int y)] : Lc)) (st1 := ([.int (x / y)] : List Value)) (w1 := w) (by rfl) ?_
      exact bv_iret C rfl hr rfl ⟨by (exact congrArg (fun x => some (Value.int x)) (((if_neg c1).trans ((if_pos c2).trans rfl))).symm), by (rfl)⟩
    · refine bv_blk C frk_J9 csk_J9 3 16 rfl (L1 := ([(2, .int (x / y)), (0, .int x), (1, .int y)] : Lc)) (st1 := ([.int ((x / y) - (1))] : List Value)) (w1 := w) (by rfl) ?_
      exact bv_iret C rfl hr rfl ⟨by (exact congrArg (fun x => some (Value.int x)) (((if_neg c1).trans ((if_neg c2).trans rfl))).symm), by (rfl)⟩
def cs_floorMod_r (x y : Int32) : Int32 := (if 0 ≤ (x ^^^ y) then (x - x / y * y) else (if (x - x / y * y) = 0 then (x - x / y * y) else ((x - x / y * y) + y)))
set_option maxRecDepth 100000 in
set_option maxHeartbeats 8000000 in
theorem cs_floorMod {l : Launch} {D : va_G} {cA : FieldType → ClassId} {z0 : Nat} {SK : Nat → Nat} {SV : Nat → Int32} {ad : Nat → Nat} {sh : Sh} {N : Nat} (hE : aD (fun q => z0 ≤ q) ad N) (w : Wd) (x y : Int32) (hy : ¬ y = 0) : bF l D cA z0 SK SV ad sh N yJ9_floorMod_7cf53 cJ9_floorMod_7cf53 3 (some .int) 0 [.int x, .int y] w (some (.int (cs_floorMod_r x y))) w := by
  refine bCT_introF (tb := tb_J9_floorMod_7cf53) (own := RJ9) hE (show plainFor yJ9_floorMod_7cf53 = true by decide +kernel) rfl tk_J9_floorMod_7cf53 rfl (Nat.le_of_ble_eq_true rfl) ?_
  intro p e s0 m args below meth c C hr
  refine bv_blk C frk_J9 csk_J9 2 2 rfl (L1 := ([(0, .int x), (1, .int y)] : Lc)) (st1 := ([.int y, .int x] : List Value)) (w1 := w) (by rfl) ?_
  refine bv_irem C rfl hy ?_
  refine bv_blk C frk_J9 csk_J9 4 7 rfl (L1 := ([(2, .int (x - x / y * y)), (0, .int x), (1, .int y)] : Lc)) (st1 := ([.int (x ^^^ y)] : List Value)) (w1 := w) (by rfl) ?_
  refine bv_if_ge (j := 14) C rfl rfl (fun c1 => ?_) (fun c1 => ?_)
  · refine bv_blk C frk_J9 csk_J9 1 15 rfl (L1 := ([(2, .int (x - x / y * y)), (0, .int x), (1, .int y)] : Lc)) (st1 := ([.int (x - x / y * y)] : List Value)) (w1 := w) (by rfl) ?_
    exact bv_iret C rfl hr rfl ⟨by (exact congrArg (fun x => some (Value.int x)) (((if_pos c1).trans rfl)).symm), by (rfl)⟩
  · refine bv_blk C frk_J9 csk_J9 1 9 rfl (L1 := ([(2, .int (x - x / y * y)), (0, .int x), (1, .int y)] : Lc)) (st1 := ([.int (x - x / y * y)] : List Value)) (w1 := w) (by rfl) ?_
    refine bv_if_eq (j := 14) C rfl rfl (fun c2 => ?_) (fun c2 => ?_)
    · refine bv_blk C frk_J9 csk_J9 1 15 rfl (L1 := ([(2, .int (x - x / y * y)), (0, .int x), (1, .int y)] : Lc)) (st1 := ([.int (x - x / y * y)] : List Value)) (w1 := w) (by rfl) ?_
      exact bv_iret C rfl hr rfl ⟨by (exact congrArg (fun x => some (Value.int x)) (((if_neg c1).trans ((if_pos c2).trans rfl))).symm), by (rfl)⟩
    · refine bv_blk C frk_J9 csk_J9 3 13 rfl (L1 := ([(2, .int (x - x / y * y)), (0, .int x), (1, .int y)] : Lc)) (st1 := ([.int ((x - x / y * y) + y)] : List Value)) (w1 := w) (by rfl) ?_
      exact bv_iret C rfl hr rfl ⟨by (exact congrArg (fun x => some (Value.int x)) (((if_neg c1).trans ((if_neg c2).trans rfl))).symm), by (rfl)⟩
def fdC (q : Int32) : Int32 := cs_floorDiv_r q 12
def fmC (q : Int32) : Int32 := cs_floorMod_r q 12
def pwC (q : Int32) : UInt32 := if fdC q < 0 then FP.fdiv (partT (fmC q).toNatClampNeg) (FP.l2f ((1 : Int64) <<< ((-(fdC q)).toInt64 &&& 63))) else FP.fmul (partT (fmC q).toNatClampNeg) (FP.l2f ((1 : Int64) <<< ((fdC q).toInt64 &&& 63)))
def chkI (q : Int32) : Bool := fmC q == arI q 12 && fdC q == (q - arI q 12) / 12
theorem chkI_all : ∀ m, m < 1101 → chkI (nI m - 700) = true := by decide +kernel
theorem pw_dbl : ∀ p, p < 12 → ∀ n, n < 36 → FP.fmul (partT p) (FP.l2f ((1 : Int64) <<< ((nI n).toInt64 &&& 63))) = dblN (partT p) n := by decide +kernel
theorem pw_hlf : ∀ p, p < 12 → ∀ n, n < 62 → FP.fdiv (partT p) (FP.l2f ((1 : Int64) <<< ((- -(nI n)).toInt64 &&& 63))) = hlfN (partT p) n := by decide +kernel
theorem chkP_of {q : Int32} (h : qOK q) : (fmC q).toNatClampNeg < 12 ∧ fmC q = nI (fmC q).toNatClampNeg ∧ pwC q = powF q ∧ vf_n32 (pwC q) := by
  have e : fmC q = arI q 12 ∧ fdC q = (q - arI q 12) / 12 := by
    obtain ⟨m, hm, rfl⟩ := h
    have := chkI_all m hm
    simp only [chkI, Bool.and_eq_true, beq_iff_eq] at this
    exact this
  have c : chkQ q = true := by
    obtain ⟨m, hm, rfl⟩ := h
    exact chkQ_all m hm
  simp only [chkQ, Bool.and_eq_true, Nat.blt_eq, beq_iff_eq] at c
  obtain ⟨⟨c1, c2⟩, c3⟩ := c
  unfold pwC powF
  rw [e.1, e.2]
  refine ⟨c1, c2, ?_⟩
  split at c3
  · next h0 =>
    simp only [Bool.and_eq_true, beq_iff_eq, Nat.ble_eq] at c3
    have h1 : ¬ (q - arI q 12) / 12 < 0 := Int32.not_lt.mpr h0
    have q1 := pw_dbl _ c1 ((q - arI q 12) / 12).toNatClampNeg (by omega)
    rw [← c3.1] at q1
    rw [if_neg h1, if_pos h0, q1]
    exact ⟨rfl, nn_dbl _ c1 _ (by omega)⟩
  · next h0 =>
    simp only [Bool.and_eq_true, beq_iff_eq, Nat.ble_eq] at c3
    have h1 : (q - arI q 12) / 12 < 0 := Int32.not_le.mp h0
    have q1 := pw_hlf _ c1 (-((q - arI q 12) / 12)).toNatClampNeg (by omega)
    rw [← c3.1.1] at q1
    rw [if_pos h1, if_neg h0, q1]
    exact ⟨rfl, nn_hlf _ c1 _ (by omega)⟩
set_option maxRecDepth 100000 in
set_option maxHeartbeats 8000000 in
theorem cs_powerOf {l : Launch} {D : va_G} {cA : FieldType → ClassId} {z0 : Nat} {SK : Nat → Nat} {SV : Nat → Int32} {ad : Nat → Nat} {sh : Sh} {N : Nat} (hE : aD (fun q => z0 ≤ q) ad N) (w : Wd) (q : Int32) (hq : qOK q) : bF l D cA z0 SK SV ad sh N yX4_powerOf cX4_powerOf 3 (some .float) 1 [.int q] w (some (.float (powF q))) w := by
  refine bCT_intro (tb := tb_X4_powerOf) (own := RX4) hE pn_X4 rfl tk_X4_powerOf rfl (Nat.le_of_ble_eq_true rfl) ?_
  intro p e s0 m args below meth c C hr
  obtain ⟨hf1, hf2, hf3, hf4⟩ := chkP_of hq
  refine bv_blk C frk_X4 csk_X4 2 2 rfl (L1 := ([(0, .int q)] : Lc)) (st1 := ([.int (12), .int q] : List Value)) (w1 := w) (by rfl) ?_
  refine bv_fS1 C rfl (cs_floorDiv hE _ q (12) (by decide)) ml_X4_7 st_J9_floorDiv_7cf53 ini_J9 cd_J9_floorDiv_7cf53 ok_J9_floorDiv_7cf53 rfl ⟨Nat.le_of_ble_eq_true rfl, Nat.le_of_ble_eq_true rfl⟩ ⟨Nat.zero_le _, Nat.zero_le _⟩ (rest := ([] : List Value)) rfl (Nat.le_of_ble_eq_true rfl) ?_
  refine bv_blk C frk_X4 csk_X4 3 6 rfl (L1 := ([(1, .int (cs_floorDiv_r q (12))), (0, .int q)] : Lc)) (st1 := ([.int (12), .int q] : List Value)) (w1 := w) (by rfl) ?_
  refine bv_fS1 C rfl (cs_floorMod hE _ q (12) (by decide)) ml_X4_13 st_J9_floorMod_7cf53 ini_J9 cd_J9_floorMod_7cf53 ok_J9_floorMod_7cf53 rfl ⟨Nat.le_of_ble_eq_true rfl, Nat.le_of_ble_eq_true rfl⟩ ⟨Nat.zero_le _, Nat.zero_le _⟩ (rest := ([] : List Value)) rfl (Nat.le_of_ble_eq_true rfl) ?_
  refine bv_fS1 C rfl (cs_stepOf hE _ ((fmC q).toNatClampNeg) hf1) ml_X4_16 st_X4_stepOf ini_X4 cd_X4_stepOf ok_X4_stepOf rfl ⟨Nat.le_of_ble_eq_true rfl, Nat.le_of_ble_eq_true rfl⟩ ⟨Nat.zero_le _, Nat.zero_le _⟩ (rest := ([] : List Value)) (by first | (rw [show (cs_floorMod_r q (12)) = nI (fmC q).toNatClampNeg from hf2]; done) | (rw [show (cs_floorMod_r q (12)) = nI (fmC q).toNatClampNeg from hf2]; rfl)) (Nat.le_of_ble_eq_true rfl) ?_
  refine bv_blk C frk_X4 csk_X4 2 10 rfl (L1 := ([(2, .float (partT ((fmC q).toNatClampNeg))), (1, .int (cs_floorDiv_r q (12))), (0, .int q)] : Lc)) (st1 := ([.int (cs_floorDiv_r q (12))] : List Value)) (w1 := w) (by rfl) ?_
  refine bv_if_lt (j := 18) C rfl rfl (fun c1 => ?_) (fun c1 => ?_)
  · refine bv_blk C frk_X4 csk_X4 6 24 rfl (L1 := ([(2, .float (partT ((fmC q).toNatClampNeg))), (1, .int (cs_floorDiv_r q (12))), (0, .int q)] : Lc)) (st1 := ([.float (FP.l2f ((1) <<< (Int32.toInt64 (-(cs_floorDiv_r q (12))) &&& 63))), .float (partT ((fmC q).toNatClampNeg))] : List Value)) (w1 := w) (by rfl) ?_
    refine bv_fdiv C rfl (show vf_n32 (FP.fdiv _ _) from (if_pos c1 : pwC q = _) ▸ hf4) ?_
    exact bv_fret C rfl hr ⟨by (rw [← hf3]; exact congrArg (fun x => some (Value.float x)) (((if_pos c1).trans rfl)).symm), by (rfl)⟩
  · refine bv_blk C frk_X4 csk_X4 5 16 rfl (L1 := ([(2, .float (partT ((fmC q).toNatClampNeg))), (1, .int (cs_floorDiv_r q (12))), (0, .int q)] : Lc)) (st1 := ([.float (FP.l2f ((1) <<< (Int32.toInt64 (cs_floorDiv_r q (12)) &&& 63))), .float (partT ((fmC q).toNatClampNeg))] : List Value)) (w1 := w) (by rfl) ?_
    refine bv_fmul C rfl (show vf_n32 (FP.fmul _ _) from (if_neg c1 : pwC q = _) ▸ hf4) ?_
    refine bv_goto (j := 25) C rfl rfl ?_
    exact bv_fret C rfl hr ⟨by (rw [← hf3]; exact congrArg (fun x => some (Value.float x)) (((if_neg c1).trans rfl)).symm), by (rfl)⟩
