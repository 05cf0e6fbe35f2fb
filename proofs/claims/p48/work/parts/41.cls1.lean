theorem pn_X0 : plainName RX0 = true := by decide +kernel
theorem pn_X1 : plainName RX1 = true := by decide +kernel
theorem pn_X2 : plainName RX2 = true := by decide +kernel
theorem pn_X3 : plainName RX3 = true := by decide +kernel
theorem pn_X4 : plainName RX4 = true := by decide +kernel
theorem pn_X5 : plainName RX5 = true := by decide +kernel
theorem pn_X6 : plainName RX6 = true := by decide +kernel
theorem pn_X7 : plainName RX7 = true := by decide +kernel
theorem pn_X8 : plainName RX8 = true := by decide +kernel
def wnI (v lo hi : Int32) : Int32 := if v < lo then 0 else if hi < v then 0 else 1
def isI (v : Int32) : Int32 := if v = 0 then 1 else if v = 1 then 1 else 0
def btI (v : Int32) : Int32 := if v = 0 then 0 else 1
def trnI (d b : Int32) : Int32 := (d + b) &&& 63
def agC (a b : Int32) : Int32 := if (a - b) &&& 63 ≤ 32 then (a - b) &&& 63 else 64 - ((a - b) &&& 63)
def mxL (h : Int64) (x : Int32) : Int64 := 31 * h + x.toInt64
set_option maxRecDepth 100000 in
set_option maxHeartbeats 8000000 in
theorem cs_within {l : Launch} {D : va_G} {cA : FieldType → ClassId} {z0 : Nat} {SK : Nat → Nat} {SV : Nat → Int32} {ad : Nat → Nat} {sh : Sh} {N : Nat} (hE : aD (fun q => z0 ≤ q) ad N) (w : Wd) (x y z : Int32) : bF l D cA z0 SK SV ad sh N yX8_within cX8_within 3 (some .boolean) 0 [.int x, .int y, .int z] w (some (.int (wnI x y z))) w := by
  refine bCT_intro (tb := tb_X8_within) (own := RX8) hE pn_X8 rfl tk_X8_within rfl (Nat.le_of_ble_eq_true rfl) ?_
  intro p e s0 m args below meth c C hr
  refine bv_blk C frk_X8 csk_X8 2 2 rfl (L1 := ([(0, .int x), (1, .int y), (2, .int z)] : Lc)) (st1 := ([.int y, .int x] : List Value)) (w1 := w) (by rfl) ?_
  refine bv_icmp_lt (j := 8) C rfl rfl (fun c1 => ?_) (fun c1 => ?_)
  · refine bv_blk C frk_X8 csk_X8 1 9 rfl (L1 := ([(0, .int x), (1, .int y), (2, .int z)] : Lc)) (st1 := ([.int (0)] : List Value)) (w1 := w) (by rfl) ?_
    exact bv_iret C rfl hr rfl ⟨by (exact congrArg (fun x => some (Value.int x)) (((if_pos c1).trans rfl)).symm), by (rfl)⟩
  · refine bv_blk C frk_X8 csk_X8 2 5 rfl (L1 := ([(0, .int x), (1, .int y), (2, .int z)] : Lc)) (st1 := ([.int z, .int x] : List Value)) (w1 := w) (by rfl) ?_
    refine bv_icmp_gt (j := 8) C rfl rfl (fun c2 => ?_) (fun c2 => ?_)
    · refine bv_blk C frk_X8 csk_X8 1 9 rfl (L1 := ([(0, .int x), (1, .int y), (2, .int z)] : Lc)) (st1 := ([.int (0)] : List Value)) (w1 := w) (by rfl) ?_
      exact bv_iret C rfl hr rfl ⟨by (exact congrArg (fun x => some (Value.int x)) (((if_neg c1).trans ((if_pos c2).trans rfl))).symm), by (rfl)⟩
    · refine bv_blk C frk_X8 csk_X8 1 7 rfl (L1 := ([(0, .int x), (1, .int y), (2, .int z)] : Lc)) (st1 := ([.int (1)] : List Value)) (w1 := w) (by rfl) ?_
      refine bv_goto (j := 9) C rfl rfl ?_
      exact bv_iret C rfl hr rfl ⟨by (exact congrArg (fun x => some (Value.int x)) (((if_neg c1).trans ((if_neg c2).trans rfl))).symm), by (rfl)⟩
set_option maxRecDepth 100000 in
set_option maxHeartbeats 8000000 in
theorem cs_isStation {l : Launch} {D : va_G} {cA : FieldType → ClassId} {z0 : Nat} {SK : Nat → Nat} {SV : Nat → Int32} {ad : Nat → Nat} {sh : Sh} {N : Nat} (hE : aD (fun q => z0 ≤ q) ad N) (w : Wd) (x : Int32) : bF l D cA z0 SK SV ad sh N yX8_isStation cX8_isStation 1 (some .boolean) 0 [.int x] w (some (.int (isI x))) w := by
  refine bCT_intro (tb := tb_X8_isStation) (own := RX8) hE pn_X8 rfl tk_X8_isStation rfl (Nat.le_of_ble_eq_true rfl) ?_
  intro p e s0 m args below meth c C hr
  refine bv_blk C frk_X8 csk_X8 1 1 rfl (L1 := ([(0, .int x)] : Lc)) (st1 := ([.int x] : List Value)) (w1 := w) (by rfl) ?_
  refine bv_if_eq (j := 5) C rfl rfl (fun c1 => ?_) (fun c1 => ?_)
  · refine bv_blk C frk_X8 csk_X8 1 6 rfl (L1 := ([(0, .int x)] : Lc)) (st1 := ([.int (1)] : List Value)) (w1 := w) (by rfl) ?_
    refine bv_goto (j := 8) C rfl rfl ?_
    exact bv_iret C rfl hr rfl ⟨by (exact congrArg (fun x => some (Value.int x)) (((if_pos c1).trans rfl)).symm), by (rfl)⟩
  · refine bv_blk C frk_X8 csk_X8 2 4 rfl (L1 := ([(0, .int x)] : Lc)) (st1 := ([.int (1), .int x] : List Value)) (w1 := w) (by rfl) ?_
    refine bv_icmp_ne (j := 7) C rfl rfl (fun c2 => ?_) (fun c2 => ?_)
    · refine bv_blk C frk_X8 csk_X8 1 8 rfl (L1 := ([(0, .int x)] : Lc)) (st1 := ([.int (0)] : List Value)) (w1 := w) (by rfl) ?_
      exact bv_iret C rfl hr rfl ⟨by (exact congrArg (fun x => some (Value.int x)) (((if_neg c1).trans ((if_neg c2).trans rfl))).symm), by (rfl)⟩
    · refine bv_blk C frk_X8 csk_X8 1 6 rfl (L1 := ([(0, .int x)] : Lc)) (st1 := ([.int (1)] : List Value)) (w1 := w) (by rfl) ?_
      refine bv_goto (j := 8) C rfl rfl ?_
      exact bv_iret C rfl hr rfl ⟨by (exact congrArg (fun x => some (Value.int x)) (((if_neg c1).trans ((if_pos c2).trans rfl))).symm), by (rfl)⟩
set_option maxRecDepth 100000 in
set_option maxHeartbeats 8000000 in
theorem cs_bit {l : Launch} {D : va_G} {cA : FieldType → ClassId} {z0 : Nat} {SK : Nat → Nat} {SV : Nat → Int32} {ad : Nat → Nat} {sh : Sh} {N : Nat} (hE : aD (fun q => z0 ≤ q) ad N) (w : Wd) (x : Int32) : bF l D cA z0 SK SV ad sh N yX8_bit cX8_bit 1 (some .int) 0 [.int x] w (some (.int (btI x))) w := by
  refine bCT_intro (tb := tb_X8_bit) (own := RX8) hE pn_X8 rfl tk_X8_bit rfl (Nat.le_of_ble_eq_true rfl) ?_
  intro p e s0 m args below meth c C hr
  refine bv_blk C frk_X8 csk_X8 1 1 rfl (L1 := ([(0, .int x)] : Lc)) (st1 := ([.int x] : List Value)) (w1 := w) (by rfl) ?_
  refine bv_if_eq (j := 4) C rfl rfl (fun c1 => ?_) (fun c1 => ?_)
  · refine bv_blk C frk_X8 csk_X8 1 5 rfl (L1 := ([(0, .int x)] : Lc)) (st1 := ([.int (0)] : List Value)) (w1 := w) (by rfl) ?_
    exact bv_iret C rfl hr rfl ⟨by (exact congrArg (fun x => some (Value.int x)) (((if_pos c1).trans rfl)).symm), by (rfl)⟩
  · refine bv_blk C frk_X8 csk_X8 1 3 rfl (L1 := ([(0, .int x)] : Lc)) (st1 := ([.int (1)] : List Value)) (w1 := w) (by rfl) ?_
    refine bv_goto (j := 5) C rfl rfl ?_
    exact bv_iret C rfl hr rfl ⟨by (exact congrArg (fun x => some (Value.int x)) (((if_neg c1).trans rfl)).symm), by (rfl)⟩
set_option maxRecDepth 100000 in
set_option maxHeartbeats 8000000 in
theorem cs_mix {l : Launch} {D : va_G} {cA : FieldType → ClassId} {z0 : Nat} {SK : Nat → Nat} {SV : Nat → Int32} {ad : Nat → Nat} {sh : Sh} {N : Nat} (hE : aD (fun q => z0 ≤ q) ad N) (w : Wd) (h : Int64) (x : Int32) : bF l D cA z0 SK SV ad sh N yX8_mix cX8_mix 3 (some .long) 0 [.long h, .int x] w (some (.long (mxL h x))) w := by
  refine bCT_intro (tb := tb_X8_mix) (own := RX8) hE pn_X8 rfl tk_X8_mix rfl (Nat.le_of_ble_eq_true rfl) ?_
  intro p e s0 m args below meth c C hr
  refine bv_blk C frk_X8 csk_X8 6 6 rfl (L1 := ([(0, .long h), (2, .int x)] : Lc)) (st1 := ([.long (((31) * h) + (Int32.toInt64 x))] : List Value)) (w1 := w) (by rfl) ?_
  exact bv_lret C rfl hr ⟨by (rfl), by (rfl)⟩
set_option maxRecDepth 100000 in
set_option maxHeartbeats 8000000 in
theorem cs_turn {l : Launch} {D : va_G} {cA : FieldType → ClassId} {z0 : Nat} {SK : Nat → Nat} {SV : Nat → Int32} {ad : Nat → Nat} {sh : Sh} {N : Nat} (hE : aD (fun q => z0 ≤ q) ad N) (w : Wd) (x y : Int32) : bF l D cA z0 SK SV ad sh N yX4_turn cX4_turn 2 (some .int) 0 [.int x, .int y] w (some (.int (trnI x y))) w := by
  refine bCT_intro (tb := tb_X4_turn) (own := RX4) hE pn_X4 rfl tk_X4_turn rfl (Nat.le_of_ble_eq_true rfl) ?_
  intro p e s0 m args below meth c C hr
  refine bv_blk C frk_X4 csk_X4 5 5 rfl (L1 := ([(0, .int x), (1, .int y)] : Lc)) (st1 := ([.int ((x + y) &&& (63))] : List Value)) (w1 := w) (by rfl) ?_
  exact bv_iret C rfl hr rfl ⟨by (rfl), by (rfl)⟩
set_option maxRecDepth 100000 in
set_option maxHeartbeats 8000000 in
theorem cs_angle {l : Launch} {D : va_G} {cA : FieldType → ClassId} {z0 : Nat} {SK : Nat → Nat} {SV : Nat → Int32} {ad : Nat → Nat} {sh : Sh} {N : Nat} (hE : aD (fun q => z0 ≤ q) ad N) (w : Wd) (x y : Int32) : bF l D cA z0 SK SV ad sh N yX4_angle cX4_angle 3 (some .int) 0 [.int x, .int y] w (some (.int (agC x y))) w := by
  refine bCT_intro (tb := tb_X4_angle) (own := RX4) hE pn_X4 rfl tk_X4_angle rfl (Nat.le_of_ble_eq_true rfl) ?_
  intro p e s0 m args below meth c C hr
  refine bv_blk C frk_X4 csk_X4 8 8 rfl (L1 := ([(2, .int ((x - y) &&& (63))), (0, .int x), (1, .int y)] : Lc)) (st1 := ([.int (32), .int ((x - y) &&& (63))] : List Value)) (w1 := w) (by rfl) ?_
  refine bv_icmp_le (j := 13) C rfl rfl (fun c1 => ?_) (fun c1 => ?_)
  · refine bv_blk C frk_X4 csk_X4 1 14 rfl (L1 := ([(2, .int ((x - y) &&& (63))), (0, .int x), (1, .int y)] : Lc)) (st1 := ([.int ((x - y) &&& (63))] : List Value)) (w1 := w) (by rfl) ?_
    exact bv_iret C rfl hr rfl ⟨by (exact congrArg (fun x => some (Value.int x)) (((if_pos c1).trans rfl)).symm), by (rfl)⟩
  · refine bv_blk C frk_X4 csk_X4 3 12 rfl (L1 := ([(2, .int ((x - y) &&& (63))), (0, .int x), (1, .int y)] : Lc)) (st1 := ([.int ((64) - ((x - y) &&& (63)))] : List Value)) (w1 := w) (by rfl) ?_
    refine bv_goto (j := 14) C rfl rfl ?_
    exact bv_iret C rfl hr rfl ⟨by (exact congrArg (fun x => some (Value.int x)) (((if_neg c1).trans rfl)).symm), by (rfl)⟩
def scC (many b : Int32) : Int32 := if many ≤ b then (b - many) / 5 else b
def ofC (many b : Int32) : Int32 := if many ≤ b then (b - many) - (b - many) / 5 * 5 - 2 else 0
def nbC (many s f : Int32) : Int32 := many + 5 * s + f + 2
def bsC (many s b : Int32) : Int32 := if 0 ≤ s + b then (if s + b < many then s + b else s + b - many) else s + b + many
def ptC (many o b : Int32) : Int32 := if many ≤ 0 then (o + 0 + ofC many b) &&& 63 else (o + 64 * scC many b / many + ofC many b) &&& 63
def gnC (many b a : Int32) : Int32 := if b = -1 then 0 else if many ≤ b then (if -40 ≤ 48 - 3 * a * a then 48 - 3 * a * a else -40) else (if -40 ≤ 36 - a * a then 36 - a * a else -40)
def neC (many b by_ : Int32) : Int32 := if many ≤ b then (if ofC many b + by_ < -2 then nbC many (bsC many (scC many b) by_) (-2 * by_) else if ofC many b + by_ ≤ 2 then nbC many (scC many b) (ofC many b + by_) else nbC many (bsC many (scC many b) by_) (-2 * by_)) else bsC many (scC many b) by_
def hsC (many x : Int32) : Int32 := if x < 0 then 0 else if many ≤ x then 0 else 1
def hbC (many x : Int32) : Int32 := if x < 0 then 0 else if 6 * many ≤ x then 0 else 1
set_option maxRecDepth 100000 in
set_option maxHeartbeats 8000000 in
theorem cs_hasSector_1 {l : Launch} {D : va_G} {cA : FieldType → ClassId} {z0 : Nat} {SK : Nat → Nat} {SV : Nat → Int32} {ad : Nat → Nat} (hE : aD (fun q => z0 ≤ q) ad 26) (g : Nat → Nat → Int32) (σ τ : Nat → Nat) (hσ : pmK σ τ) (x : Int32) : bF l D cA z0 SK SV ad shB 26 yX7_hasSector cX7_hasSector 2 (some .boolean) 0 [.ref 1, .int x] (layB g σ τ) (some (.int (hsC (g 1 15) x))) (layB g σ τ) := by
  refine bCT_intro (tb := tb_X7_hasSector) (own := RX7) hE pn_X7 rfl tk_X7_hasSector rfl (Nat.le_of_ble_eq_true rfl) ?_
  intro p e s0 m args below meth c C hr
  refine bv_blk C frk_X7 csk_X7 1 1 rfl (L1 := ([(0, .ref 1), (1, .int x)] : Lc)) (st1 := ([.int x] : List Value)) (w1 := (layB g σ τ)) (by rfl) ?_
  refine bv_if_lt (j := 8) C rfl rfl (fun c1 => ?_) (fun c1 => ?_)
  · refine bv_blk C frk_X7 csk_X7 1 9 rfl (L1 := ([(0, .ref 1), (1, .int x)] : Lc)) (st1 := ([.int (0)] : List Value)) (w1 := (layB g σ τ)) (by rfl) ?_
    exact bv_iret C rfl hr rfl ⟨by (exact congrArg (fun x => some (Value.int x)) (((if_pos c1).trans rfl)).symm), by (rfl)⟩
  · refine bv_blk C frk_X7 csk_X7 3 5 rfl (L1 := ([(0, .ref 1), (1, .int x)] : Lc)) (st1 := ([.int (g 1 15), .int x] : List Value)) (w1 := (layB g σ τ)) (by rfl) ?_
    refine bv_icmp_ge (j := 8) C rfl rfl (fun c2 => ?_) (fun c2 => ?_)
    · refine bv_blk C frk_X7 csk_X7 1 9 rfl (L1 := ([(0, .ref 1), (1, .int x)] : Lc)) (st1 := ([.int (0)] : List Value)) (w1 := (layB g σ τ)) (by rfl) ?_
      exact bv_iret C rfl hr rfl ⟨by (exact congrArg (fun x => some (Value.int x)) (((if_neg c1).trans ((if_pos c2).trans rfl))).symm), by (rfl)⟩
    · refine bv_blk C frk_X7 csk_X7 1 7 rfl (L1 := ([(0, .ref 1), (1, .int x)] : Lc)) (st1 := ([.int (1)] : List Value)) (w1 := (layB g σ τ)) (by rfl) ?_
      refine bv_goto (j := 9) C rfl rfl ?_
      exact bv_iret C rfl hr rfl ⟨by (exact congrArg (fun x => some (Value.int x)) (((if_neg c1).trans ((if_neg c2).trans rfl))).symm), by (rfl)⟩
set_option maxRecDepth 100000 in
set_option maxHeartbeats 8000000 in
theorem cs_hasBeam_1 {l : Launch} {D : va_G} {cA : FieldType → ClassId} {z0 : Nat} {SK : Nat → Nat} {SV : Nat → Int32} {ad : Nat → Nat} (hE : aD (fun q => z0 ≤ q) ad 26) (g : Nat → Nat → Int32) (σ τ : Nat → Nat) (hσ : pmK σ τ) (x : Int32) : bF l D cA z0 SK SV ad shB 26 yX7_hasBeam cX7_hasBeam 2 (some .boolean) 0 [.ref 1, .int x] (layB g σ τ) (some (.int (hbC (g 1 15) x))) (layB g σ τ) := by
  refine bCT_intro (tb := tb_X7_hasBeam) (own := RX7) hE pn_X7 rfl tk_X7_hasBeam rfl (Nat.le_of_ble_eq_true rfl) ?_
  intro p e s0 m args below meth c C hr
  refine bv_blk C frk_X7 csk_X7 1 1 rfl (L1 := ([(0, .ref 1), (1, .int x)] : Lc)) (st1 := ([.int x] : List Value)) (w1 := (layB g σ τ)) (by rfl) ?_
  refine bv_if_lt (j := 10) C rfl rfl (fun c1 => ?_) (fun c1 => ?_)
  · refine bv_blk C frk_X7 csk_X7 1 11 rfl (L1 := ([(0, .ref 1), (1, .int x)] : Lc)) (st1 := ([.int (0)] : List Value)) (w1 := (layB g σ τ)) (by rfl) ?_
    exact bv_iret C rfl hr rfl ⟨by (exact congrArg (fun x => some (Value.int x)) (((if_pos c1).trans rfl)).symm), by (rfl)⟩
  · refine bv_blk C frk_X7 csk_X7 5 7 rfl (L1 := ([(0, .ref 1), (1, .int x)] : Lc)) (st1 := ([.int ((6) * (g 1 15)), .int x] : List Value)) (w1 := (layB g σ τ)) (by rfl) ?_
    refine bv_icmp_ge (j := 10) C rfl rfl (fun c2 => ?_) (fun c2 => ?_)
    · refine bv_blk C frk_X7 csk_X7 1 11 rfl (L1 := ([(0, .ref 1), (1, .int x)] : Lc)) (st1 := ([.int (0)] : List Value)) (w1 := (layB g σ τ)) (by rfl) ?_
      exact bv_iret C rfl hr rfl ⟨by (exact congrArg (fun x => some (Value.int x)) (((if_neg c1).trans ((if_pos c2).trans rfl))).symm), by (rfl)⟩
    · refine bv_blk C frk_X7 csk_X7 1 9 rfl (L1 := ([(0, .ref 1), (1, .int x)] : Lc)) (st1 := ([.int (1)] : List Value)) (w1 := (layB g σ τ)) (by rfl) ?_
      refine bv_goto (j := 11) C rfl rfl ?_
      exact bv_iret C rfl hr rfl ⟨by (exact congrArg (fun x => some (Value.int x)) (((if_neg c1).trans ((if_neg c2).trans rfl))).symm), by (rfl)⟩
set_option maxRecDepth 100000 in
set_option maxHeartbeats 8000000 in
theorem cs_sectorOf_1 {l : Launch} {D : va_G} {cA : FieldType → ClassId} {z0 : Nat} {SK : Nat → Nat} {SV : Nat → Int32} {ad : Nat → Nat} (hE : aD (fun q => z0 ≤ q) ad 26) (g : Nat → Nat → Int32) (σ τ : Nat → Nat) (hσ : pmK σ τ) (x : Int32) : bF l D cA z0 SK SV ad shB 26 yX7_sectorOf cX7_sectorOf 2 (some .int) 0 [.ref 1, .int x] (layB g σ τ) (some (.int (scC (g 1 15) x))) (layB g σ τ) := by
  refine bCT_intro (tb := tb_X7_sectorOf) (own := RX7) hE pn_X7 rfl tk_X7_sectorOf rfl (Nat.le_of_ble_eq_true rfl) ?_
  intro p e s0 m args below meth c C hr
  refine bv_blk C frk_X7 csk_X7 3 3 rfl (L1 := ([(0, .ref 1), (1, .int x)] : Lc)) (st1 := ([.int (g 1 15), .int x] : List Value)) (w1 := (layB g σ τ)) (by rfl) ?_
  refine bv_icmp_ge (j := 6) C rfl rfl (fun c1 => ?_) (fun c1 => ?_)
  · refine bv_blk C frk_X7 csk_X7 5 11 rfl (L1 := ([(0, .ref 1), (1, .int x)] : Lc)) (st1 := ([.int (5), .int (x - (g 1 15))] : List Value)) (w1 := (layB g σ τ)) (by rfl) ?_
    refine bv_idiv C rfl (by decide) ?_
    exact bv_iret C rfl hr rfl ⟨by (exact congrArg (fun x => some (Value.int x)) (((if_pos c1).trans rfl)).symm), by (rfl)⟩
  · refine bv_blk C frk_X7 csk_X7 1 5 rfl (L1 := ([(0, .ref 1), (1, .int x)] : Lc)) (st1 := ([.int x] : List Value)) (w1 := (layB g σ τ)) (by rfl) ?_
    refine bv_goto (j := 12) C rfl rfl ?_
    exact bv_iret C rfl hr rfl ⟨by (exact congrArg (fun x => some (Value.int x)) (((if_neg c1).trans rfl)).symm), by (rfl)⟩
set_option maxRecDepth 100000 in
set_option maxHeartbeats 8000000 in
theorem cs_offsetOf_1 {l : Launch} {D : va_G} {cA : FieldType → ClassId} {z0 : Nat} {SK : Nat → Nat} {SV : Nat → Int32} {ad : Nat → Nat} (hE : aD (fun q => z0 ≤ q) ad 26) (g : Nat → Nat → Int32) (σ τ : Nat → Nat) (hσ : pmK σ τ) (x : Int32) : bF l D cA z0 SK SV ad shB 26 yX7_offsetOf cX7_offsetOf 2 (some .int) 0 [.ref 1, .int x] (layB g σ τ) (some (.int (ofC (g 1 15) x))) (layB g σ τ) := by
  refine bCT_intro (tb := tb_X7_offsetOf) (own := RX7) hE pn_X7 rfl tk_X7_offsetOf rfl (Nat.le_of_ble_eq_true rfl) ?_
  intro p e s0 m args below meth c C hr
  refine bv_blk C frk_X7 csk_X7 3 3 rfl (L1 := ([(0, .ref 1), (1, .int x)] : Lc)) (st1 := ([.int (g 1 15), .int x] : List Value)) (w1 := (layB g σ τ)) (by rfl) ?_
  refine bv_icmp_ge (j := 6) C rfl rfl (fun c1 => ?_) (fun c1 => ?_)
  · refine bv_blk C frk_X7 csk_X7 5 11 rfl (L1 := ([(0, .ref 1), (1, .int x)] : Lc)) (st1 := ([.int (5), .int (x - (g 1 15))] : List Value)) (w1 := (layB g σ τ)) (by rfl) ?_
    refine bv_irem C rfl (by decide) ?_
    refine bv_blk C frk_X7 csk_X7 2 14 rfl (L1 := ([(0, .ref 1), (1, .int x)] : Lc)) (st1 := ([.int (((x - (g 1 15)) - (x - (g 1 15)) / (5) * (5)) - (2))] : List Value)) (w1 := (layB g σ τ)) (by rfl) ?_
    exact bv_iret C rfl hr rfl ⟨by (exact congrArg (fun x => some (Value.int x)) (((if_pos c1).trans rfl)).symm), by (rfl)⟩
  · refine bv_blk C frk_X7 csk_X7 1 5 rfl (L1 := ([(0, .ref 1), (1, .int x)] : Lc)) (st1 := ([.int (0)] : List Value)) (w1 := (layB g σ τ)) (by rfl) ?_
    refine bv_goto (j := 14) C rfl rfl ?_
    exact bv_iret C rfl hr rfl ⟨by (exact congrArg (fun x => some (Value.int x)) (((if_neg c1).trans rfl)).symm), by (rfl)⟩
set_option maxRecDepth 100000 in
set_option maxHeartbeats 8000000 in
theorem cs_narrowBeam_1 {l : Launch} {D : va_G} {cA : FieldType → ClassId} {z0 : Nat} {SK : Nat → Nat} {SV : Nat → Int32} {ad : Nat → Nat} (hE : aD (fun q => z0 ≤ q) ad 26) (g : Nat → Nat → Int32) (σ τ : Nat → Nat) (hσ : pmK σ τ) (x y : Int32) : bF l D cA z0 SK SV ad shB 26 yX7_narrowBeam cX7_narrowBeam 3 (some .int) 0 [.ref 1, .int x, .int y] (layB g σ τ) (some (.int (nbC (g 1 15) x y))) (layB g σ τ) := by
  refine bCT_intro (tb := tb_X7_narrowBeam) (own := RX7) hE pn_X7 rfl tk_X7_narrowBeam rfl (Nat.le_of_ble_eq_true rfl) ?_
  intro p e s0 m args below meth c C hr
  refine bv_blk C frk_X7 csk_X7 10 10 rfl (L1 := ([(0, .ref 1), (1, .int x), (2, .int y)] : Lc)) (st1 := ([.int ((((g 1 15) + ((5) * x)) + y) + (2))] : List Value)) (w1 := (layB g σ τ)) (by rfl) ?_
  exact bv_iret C rfl hr rfl ⟨by (rfl), by (rfl)⟩
set_option maxRecDepth 100000 in
set_option maxHeartbeats 8000000 in
theorem cs_sectorBeside_1 {l : Launch} {D : va_G} {cA : FieldType → ClassId} {z0 : Nat} {SK : Nat → Nat} {SV : Nat → Int32} {ad : Nat → Nat} (hE : aD (fun q => z0 ≤ q) ad 26) (g : Nat → Nat → Int32) (σ τ : Nat → Nat) (hσ : pmK σ τ) (x y : Int32) : bF l D cA z0 SK SV ad shB 26 yX7_sectorBeside cX7_sectorBeside 4 (some .int) 0 [.ref 1, .int x, .int y] (layB g σ τ) (some (.int (bsC (g 1 15) x y))) (layB g σ τ) := by
  refine bCT_intro (tb := tb_X7_sectorBeside) (own := RX7) hE pn_X7 rfl tk_X7_sectorBeside rfl (Nat.le_of_ble_eq_true rfl) ?_
  intro p e s0 m args below meth c C hr
  refine bv_blk C frk_X7 csk_X7 5 5 rfl (L1 := ([(3, .int (x + y)), (0, .ref 1), (1, .int x), (2, .int y)] : Lc)) (st1 := ([.int (x + y)] : List Value)) (w1 := (layB g σ τ)) (by rfl) ?_
  refine bv_if_ge (j := 11) C rfl rfl (fun c1 => ?_) (fun c1 => ?_)
  · refine bv_blk C frk_X7 csk_X7 3 14 rfl (L1 := ([(3, .int (x + y)), (0, .ref 1), (1, .int x), (2, .int y)] : Lc)) (st1 := ([.int (g 1 15), .int (x + y)] : List Value)) (w1 := (layB g σ τ)) (by rfl) ?_
    refine bv_icmp_lt (j := 20) C rfl rfl (fun c2 => ?_) (fun c2 => ?_)
    · refine bv_blk C frk_X7 csk_X7 1 21 rfl (L1 := ([(3, .int (x + y)), (0, .ref 1), (1, .int x), (2, .int y)] : Lc)) (st1 := ([.int (x + y)] : List Value)) (w1 := (layB g σ τ)) (by rfl) ?_
      exact bv_iret C rfl hr rfl ⟨by (exact congrArg (fun x => some (Value.int x)) (((if_pos c1).trans ((if_pos c2).trans rfl))).symm), by (rfl)⟩
    · refine bv_blk C frk_X7 csk_X7 4 19 rfl (L1 := ([(3, .int (x + y)), (0, .ref 1), (1, .int x), (2, .int y)] : Lc)) (st1 := ([.int ((x + y) - (g 1 15))] : List Value)) (w1 := (layB g σ τ)) (by rfl) ?_
      refine bv_goto (j := 21) C rfl rfl ?_
      exact bv_iret C rfl hr rfl ⟨by (exact congrArg (fun x => some (Value.int x)) (((if_pos c1).trans ((if_neg c2).trans rfl))).symm), by (rfl)⟩
  · refine bv_blk C frk_X7 csk_X7 4 10 rfl (L1 := ([(3, .int (x + y)), (0, .ref 1), (1, .int x), (2, .int y)] : Lc)) (st1 := ([.int ((x + y) + (g 1 15))] : List Value)) (w1 := (layB g σ τ)) (by rfl) ?_
    exact bv_iret C rfl hr rfl ⟨by (exact congrArg (fun x => some (Value.int x)) (((if_neg c1).trans rfl)).symm), by (rfl)⟩
set_option maxRecDepth 100000 in
set_option maxHeartbeats 8000000 in
theorem cs_pointing_1 {l : Launch} {D : va_G} {cA : FieldType → ClassId} {z0 : Nat} {SK : Nat → Nat} {SV : Nat → Int32} {ad : Nat → Nat} (hE : aD (fun q => z0 ≤ q) ad 26) (g : Nat → Nat → Int32) (σ τ : Nat → Nat) (hσ : pmK σ τ) (x : Int32) : bF l D cA z0 SK SV ad shB 26 yX7_pointing cX7_pointing 3 (some .int) 1 [.ref 1, .int x] (layB g σ τ) (some (.int (ptC (g 1 15) (g 1 16) x))) (layB g σ τ) := by
  refine bCT_intro (tb := tb_X7_pointing) (own := RX7) hE pn_X7 rfl tk_X7_pointing rfl (Nat.le_of_ble_eq_true rfl) ?_
  intro p e s0 m args below meth c C hr
  refine bv_blk C frk_X7 csk_X7 2 2 rfl (L1 := ([(0, .ref 1), (1, .int x)] : Lc)) (st1 := ([.int (g 1 15)] : List Value)) (w1 := (layB g σ τ)) (by rfl) ?_
  refine bv_if_le (j := 12) C rfl rfl (fun c1 => ?_) (fun c1 => ?_)
  · refine bv_blk C frk_X7 csk_X7 8 20 rfl (L1 := ([(2, .int (0)), (0, .ref 1), (1, .int x)] : Lc)) (st1 := ([.int x, .ref 1, .int ((g 1 16) + (0))] : List Value)) (w1 := (layB g σ τ)) (by rfl) ?_
    refine bv_fV1 C rfl (cs_offsetOf_1 hE g σ τ hσ x) ml_X7_40 im_X7_offsetOf sel_X7_offsetOf ini_X7 cd_X7_offsetOf ok_X7_offsetOf rfl ⟨Nat.le_of_ble_eq_true rfl, Nat.le_of_ble_eq_true rfl⟩ ⟨Nat.zero_le _, Nat.zero_le _⟩ (by decide) rfl rfl rfl (rest := ([.int ((g 1 16) + (0))] : List Value)) rfl (Nat.le_of_ble_eq_true rfl) ?_
    refine bv_blk C frk_X7 csk_X7 3 24 rfl (L1 := ([(2, .int (0)), (0, .ref 1), (1, .int x)] : Lc)) (st1 := ([.int ((((g 1 16) + (0)) + (ofC (g 1 15) x)) &&& (63))] : List Value)) (w1 := (layB g σ τ)) (by rfl) ?_
    exact bv_iret C rfl hr rfl ⟨by (exact congrArg (fun x => some (Value.int x)) (((if_pos c1).trans rfl)).symm), by (rfl)⟩
  · refine bv_blk C frk_X7 csk_X7 3 6 rfl (L1 := ([(0, .ref 1), (1, .int x)] : Lc)) (st1 := ([.int x, .ref 1, .int (64)] : List Value)) (w1 := (layB g σ τ)) (by rfl) ?_
    refine bv_fV1 C rfl (cs_sectorOf_1 hE g σ τ hσ x) ml_X7_36 im_X7_sectorOf sel_X7_sectorOf ini_X7 cd_X7_sectorOf ok_X7_sectorOf rfl ⟨Nat.le_of_ble_eq_true rfl, Nat.le_of_ble_eq_true rfl⟩ ⟨Nat.zero_le _, Nat.zero_le _⟩ (by decide) rfl rfl rfl (rest := ([.int (64)] : List Value)) rfl (Nat.le_of_ble_eq_true rfl) ?_
    refine bv_blk C frk_X7 csk_X7 3 10 rfl (L1 := ([(0, .ref 1), (1, .int x)] : Lc)) (st1 := ([.int (g 1 15), .int ((64) * (scC (g 1 15) x))] : List Value)) (w1 := (layB g σ τ)) (by rfl) ?_
    refine bv_idiv C rfl (fun z => absurd (show (g 1 15) ≤ 0 by rw [z]; decide) c1) ?_
    refine bv_goto (j := 13) C rfl rfl ?_
    refine bv_blk C frk_X7 csk_X7 7 20 rfl (L1 := ([(2, .int (((64) * (scC (g 1 15) x)) / (g 1 15))), (0, .ref 1), (1, .int x)] : Lc)) (st1 := ([.int x, .ref 1, .int ((g 1 16) + (((64) * (scC (g 1 15) x)) / (g 1 15)))] : List Value)) (w1 := (layB g σ τ)) (by rfl) ?_
    refine bv_fV1 C rfl (cs_offsetOf_1 hE g σ τ hσ x) ml_X7_40 im_X7_offsetOf sel_X7_offsetOf ini_X7 cd_X7_offsetOf ok_X7_offsetOf rfl ⟨Nat.le_of_ble_eq_true rfl, Nat.le_of_ble_eq_true rfl⟩ ⟨Nat.zero_le _, Nat.zero_le _⟩ (by decide) rfl rfl rfl (rest := ([.int ((g 1 16) + (((64) * (scC (g 1 15) x)) / (g 1 15)))] : List Value)) rfl (Nat.le_of_ble_eq_true rfl) ?_
    refine bv_blk C frk_X7 csk_X7 3 24 rfl (L1 := ([(2, .int (((64) * (scC (g 1 15) x)) / (g 1 15))), (0, .ref 1), (1, .int x)] : Lc)) (st1 := ([.int ((((g 1 16) + (((64) * (scC (g 1 15) x)) / (g 1 15))) + (ofC (g 1 15) x)) &&& (63))] : List Value)) (w1 := (layB g σ τ)) (by rfl) ?_
    exact bv_iret C rfl hr rfl ⟨by (exact congrArg (fun x => some (Value.int x)) (((if_neg c1).trans rfl)).symm), by (rfl)⟩
set_option maxRecDepth 100000 in
set_option maxHeartbeats 8000000 in
theorem cs_gainAt_1 {l : Launch} {D : va_G} {cA : FieldType → ClassId} {z0 : Nat} {SK : Nat → Nat} {SV : Nat → Int32} {ad : Nat → Nat} (hE : aD (fun q => z0 ≤ q) ad 26) (g : Nat → Nat → Int32) (σ τ : Nat → Nat) (hσ : pmK σ τ) (x y : Int32) : bF l D cA z0 SK SV ad shB 26 yX7_gainAt cX7_gainAt 4 (some .int) 0 [.ref 1, .int x, .int y] (layB g σ τ) (some (.int (gnC (g 1 15) x y))) (layB g σ τ) := by
  refine bCT_intro (tb := tb_X7_gainAt) (own := RX7) hE pn_X7 rfl tk_X7_gainAt rfl (Nat.le_of_ble_eq_true rfl) ?_
  intro p e s0 m args below meth c C hr
  refine bv_blk C frk_X7 csk_X7 2 2 rfl (L1 := ([(0, .ref 1), (1, .int x), (2, .int y)] : Lc)) (st1 := ([.int (-1), .int x] : List Value)) (w1 := (layB g σ τ)) (by rfl) ?_
  refine bv_icmp_ne (j := 5) C rfl rfl (fun c1 => ?_) (fun c1 => ?_)
  · refine bv_blk C frk_X7 csk_X7 3 8 rfl (L1 := ([(0, .ref 1), (1, .int x), (2, .int y)] : Lc)) (st1 := ([.int (g 1 15), .int x] : List Value)) (w1 := (layB g σ τ)) (by rfl) ?_
    refine bv_icmp_ge (j := 15) C rfl rfl (fun c2 => ?_) (fun c2 => ?_)
    · refine bv_blk C frk_X7 csk_X7 10 25 rfl (L1 := ([(3, .int ((48) - (((3) * y) * y))), (0, .ref 1), (1, .int x), (2, .int y)] : Lc)) (st1 := ([.int (-40), .int ((48) - (((3) * y) * y))] : List Value)) (w1 := (layB g σ τ)) (by rfl) ?_
      refine bv_icmp_ge (j := 28) C rfl rfl (fun c3 => ?_) (fun c3 => ?_)
      · refine bv_blk C frk_X7 csk_X7 1 29 rfl (L1 := ([(3, .int ((48) - (((3) * y) * y))), (0, .ref 1), (1, .int x), (2, .int y)] : Lc)) (st1 := ([.int ((48) - (((3) * y) * y))] : List Value)) (w1 := (layB g σ τ)) (by rfl) ?_
        exact bv_iret C rfl hr rfl ⟨by (exact congrArg (fun x => some (Value.int x)) (((if_neg c1).trans ((if_pos c2).trans ((if_pos c3).trans rfl)))).symm), by (rfl)⟩
      · refine bv_blk C frk_X7 csk_X7 1 27 rfl (L1 := ([(3, .int ((48) - (((3) * y) * y))), (0, .ref 1), (1, .int x), (2, .int y)] : Lc)) (st1 := ([.int (-40)] : List Value)) (w1 := (layB g σ τ)) (by rfl) ?_
        refine bv_goto (j := 29) C rfl rfl ?_
        exact bv_iret C rfl hr rfl ⟨by (exact congrArg (fun x => some (Value.int x)) (((if_neg c1).trans ((if_pos c2).trans ((if_neg c3).trans rfl)))).symm), by (rfl)⟩
    · refine bv_blk C frk_X7 csk_X7 5 14 rfl (L1 := ([(0, .ref 1), (1, .int x), (2, .int y)] : Lc)) (st1 := ([.int ((36) - (y * y))] : List Value)) (w1 := (layB g σ τ)) (by rfl) ?_
      refine bv_goto (j := 22) C rfl rfl ?_
      refine bv_blk C frk_X7 csk_X7 3 25 rfl (L1 := ([(3, .int ((36) - (y * y))), (0, .ref 1), (1, .int x), (2, .int y)] : Lc)) (st1 := ([.int (-40), .int ((36) - (y * y))] : List Value)) (w1 := (layB g σ τ)) (by rfl) ?_
      refine bv_icmp_ge (j := 28) C rfl rfl (fun c4 => ?_) (fun c4 => ?_)
      · refine bv_blk C frk_X7 csk_X7 1 29 rfl (L1 := ([(3, .int ((36) - (y * y))), (0, .ref 1), (1, .int x), (2, .int y)] : Lc)) (st1 := ([.int ((36) - (y * y))] : List Value)) (w1 := (layB g σ τ)) (by rfl) ?_
        exact bv_iret C rfl hr rfl ⟨by (exact congrArg (fun x => some (Value.int x)) (((if_neg c1).trans ((if_neg c2).trans ((if_pos c4).trans rfl)))).symm), by (rfl)⟩
      · refine bv_blk C frk_X7 csk_X7 1 27 rfl (L1 := ([(3, .int ((36) - (y * y))), (0, .ref 1), (1, .int x), (2, .int y)] : Lc)) (st1 := ([.int (-40)] : List Value)) (w1 := (layB g σ τ)) (by rfl) ?_
        refine bv_goto (j := 29) C rfl rfl ?_
        exact bv_iret C rfl hr rfl ⟨by (exact congrArg (fun x => some (Value.int x)) (((if_neg c1).trans ((if_neg c2).trans ((if_neg c4).trans rfl)))).symm), by (rfl)⟩
  · refine bv_blk C frk_X7 csk_X7 1 4 rfl (L1 := ([(0, .ref 1), (1, .int x), (2, .int y)] : Lc)) (st1 := ([.int (0)] : List Value)) (w1 := (layB g σ τ)) (by rfl) ?_
    exact bv_iret C rfl hr rfl ⟨by (exact congrArg (fun x => some (Value.int x)) (((if_pos c1).trans rfl)).symm), by (rfl)⟩
set_option maxRecDepth 100000 in
set_option maxHeartbeats 8000000 in
theorem cs_neighbourOf_1 {l : Launch} {D : va_G} {cA : FieldType → ClassId} {z0 : Nat} {SK : Nat → Nat} {SV : Nat → Int32} {ad : Nat → Nat} (hE : aD (fun q => z0 ≤ q) ad 26) (g : Nat → Nat → Int32) (σ τ : Nat → Nat) (hσ : pmK σ τ) (x y : Int32) : bF l D cA z0 SK SV ad shB 26 yX7_neighbourOf cX7_neighbourOf 5 (some .int) 1 [.ref 1, .int x, .int y] (layB g σ τ) (some (.int (neC (g 1 15) x y))) (layB g σ τ) := by
  refine bCT_intro (tb := tb_X7_neighbourOf) (own := RX7) hE pn_X7 rfl tk_X7_neighbourOf rfl (Nat.le_of_ble_eq_true rfl) ?_
  intro p e s0 m args below meth c C hr
  refine bv_blk C frk_X7 csk_X7 2 2 rfl (L1 := ([(0, .ref 1), (1, .int x), (2, .int y)] : Lc)) (st1 := ([.int x, .ref 1] : List Value)) (w1 := (layB g σ τ)) (by rfl) ?_
  refine bv_fV1 C rfl (cs_sectorOf_1 hE g σ τ hσ x) ml_X7_36 im_X7_sectorOf sel_X7_sectorOf ini_X7 cd_X7_sectorOf ok_X7_sectorOf rfl ⟨Nat.le_of_ble_eq_true rfl, Nat.le_of_ble_eq_true rfl⟩ ⟨Nat.zero_le _, Nat.zero_le _⟩ (by decide) rfl rfl rfl (rest := ([] : List Value)) rfl (Nat.le_of_ble_eq_true rfl) ?_
  refine bv_blk C frk_X7 csk_X7 4 7 rfl (L1 := ([(3, .int (scC (g 1 15) x)), (0, .ref 1), (1, .int x), (2, .int y)] : Lc)) (st1 := ([.int (g 1 15), .int x] : List Value)) (w1 := (layB g σ τ)) (by rfl) ?_
  refine bv_icmp_ge (j := 13) C rfl rfl (fun c1 => ?_) (fun c1 => ?_)
  · refine bv_blk C frk_X7 csk_X7 2 15 rfl (L1 := ([(3, .int (scC (g 1 15) x)), (0, .ref 1), (1, .int x), (2, .int y)] : Lc)) (st1 := ([.int x, .ref 1] : List Value)) (w1 := (layB g σ τ)) (by rfl) ?_
    refine bv_fV1 C rfl (cs_offsetOf_1 hE g σ τ hσ x) ml_X7_40 im_X7_offsetOf sel_X7_offsetOf ini_X7 cd_X7_offsetOf ok_X7_offsetOf rfl ⟨Nat.le_of_ble_eq_true rfl, Nat.le_of_ble_eq_true rfl⟩ ⟨Nat.zero_le _, Nat.zero_le _⟩ (by decide) rfl rfl rfl (rest := ([] : List Value)) rfl (Nat.le_of_ble_eq_true rfl) ?_
    refine bv_blk C frk_X7 csk_X7 5 21 rfl (L1 := ([(4, .int ((ofC (g 1 15) x) + y)), (3, .int (scC (g 1 15) x)), (0, .ref 1), (1, .int x), (2, .int y)] : Lc)) (st1 := ([.int (-2), .int ((ofC (g 1 15) x) + y)] : List Value)) (w1 := (layB g σ τ)) (by rfl) ?_
    refine bv_icmp_lt (j := 25) C rfl rfl (fun c2 => ?_) (fun c2 => ?_)
    · refine bv_blk C frk_X7 csk_X7 4 29 rfl (L1 := ([(4, .int ((ofC (g 1 15) x) + y)), (3, .int (scC (g 1 15) x)), (0, .ref 1), (1, .int x), (2, .int y)] : Lc)) (st1 := ([.int y, .int (scC (g 1 15) x), .ref 1, .ref 1] : List Value)) (w1 := (layB g σ τ)) (by rfl) ?_
      refine bv_fV1 C rfl (cs_sectorBeside_1 hE g σ τ hσ (scC (g 1 15) x) y) ml_X7_43 im_X7_sectorBeside sel_X7_sectorBeside ini_X7 cd_X7_sectorBeside ok_X7_sectorBeside rfl ⟨Nat.le_of_ble_eq_true rfl, Nat.le_of_ble_eq_true rfl⟩ ⟨Nat.zero_le _, Nat.zero_le _⟩ (by decide) rfl rfl rfl (rest := ([.ref 1] : List Value)) rfl (Nat.le_of_ble_eq_true rfl) ?_
      refine bv_blk C frk_X7 csk_X7 3 33 rfl (L1 := ([(4, .int ((ofC (g 1 15) x) + y)), (3, .int (scC (g 1 15) x)), (0, .ref 1), (1, .int x), (2, .int y)] : Lc)) (st1 := ([.int ((-2) * y), .int (bsC (g 1 15) (scC (g 1 15) x) y), .ref 1] : List Value)) (w1 := (layB g σ τ)) (by rfl) ?_
      refine bv_fV1 C rfl (cs_narrowBeam_1 hE g σ τ hσ (bsC (g 1 15) (scC (g 1 15) x) y) ((-2) * y)) ml_X7_47 im_X7_narrowBeam sel_X7_narrowBeam ini_X7 cd_X7_narrowBeam ok_X7_narrowBeam rfl ⟨Nat.le_of_ble_eq_true rfl, Nat.le_of_ble_eq_true rfl⟩ ⟨Nat.zero_le _, Nat.zero_le _⟩ (by decide) rfl rfl rfl (rest := ([] : List Value)) rfl (Nat.le_of_ble_eq_true rfl) ?_
      exact bv_iret C rfl hr rfl ⟨by (exact congrArg (fun x => some (Value.int x)) (((if_pos c1).trans ((if_pos c2).trans rfl))).symm), by (rfl)⟩
    · refine bv_blk C frk_X7 csk_X7 2 24 rfl (L1 := ([(4, .int ((ofC (g 1 15) x) + y)), (3, .int (scC (g 1 15) x)), (0, .ref 1), (1, .int x), (2, .int y)] : Lc)) (st1 := ([.int (2), .int ((ofC (g 1 15) x) + y)] : List Value)) (w1 := (layB g σ τ)) (by rfl) ?_
      refine bv_icmp_le (j := 35) C rfl rfl (fun c3 => ?_) (fun c3 => ?_)
      · refine bv_blk C frk_X7 csk_X7 3 38 rfl (L1 := ([(4, .int ((ofC (g 1 15) x) + y)), (3, .int (scC (g 1 15) x)), (0, .ref 1), (1, .int x), (2, .int y)] : Lc)) (st1 := ([.int ((ofC (g 1 15) x) + y), .int (scC (g 1 15) x), .ref 1] : List Value)) (w1 := (layB g σ τ)) (by rfl) ?_
        refine bv_fV1 C rfl (cs_narrowBeam_1 hE g σ τ hσ (scC (g 1 15) x) ((ofC (g 1 15) x) + y)) ml_X7_47 im_X7_narrowBeam sel_X7_narrowBeam ini_X7 cd_X7_narrowBeam ok_X7_narrowBeam rfl ⟨Nat.le_of_ble_eq_true rfl, Nat.le_of_ble_eq_true rfl⟩ ⟨Nat.zero_le _, Nat.zero_le _⟩ (by decide) rfl rfl rfl (rest := ([] : List Value)) rfl (Nat.le_of_ble_eq_true rfl) ?_
        exact bv_iret C rfl hr rfl ⟨by (exact congrArg (fun x => some (Value.int x)) (((if_pos c1).trans ((if_neg c2).trans ((if_pos c3).trans rfl)))).symm), by (rfl)⟩
      · refine bv_blk C frk_X7 csk_X7 4 29 rfl (L1 := ([(4, .int ((ofC (g 1 15) x) + y)), (3, .int (scC (g 1 15) x)), (0, .ref 1), (1, .int x), (2, .int y)] : Lc)) (st1 := ([.int y, .int (scC (g 1 15) x), .ref 1, .ref 1] : List Value)) (w1 := (layB g σ τ)) (by rfl) ?_
        refine bv_fV1 C rfl (cs_sectorBeside_1 hE g σ τ hσ (scC (g 1 15) x) y) ml_X7_43 im_X7_sectorBeside sel_X7_sectorBeside ini_X7 cd_X7_sectorBeside ok_X7_sectorBeside rfl ⟨Nat.le_of_ble_eq_true rfl, Nat.le_of_ble_eq_true rfl⟩ ⟨Nat.zero_le _, Nat.zero_le _⟩ (by decide) rfl rfl rfl (rest := ([.ref 1] : List Value)) rfl (Nat.le_of_ble_eq_true rfl) ?_
        refine bv_blk C frk_X7 csk_X7 3 33 rfl (L1 := ([(4, .int ((ofC (g 1 15) x) + y)), (3, .int (scC (g 1 15) x)), (0, .ref 1), (1, .int x), (2, .int y)] : Lc)) (st1 := ([.int ((-2) * y), .int (bsC (g 1 15) (scC (g 1 15) x) y), .ref 1] : List Value)) (w1 := (layB g σ τ)) (by rfl) ?_
        refine bv_fV1 C rfl (cs_narrowBeam_1 hE g σ τ hσ (bsC (g 1 15) (scC (g 1 15) x) y) ((-2) * y)) ml_X7_47 im_X7_narrowBeam sel_X7_narrowBeam ini_X7 cd_X7_narrowBeam ok_X7_narrowBeam rfl ⟨Nat.le_of_ble_eq_true rfl, Nat.le_of_ble_eq_true rfl⟩ ⟨Nat.zero_le _, Nat.zero_le _⟩ (by decide) rfl rfl rfl (rest := ([] : List Value)) rfl (Nat.le_of_ble_eq_true rfl) ?_
        exact bv_iret C rfl hr rfl ⟨by (exact congrArg (fun x => some (Value.int x)) (((if_pos c1).trans ((if_neg c2).trans ((if_neg c3).trans rfl)))).symm), by (rfl)⟩
  · refine bv_blk C frk_X7 csk_X7 3 11 rfl (L1 := ([(3, .int (scC (g 1 15) x)), (0, .ref 1), (1, .int x), (2, .int y)] : Lc)) (st1 := ([.int y, .int (scC (g 1 15) x), .ref 1] : List Value)) (w1 := (layB g σ τ)) (by rfl) ?_
    refine bv_fV1 C rfl (cs_sectorBeside_1 hE g σ τ hσ (scC (g 1 15) x) y) ml_X7_43 im_X7_sectorBeside sel_X7_sectorBeside ini_X7 cd_X7_sectorBeside ok_X7_sectorBeside rfl ⟨Nat.le_of_ble_eq_true rfl, Nat.le_of_ble_eq_true rfl⟩ ⟨Nat.zero_le _, Nat.zero_le _⟩ (by decide) rfl rfl rfl (rest := ([] : List Value)) rfl (Nat.le_of_ble_eq_true rfl) ?_
    exact bv_iret C rfl hr rfl ⟨by (exact congrArg (fun x => some (Value.int x)) (((if_neg c1).trans rfl)).symm), by (rfl)⟩
set_option maxRecDepth 100000 in
set_option maxHeartbeats 8000000 in
theorem cs_entry_1 {l : Launch} {D : va_G} {cA : FieldType → ClassId} {z0 : Nat} {SK : Nat → Nat} {SV : Nat → Int32} {ad : Nat → Nat} (hE : aD (fun q => z0 ≤ q) ad 26) (g : Nat → Nat → Int32) (σ τ : Nat → Nat) (hσ : pmK σ τ) (k : Nat) (hk : k < 16) : bF l D cA z0 SK SV ad shB 26 yX7_entry cX7_entry 2 (some .int) 0 [.ref 1, .int (nI k)] (layB g σ τ) (some (.int (g 1 (19 + k)))) (layB g σ τ) := by
  refine bCT_intro (tb := tb_X7_entry) (own := RX7) hE pn_X7 rfl tk_X7_entry rfl (Nat.le_of_ble_eq_true rfl) ?_
  intro p e s0 m args below meth c C hr
  refine bv_blk C frk_X7 csk_X7 1 1 rfl (L1 := ([(0, .ref 1), (1, .int (nI k))] : Lc)) (st1 := ([.int (nI k)] : List Value)) (w1 := (layB g σ τ)) (by rfl) ?_
  refine bv_if_lt (j := 10) C rfl rfl (fun h => absurd h (nI_nlt (a := k) (b := 0) (by omega) (by omega))) (fun _ => ?_)
  refine bv_blk C frk_X7 csk_X7 2 4 rfl (L1 := ([(0, .ref 1), (1, .int (nI k))] : Lc)) (st1 := ([.int (16), .int (nI k)] : List Value)) (w1 := (layB g σ τ)) (by rfl) ?_
  refine bv_icmp_ge (j := 10) C rfl rfl (fun h => absurd h (nI_ge (a := k) (b := 16) (by omega) (by omega))) (fun _ => ?_)
  refine bv_blk C frk_X7 csk_X7 3 8 rfl (L1 := ([(0, .ref 1), (1, .int (nI k))] : Lc)) (st1 := ([.int (nI k), .ref 2] : List Value)) (w1 := (layB g σ τ)) (by rfl) ?_
  refine bv_iald C rfl rfl (by decide) (j := k) (by exact rfl) (by first | decide | omega) (by decide) (y := (g 1 (19 + k))) (by rfl) ?_
  refine bv_goto (j := 11) C rfl rfl ?_
  exact bv_iret C rfl hr rfl ⟨by (rfl), by (rfl)⟩
set_option maxRecDepth 100000 in
set_option maxHeartbeats 8000000 in
theorem cs_enter_1 {l : Launch} {D : va_G} {cA : FieldType → ClassId} {z0 : Nat} {SK : Nat → Nat} {SV : Nat → Int32} {ad : Nat → Nat} (hE : aD (fun q => z0 ≤ q) ad 26) (g : Nat → Nat → Int32) (σ τ : Nat → Nat) (hσ : pmK σ τ) (k : Nat) (x : Int32) (hk : k < 16) : bF l D cA z0 SK SV ad shB 26 yX7_enter cX7_enter 3 none 0 [.ref 1, .int (nI k), .int x] (layB g σ τ) none (layB (ug g 1 (19 + k) x) σ τ) := by
  refine bCT_intro (tb := tb_X7_enter) (own := RX7) hE pn_X7 rfl tk_X7_enter rfl (Nat.le_of_ble_eq_true rfl) ?_
  intro p e s0 m args below meth c C hr
  refine bv_blk C frk_X7 csk_X7 1 1 rfl (L1 := ([(0, .ref 1), (1, .int (nI k)), (2, .int x)] : Lc)) (st1 := ([.int (nI k)] : List Value)) (w1 := (layB g σ τ)) (by rfl) ?_
  refine bv_if_lt (j := 10) C rfl rfl (fun h => absurd h (nI_nlt (a := k) (b := 0) (by omega) (by omega))) (fun _ => ?_)
  refine bv_blk C frk_X7 csk_X7 2 4 rfl (L1 := ([(0, .ref 1), (1, .int (nI k)), (2, .int x)] : Lc)) (st1 := ([.int (16), .int (nI k)] : List Value)) (w1 := (layB g σ τ)) (by rfl) ?_
  refine bv_icmp_ge (j := 10) C rfl rfl (fun h => absurd h (nI_ge (a := k) (b := 16) (by omega) (by omega))) (fun _ => ?_)
  refine bv_blk C frk_X7 csk_X7 4 9 rfl (L1 := ([(0, .ref 1), (1, .int (nI k)), (2, .int x)] : Lc)) (st1 := ([.int x, .int (nI k), .ref 2] : List Value)) (w1 := (layB g σ τ)) (by rfl) ?_
  refine bv_iast C rfl rfl (by decide) (j := k) (by exact rfl) (by first | decide | omega) (by decide) ?_
  refine bv_w (lb_up (o := 2) (k := k) (a := 1) (b := (19 + k)) hσ (by decide) (show k < 16 by first | decide | omega) (by rfl) (by rfl)) ?_
  exact bv_vret C rfl hr ⟨by (rfl), by (rfl)⟩
set_option maxRecDepth 100000 in
set_option maxHeartbeats 8000000 in
theorem cs_clearTable_1 {l : Launch} {D : va_G} {cA : FieldType → ClassId} {z0 : Nat} {SK : Nat → Nat} {SV : Nat → Int32} {ad : Nat → Nat} (hE : aD (fun q => z0 ≤ q) ad 26) (g : Nat → Nat → Int32) (σ τ : Nat → Nat) (hσ : pmK σ τ)  : bF l D cA z0 SK SV ad shB 26 yX7_clearTable cX7_clearTable 2 none 0 [.ref 1] (layB g σ τ) none (layB (fillG g 19 16 (-100000)) σ τ) := by
  refine bCT_intro (tb := tb_X7_clearTable) (own := RX7) hE pn_X7 rfl tk_X7_clearTable rfl (Nat.le_of_ble_eq_true rfl) ?_
  intro p e s0 m args below meth c C hr
  refine bv_blk C frk_X7 csk_X7 2 2 rfl (L1 := ([(1, .int (0)), (0, .ref 1)] : Lc)) (st1 := ([] : List Value)) (w1 := (layB g σ τ)) (by rfl) ?_
  have lp_a : ∀ (n_a k_a : Nat), 0 ≤ k_a → k_a + n_a = 16 → bV p l e (bR 0) s0 m args below meth c D cA shB (adA ad 26) 2 tb_X7_clearTable (MQ below (bQ D cA ad shB 26 (fun r w1 => r = none ∧ w1 = (layB (fillG g 19 16 (-100000)) σ τ))) args s0 0 0 (adA ad 26)) ad 26 0 0 (layB (fillG g 19 k_a (-100000)) σ τ) 2 ([(1, .int (nI k_a)), (0, .ref 1)] : Lc) ([] : List Value) := by
    intro n_a
    induction n_a with
    | zero =>
      intro k_a hs_a hk_a
      have hkB_a : k_a = 16 := by omega
      rw [hkB_a]
      refine bv_blk C frk_X7 csk_X7 2 4 rfl (L1 := ([(1, .int (nI 16)), (0, .ref 1)] : Lc)) (st1 := ([.int (16), .int (nI 16)] : List Value)) (w1 := (layB (fillG g 19 16 (-100000)) σ τ)) (by rfl) ?_
      refine bv_icmp_ge (j := 12) C rfl rfl (fun _ => ?_) (fun h => absurd (nI_le (a := 16) (b := 16) (by omega) (by omega)) h)
      exact bv_vret C rfl hr ⟨by (rfl), by (rfl)⟩
    | succ n_a ih =>
      intro k_a hs_a hk_a
      refine bv_blk C frk_X7 csk_X7 2 4 rfl (L1 := ([(1, .int (nI k_a)), (0, .ref 1)] : Lc)) (st1 := ([.int (16), .int (nI k_a)] : List Value)) (w1 := (layB (fillG g 19 k_a (-100000)) σ τ)) (by rfl) ?_
      refine bv_icmp_ge (j := 12) C rfl rfl (fun h => absurd h (nI_ge (a := k_a) (b := 16) (by omega) (by omega))) (fun _ => ?_)
      refine bv_blk C frk_X7 csk_X7 4 9 rfl (L1 := ([(1, .int (nI k_a)), (0, .ref 1)] : Lc)) (st1 := ([.int (-100000), .int (nI k_a), .ref 2] : List Value)) (w1 := (layB (fillG g 19 k_a (-100000)) σ τ)) (by rfl) ?_
      refine bv_iast C rfl rfl (by decide) (j := k_a) (by exact rfl) (by first | decide | omega) (by decide) ?_
      refine bv_w (lb_up (o := 2) (k := k_a) (a := 1) (b := (19 + k_a)) hσ (by decide) (show k_a < 16 by first | decide | omega) (by rfl) (by rfl)) ?_
      refine bv_blk C frk_X7 csk_X7 1 11 rfl (L1 := ([(1, .int ((nI k_a) + Int32.ofInt 1)), (0, .ref 1)] : Lc)) (st1 := ([] : List Value)) (w1 := (layB (ug (fillG g 19 k_a (-100000)) 1 (19 + k_a) (-100000)) σ τ)) (by rfl) ?_
      rw [show ((nI k_a) + Int32.ofInt 1) = nI (k_a + 1) from (nIi rfl)]
      refine bv_goto (j := 2) C rfl rfl ?_
      refine bv_weq (show (layB (ug (fillG g 19 k_a (-100000)) 1 (19 + k_a) (-100000)) σ τ) = (layB (fillG g 19 (k_a + 1) (-100000)) σ τ) from by exact congrArg (fun x => layB x σ τ) (fill_s g 19 k_a (-100000))) ?_
      refine bv_sub [0, 1] (by rfl) ?_
      exact ih (k_a + 1) (by omega) (by omega)
  refine bv_weq (show (layB g σ τ) = (layB (fillG g 19 0 (-100000)) σ τ) from by rw [fill_0]) ?_
  refine bv_sub [0, 1] (by rfl) ?_
  exact lp_a (16 - 0) 0 (Nat.le_refl _) (by omega)
set_option maxRecDepth 100000 in
set_option maxHeartbeats 8000000 in
theorem cs_setUp_1 {l : Launch} {D : va_G} {cA : FieldType → ClassId} {z0 : Nat} {SK : Nat → Nat} {SV : Nat → Int32} {ad : Nat → Nat} (hE : aD (fun q => z0 ≤ q) ad 26) (g : Nat → Nat → Int32) (σ τ : Nat → Nat) (hσ : pmK σ τ) (x y z : Int32) : bF l D cA z0 SK SV ad shB 26 yX7_setUp cX7_setUp 4 none 1 [.ref 1, .int x, .int y, .int z] (layB g σ τ) none (layB (fillG (ug (ug (ug (ug g 1 15 x) 1 16 y) 1 17 z) 1 18 (-100000)) 19 16 (-100000)) σ τ) := by
  refine bCT_intro (tb := tb_X7_setUp) (own := RX7) hE pn_X7 rfl tk_X7_setUp rfl (Nat.le_of_ble_eq_true rfl) ?_
  intro p e s0 m args below meth c C hr
  refine bv_blk C frk_X7 csk_X7 3 3 rfl (L1 := ([(0, .ref 1), (1, .int x), (2, .int y), (3, .int z)] : Lc)) (st1 := ([] : List Value)) (w1 := up2 (layB g σ τ) 1 0 (.int x)) (by rfl) ?_
  refine bv_w (lb_up (o := 1) (k := 0) (a := 1) (b := 15) hσ (by decide) (by decide) (by rfl) (by rfl)) ?_
  refine bv_blk C frk_X7 csk_X7 3 6 rfl (L1 := ([(0, .ref 1), (1, .int x), (2, .int y), (3, .int z)] : Lc)) (st1 := ([] : List Value)) (w1 := up2 (layB (ug g 1 15 x) σ τ) 1 1 (.int y)) (by rfl) ?_
  refine bv_w (lb_up (o := 1) (k := 1) (a := 1) (b := 16) hσ (by decide) (by decide) (by rfl) (by rfl)) ?_
  refine bv_blk C frk_X7 csk_X7 3 9 rfl (L1 := ([(0, .ref 1), (1, .int x), (2, .int y), (3, .int z)] : Lc)) (st1 := ([] : List Value)) (w1 := up2 (layB (ug (ug g 1 15 x) 1 16 y) σ τ) 1 2 (.int z)) (by rfl) ?_
  refine bv_w (lb_up (o := 1) (k := 2) (a := 1) (b := 17) hσ (by decide) (by decide) (by rfl) (by rfl)) ?_
  refine bv_blk C frk_X7 csk_X7 3 12 rfl (L1 := ([(0, .ref 1), (1, .int x), (2, .int y), (3, .int z)] : Lc)) (st1 := ([] : List Value)) (w1 := up2 (layB (ug (ug (ug g 1 15 x) 1 16 y) 1 17 z) σ τ) 1 3 (.int (-100000))) (by rfl) ?_
  refine bv_w (lb_up (o := 1) (k := 3) (a := 1) (b := 18) hσ (by decide) (by decide) (by rfl) (by rfl)) ?_
  refine bv_blk C frk_X7 csk_X7 1 13 rfl (L1 := ([(0, .ref 1), (1, .int x), (2, .int y), (3, .int z)] : Lc)) (st1 := ([.ref 1] : List Value)) (w1 := (layB (ug (ug (ug (ug g 1 15 x) 1 16 y) 1 17 z) 1 18 (-100000)) σ τ)) (by rfl) ?_
  refine bv_fV0 C rfl (cs_clearTable_1 hE (ug (ug (ug (ug g 1 15 x) 1 16 y) 1 17 z) 1 18 (-100000)) σ τ hσ) ml_X7_29 im_X7_clearTable sel_X7_clearTable ini_X7 cd_X7_clearTable ok_X7_clearTable rfl ⟨Nat.le_of_ble_eq_true rfl, Nat.le_of_ble_eq_true rfl⟩ ⟨Nat.zero_le _, Nat.zero_le _⟩ (by decide) rfl rfl rfl (rest := ([] : List Value)) rfl (Nat.le_of_ble_eq_true rfl) ?_
  exact bv_vret C rfl hr ⟨by (rfl), by (rfl)⟩
set_option maxRecDepth 100000 in
set_option maxHeartbeats 8000000 in
theorem cs_hasSector_3 {l : Launch} {D : va_G} {cA : FieldType → ClassId} {z0 : Nat} {SK : Nat → Nat} {SV : Nat → Int32} {ad : Nat → Nat} (hE : aD (fun q => z0 ≤ q) ad 26) (g : Nat → Nat → Int32) (σ τ : Nat → Nat) (hσ : pmK σ τ) (x : Int32) : bF l D cA z0 SK SV ad shB 26 yX7_hasSector cX7_hasSector 2 (some .boolean) 0 [.ref 3, .int x] (layB g σ τ) (some (.int (hsC (g 1 35) x))) (layB g σ τ) := by
  refine bCT_intro (tb := tb_X7_hasSector) (own := RX7) hE pn_X7 rfl tk_X7_hasSector rfl (Nat.le_of_ble_eq_true rfl) ?_
  intro p e s0 m args below meth c C hr
  refine bv_blk C frk_X7 csk_X7 1 1 rfl (L1 := ([(0, .ref 3), (1, .int x)] : Lc)) (st1 := ([.int x] : List Value)) (w1 := (layB g σ τ)) (by rfl) ?_
  refine bv_if_lt (j := 8) C rfl rfl (fun c1 => ?_) (fun c1 => ?_)
  · refine bv_blk C frk_X7 csk_X7 1 9 rfl (L1 := ([(0, .ref 3), (1, .int x)] : Lc)) (st1 := ([.int (0)] : List Value)) (w1 := (layB g σ τ)) (by rfl) ?_
    exact bv_iret C rfl hr rfl ⟨by (exact congrArg (fun x => some (Value.int x)) (((if_pos c1).trans rfl)).symm), by (rfl)⟩
  · refine bv_blk C frk_X7 csk_X7 3 5 rfl (L1 := ([(0, .ref 3), (1, .int x)] : Lc)) (st1 := ([.int (g 1 35), .int x] : List Value)) (w1 := (layB g σ τ)) (by rfl) ?_
    refine bv_icmp_ge (j := 8) C rfl rfl (fun c2 => ?_) (fun c2 => ?_)
    · refine bv_blk C frk_X7 csk_X7 1 9 rfl (L1 := ([(0, .ref 3), (1, .int x)] : Lc)) (st1 := ([.int (0)] : List Value)) (w1 := (layB g σ τ)) (by rfl) ?_
      exact bv_iret C rfl hr rfl ⟨by (exact congrArg (fun x => some (Value.int x)) (((if_neg c1).trans ((if_pos c2).trans rfl))).symm), by (rfl)⟩
    · refine bv_blk C frk_X7 csk_X7 1 7 rfl (L1 := ([(0, .ref 3), (1, .int x)] : Lc)) (st1 := ([.int (1)] : List Value)) (w1 := (layB g σ τ)) (by rfl) ?_
      refine bv_goto (j := 9) C rfl rfl ?_
      exact bv_iret C rfl hr rfl ⟨by (exact congrArg (fun x => some (Value.int x)) (((if_neg c1).trans ((if_neg c2).trans rfl))).symm), by (rfl)⟩
set_option maxRecDepth 100000 in
set_option maxHeartbeats 8000000 in
theorem cs_hasBeam_3 {l : Launch} {D : va_G} {cA : FieldType → ClassId} {z0 : Nat} {SK : Nat → Nat} {SV : Nat → Int32} {ad : Nat → Nat} (hE : aD (fun q => z0 ≤ q) ad 26) (g : Nat → Nat → Int32) (σ τ : Nat → Nat) (hσ : pmK σ τ) (x : Int32) : bF l D cA z0 SK SV ad shB 26 yX7_hasBeam cX7_hasBeam 2 (some .boolean) 0 [.ref 3, .int x] (layB g σ τ) (some (.int (hbC (g 1 35) x))) (layB g σ τ) := by
  refine bCT_intro (tb := tb_X7_hasBeam) (own := RX7) hE pn_X7 rfl tk_X7_hasBeam rfl (Nat.le_of_ble_eq_true rfl) ?_
  intro p e s0 m args below meth c C hr
  refine bv_blk C frk_X7 csk_X7 1 1 rfl (L1 := ([(0, .ref 3), (1, .int x)] : Lc)) (st1 := ([.int x] : List Value)) (w1 := (layB g σ τ)) (by rfl) ?_
  refine bv_if_lt (j := 10) C rfl rfl (fun c1 => ?_) (fun c1 => ?_)
  · refine bv_blk C frk_X7 csk_X7 1 11 rfl (L1 := ([(0, .ref 3), (1, .int x)] : Lc)) (st1 := ([.int (0)] : List Value)) (w1 := (layB g σ τ)) (by rfl) ?_
    exact bv_iret C rfl hr rfl ⟨by (exact congrArg (fun x => some (Value.int x)) (((if_pos c1).trans rfl)).symm), by (rfl)⟩
  · refine bv_blk C frk_X7 csk_X7 5 7 rfl (L1 := ([(0, .ref 3), (1, .int x)] : Lc)) (st1 := ([.int ((6) * (g 1 35)), .int x] : List Value)) (w1 := (layB g σ τ)) (by rfl) ?_
    refine bv_icmp_ge (j := 10) C rfl rfl (fun c2 => ?_) (fun c2 => ?_)
    · refine bv_blk C frk_X7 csk_X7 1 11 rfl (L1 := ([(0, .ref 3), (1, .int x)] : Lc)) (st1 := ([.int (0)] : List Value)) (w1 := (layB g σ τ)) (by rfl) ?_
      exact bv_iret C rfl hr rfl ⟨by (exact congrArg (fun x => some (Value.int x)) (((if_neg c1).trans ((if_pos c2).trans rfl))).symm), by (rfl)⟩
    · refine bv_blk C frk_X7 csk_X7 1 9 rfl (L1 := ([(0, .ref 3), (1, .int x)] : Lc)) (st1 := ([.int (1)] : List Value)) (w1 := (layB g σ τ)) (by rfl) ?_
      refine bv_goto (j := 11) C rfl rfl ?_
      exact bv_iret C rfl hr rfl ⟨by (exact congrArg (fun x => some (Value.int x)) (((if_neg c1).trans ((if_neg c2).trans rfl))).symm), by (rfl)⟩
set_option maxRecDepth 100000 in
set_option maxHeartbeats 8000000 in
theorem cs_sectorOf_3 {l : Launch} {D : va_G} {cA : FieldType → ClassId} {z0 : Nat} {SK : Nat → Nat} {SV : Nat → Int32} {ad : Nat → Nat} (hE : aD (fun q => z0 ≤ q) ad 26) (g : Nat → Nat → Int32) (σ τ : Nat → Nat) (hσ : pmK σ τ) (x : Int32) : bF l D cA z0 SK SV ad shB 26 yX7_sectorOf cX7_sectorOf 2 (some .int) 0 [.ref 3, .int x] (layB g σ τ) (some (.int (scC (g 1 35) x))) (layB g σ τ) := by
  refine bCT_intro (tb := tb_X7_sectorOf) (own := RX7) hE pn_X7 rfl tk_X7_sectorOf rfl (Nat.le_of_ble_eq_true rfl) ?_
  intro p e s0 m args below meth c C hr
  refine bv_blk C frk_X7 csk_X7 3 3 rfl (L1 := ([(0, .ref 3), (1, .int x)] : Lc)) (st1 := ([.int (g 1 35), .int x] : List Value)) (w1 := (layB g σ τ)) (by rfl) ?_
  refine bv_icmp_ge (j := 6) C rfl rfl (fun c1 => ?_) (fun c1 => ?_)
  · refine bv_blk C frk_X7 csk_X7 5 11 rfl (L1 := ([(0, .ref 3), (1, .int x)] : Lc)) (st1 := ([.int (5), .int (x - (g 1 35))] : List Value)) (w1 := (layB g σ τ)) (by rfl) ?_
    refine bv_idiv C rfl (by decide) ?_
    exact bv_iret C rfl hr rfl ⟨by (exact congrArg (fun x => some (Value.int x)) (((if_pos c1).trans rfl)).symm), by (rfl)⟩
  · refine bv_blk C frk_X7 csk_X7 1 5 rfl (L1 := ([(0, .ref 3), (1, .int x)] : Lc)) (st1 := ([.int x] : List Value)) (w1 := (layB g σ τ)) (by rfl) ?_
    refine bv_goto (j := 12) C rfl rfl ?_
    exact bv_iret C rfl hr rfl ⟨by (exact congrArg (fun x => some (Value.int x)) (((if_neg c1).trans rfl)).symm), by (rfl)⟩
set_option maxRecDepth 100000 in
set_option maxHeartbeats 8000000 in
theorem cs_offsetOf_3 {l : Launch} {D : va_G} {cA : FieldType → ClassId} {z0 : Nat} {SK : Nat → Nat} {SV : Nat → Int32} {ad : Nat → Nat} (hE : aD (fun q => z0 ≤ q) ad 26) (g : Nat → Nat → Int32) (σ τ : Nat → Nat) (hσ : pmK σ τ) (x : Int32) : bF l D cA z0 SK SV ad shB 26 yX7_offsetOf cX7_offsetOf 2 (some .int) 0 [.ref 3, .int x] (layB g σ τ) (some (.int (ofC (g 1 35) x))) (layB g σ τ) := by
  refine bCT_intro (tb := tb_X7_offsetOf) (own := RX7) hE pn_X7 rfl tk_X7_offsetOf rfl (Nat.le_of_ble_eq_true rfl) ?_
  intro p e s0 m args below meth c C hr
  refine bv_blk C frk_X7 csk_X7 3 3 rfl (L1 := ([(0, .ref 3), (1, .int x)] : Lc)) (st1 := ([.int (g 1 35), .int x] : List Value)) (w1 := (layB g σ τ)) (by rfl) ?_
  refine bv_icmp_ge (j := 6) C rfl rfl (fun c1 => ?_) (fun c1 => ?_)
  · refine bv_blk C frk_X7 csk_X7 5 11 rfl (L1 := ([(0, .ref 3), (1, .int x)] : Lc)) (st1 := ([.int (5), .int (x - (g 1 35))] : List Value)) (w1 := (layB g σ τ)) (by rfl) ?_
    refine bv_irem C rfl (by decide) ?_
    refine bv_blk C frk_X7 csk_X7 2 14 rfl (L1 := ([(0, .ref 3), (1, .int x)] : Lc)) (st1 := ([.int (((x - (g 1 35)) - (x - (g 1 35)) / (5) * (5)) - (2))] : List Value)) (w1 := (layB g σ τ)) (by rfl) ?_
    exact bv_iret C rfl hr rfl ⟨by (exact congrArg (fun x => some (Value.int x)) (((if_pos c1).trans rfl)).symm), by (rfl)⟩
  · refine bv_blk C frk_X7 csk_X7 1 5 rfl (L1 := ([(0, .ref 3), (1, .int x)] : Lc)) (st1 := ([.int (0)] : List Value)) (w1 := (layB g σ τ)) (by rfl) ?_
    refine bv_goto (j := 14) C rfl rfl ?_
    exact bv_iret C rfl hr rfl ⟨by (exact congrArg (fun x => some (Value.int x)) (((if_neg c1).trans rfl)).symm), by (rfl)⟩
set_option maxRecDepth 100000 in
set_option maxHeartbeats 8000000 in
theorem cs_narrowBeam_3 {l : Launch} {D : va_G} {cA : FieldType → ClassId} {z0 : Nat} {SK : Nat → Nat} {SV : Nat → Int32} {ad : Nat → Nat} (hE : aD (fun q => z0 ≤ q) ad 26) (g : Nat → Nat → Int32) (σ τ : Nat → Nat) (hσ : pmK σ τ) (x y : Int32) : bF l D cA z0 SK SV ad shB 26 yX7_narrowBeam cX7_narrowBeam 3 (some .int) 0 [.ref 3, .int x, .int y] (layB g σ τ) (some (.int (nbC (g 1 35) x y))) (layB g σ τ) := by
  refine bCT_intro (tb := tb_X7_narrowBeam) (own := RX7) hE pn_X7 rfl tk_X7_narrowBeam rfl (Nat.le_of_ble_eq_true rfl) ?_
  intro p e s0 m args below meth c C hr
  refine bv_blk C frk_X7 csk_X7 10 10 rfl (L1 := ([(0, .ref 3), (1, .int x), (2, .int y)] : Lc)) (st1 := ([.int ((((g 1 35) + ((5) * x)) + y) + (2))] : List Value)) (w1 := (layB g σ τ)) (by rfl) ?_
  exact bv_iret C rfl hr rfl ⟨by (rfl), by (rfl)⟩
set_option maxRecDepth 100000 in
set_option maxHeartbeats 8000000 in
theorem cs_sectorBeside_3 {l : Launch} {D : va_G} {cA : FieldType → ClassId} {z0 : Nat} {SK : Nat → Nat} {SV : Nat → Int32} {ad : Nat → Nat} (hE : aD (fun q => z0 ≤ q) ad 26) (g : Nat → Nat → Int32) (σ τ : Nat → Nat) (hσ : pmK σ τ) (x y : Int32) : bF l D cA z0 SK SV ad shB 26 yX7_sectorBeside cX7_sectorBeside 4 (some .int) 0 [.ref 3, .int x, .int y] (layB g σ τ) (some (.int (bsC (g 1 35) x y))) (layB g σ τ) := by
  refine bCT_intro (tb := tb_X7_sectorBeside) (own := RX7) hE pn_X7 rfl tk_X7_sectorBeside rfl (Nat.le_of_ble_eq_true rfl) ?_
  intro p e s0 m args below meth c C hr
  refine bv_blk C frk_X7 csk_X7 5 5 rfl (L1 := ([(3, .int (x + y)), (0, .ref 3), (1, .int x), (2, .int y)] : Lc)) (st1 := ([.int (x + y)] : List Value)) (w1 := (layB g σ τ)) (by rfl) ?_
  refine bv_if_ge (j := 11) C rfl rfl (fun c1 => ?_) (fun c1 => ?_)
  · refine bv_blk C frk_X7 csk_X7 3 14 rfl (L1 := ([(3, .int (x + y)), (0, .ref 3), (1, .int x), (2, .int y)] : Lc)) (st1 := ([.int (g 1 35), .int (x + y)] : List Value)) (w1 := (layB g σ τ)) (by rfl) ?_
    refine bv_icmp_lt (j := 20) C rfl rfl (fun c2 => ?_) (fun c2 => ?_)
    · refine bv_blk C frk_X7 csk_X7 1 21 rfl (L1 := ([(3, .int (x + y)), (0, .ref 3), (1, .int x), (2, .int y)] : Lc)) (st1 := ([.int (x + y)] : List Value)) (w1 := (layB g σ τ)) (by rfl) ?_
      exact bv_iret C rfl hr rfl ⟨by (exact congrArg (fun x => some (Value.int x)) (((if_pos c1).trans ((if_pos c2).trans rfl))).symm), by (rfl)⟩
    · refine bv_blk C frk_X7 csk_X7 4 19 rfl (L1 := ([(3, .int (x + y)), (0, .ref 3), (1, .int x), (2, .int y)] : Lc)) (st1 := ([.int ((x + y) - (g 1 35))] : List Value)) (w1 := (layB g σ τ)) (by rfl) ?_
      refine bv_goto (j := 21) C rfl rfl ?_
      exact bv_iret C rfl hr rfl ⟨by (exact congrArg (fun x => some (Value.int x)) (((if_pos c1).trans ((if_neg c2).trans rfl))).symm), by (rfl)⟩
  · refine bv_blk C frk_X7 csk_X7 4 10 rfl (L1 := ([(3, .int (x + y)), (0, .ref 3), (1, .int x), (2, .int y)] : Lc)) (st1 := ([.int ((x + y) + (g 1 35))] : List Value)) (w1 := (layB g σ τ)) (by rfl) ?_
    exact bv_iret C rfl hr rfl ⟨by (exact congrArg (fun x => some (Value.int x)) (((if_neg c1).trans rfl)).symm), by (rfl)⟩
set_option maxRecDepth 100000 in
set_option maxHeartbeats 8000000 in
theorem cs_pointing_3 {l : Launch} {D : va_G} {cA : FieldType → ClassId} {z0 : Nat} {SK : Nat → Nat} {SV : Nat → Int32} {ad : Nat → Nat} (hE : aD (fun q => z0 ≤ q) ad 26) (g : Nat → Nat → Int32) (σ τ : Nat → Nat) (hσ : pmK σ τ) (x : Int32) : bF l D cA z0 SK SV ad shB 26 yX7_pointing cX7_pointing 3 (some .int) 1 [.ref 3, .int x] (layB g σ τ) (some (.int (ptC (g 1 35) (g 1 36) x))) (layB g σ τ) := by
  refine bCT_intro (tb := tb_X7_pointing) (own := RX7) hE pn_X7 rfl tk_X7_pointing rfl (Nat.le_of_ble_eq_true rfl) ?_
  intro p e s0 m args below meth c C hr
  refine bv_blk C frk_X7 csk_X7 2 2 rfl (L1 := ([(0, .ref 3), (1, .int x)] : Lc)) (st1 := ([.int (g 1 35)] : List Value)) (w1 := (layB g σ τ)) (by rfl) ?_
  refine bv_if_le (j := 12) C rfl rfl (fun c1 => ?_) (fun c1 => ?_)
  · refine bv_blk C frk_X7 csk_X7 8 20 rfl (L1 := ([(2, .int (0)), (0, .ref 3), (1, .int x)] : Lc)) (st1 := ([.int x, .ref 3, .int ((g 1 36) + (0))] : List Value)) (w1 := (layB g σ τ)) (by rfl) ?_
    refine bv_fV1 C rfl (cs_offsetOf_3 hE g σ τ hσ x) ml_X7_40 im_X7_offsetOf sel_X7_offsetOf ini_X7 cd_X7_offsetOf ok_X7_offsetOf rfl ⟨Nat.le_of_ble_eq_true rfl, Nat.le_of_ble_eq_true rfl⟩ ⟨Nat.zero_le _, Nat.zero_le _⟩ (by decide) rfl rfl rfl (rest := ([.int ((g 1 36) + (0))] : List Value)) rfl (Nat.le_of_ble_eq_true rfl) ?_
    refine bv_blk C frk_X7 csk_X7 3 24 rfl (L1 := ([(2, .int (0)), (0, .ref 3), (1, .int x)] : Lc)) (st1 := ([.int ((((g 1 36) + (0)) + (ofC (g 1 35) x)) &&& (63))] : List Value)) (w1 := (layB g σ τ)) (by rfl) ?_
    exact bv_iret C rfl hr rfl ⟨by (exact congrArg (fun x => some (Value.int x)) (((if_pos c1).trans rfl)).symm), by (rfl)⟩
  · refine bv_blk C frk_X7 csk_X7 3 6 rfl (L1 := ([(0, .ref 3), (1, .int x)] : Lc)) (st1 := ([.int x, .ref 3, .int (64)] : List Value)) (w1 := (layB g σ τ)) (by rfl) ?_
    refine bv_fV1 C rfl (cs_sectorOf_3 hE g σ τ hσ x) ml_X7_36 im_X7_sectorOf sel_X7_sectorOf ini_X7 cd_X7_sectorOf ok_X7_sectorOf rfl ⟨Nat.le_of_ble_eq_true rfl, Nat.le_of_ble_eq_true rfl⟩ ⟨Nat.zero_le _, Nat.zero_le _⟩ (by decide) rfl rfl rfl (rest := ([.int (64)] : List Value)) rfl (Nat.le_of_ble_eq_true rfl) ?_
    refine bv_blk C frk_X7 csk_X7 3 10 rfl (L1 := ([(0, .ref 3), (1, .int x)] : Lc)) (st1 := ([.int (g 1 35), .int ((64) * (scC (g 1 35) x))] : List Value)) (w1 := (layB g σ τ)) (by rfl) ?_
    refine bv_idiv C rfl (fun z => absurd (show (g 1 35) ≤ 0 by rw [z]; decide) c1) ?_
    refine bv_goto (j := 13) C rfl rfl ?_
    refine bv_blk C frk_X7 csk_X7 7 20 rfl (L1 := ([(2, .int (((64) * (scC (g 1 35) x)) / (g 1 35))), (0, .ref 3), (1, .int x)] : Lc)) (st1 := ([.int x, .ref 3, .int ((g 1 36) + (((64) * (scC (g 1 35) x)) / (g 1 35)))] : List Value)) (w1 := (layB g σ τ)) (by rfl) ?_
    refine bv_fV1 C rfl (cs_offsetOf_3 hE g σ τ hσ x) ml_X7_40 im_X7_offsetOf sel_X7_offsetOf ini_X7 cd_X7_offsetOf ok_X7_offsetOf rfl ⟨Nat.le_of_ble_eq_true rfl, Nat.le_of_ble_eq_true rfl⟩ ⟨Nat.zero_le _, Nat.zero_le _⟩ (by decide) rfl rfl rfl (rest := ([.int ((g 1 36) + (((64) * (scC (g 1 35) x)) / (g 1 35)))] : List Value)) rfl (Nat.le_of_ble_eq_true rfl) ?_
    refine bv_blk C frk_X7 csk_X7 3 24 rfl (L1 := ([(2, .int (((64) * (scC (g 1 35) x)) / (g 1 35))), (0, .ref 3), (1, .int x)] : Lc)) (st1 := ([.int ((((g 1 36) + (((64) * (scC (g 1 35) x)) / (g 1 35))) + (ofC (g 1 35) x)) &&& (63))] : List Value)) (w1 := (layB g σ τ)) (by rfl) ?_
    exact bv_iret C rfl hr rfl ⟨by (exact congrArg (fun x => some (Value.int x)) (((if_neg c1).trans rfl)).symm), by (rfl)⟩
set_option maxRecDepth 100000 in
set_option maxHeartbeats 8000000 in
theorem cs_gainAt_3 {l : Launch} {D : va_G} {cA : FieldType → ClassId} {z0 : Nat} {SK : Nat → Nat} {SV : Nat → Int32} {ad : Nat → Nat} (hE : aD (fun q => z0 ≤ q) ad 26) (g : Nat → Nat → Int32) (σ τ : Nat → Nat) (hσ : pmK σ τ) (x y : Int32) : bF l D cA z0 SK SV ad shB 26 yX7_gainAt cX7_gainAt 4 (some .int) 0 [.ref 3, .int x, .int y] (layB g σ τ) (some (.int (gnC (g 1 35) x y))) (layB g σ τ) := by
  refine bCT_intro (tb := tb_X7_gainAt) (own := RX7) hE pn_X7 rfl tk_X7_gainAt rfl (Nat.le_of_ble_eq_true rfl) ?_
  intro p e s0 m args below meth c C hr
  refine bv_blk C frk_X7 csk_X7 2 2 rfl (L1 := ([(0, .ref 3), (1, .int x), (2, .int y)] : Lc)) (st1 := ([.int (-1), .int x] : List Value)) (w1 := (layB g σ τ)) (by rfl) ?_
  refine bv_icmp_ne (j := 5) C rfl rfl (fun c1 => ?_) (fun c1 => ?_)
  · refine bv_blk C frk_X7 csk_X7 3 8 rfl (L1 := ([(0, .ref 3), (1, .int x), (2, .int y)] : Lc)) (st1 := ([.int (g 1 35), .int x] : List Value)) (w1 := (layB g σ τ)) (by rfl) ?_
    refine bv_icmp_ge (j := 15) C rfl rfl (fun c2 => ?_) (fun c2 => ?_)
    · refine bv_blk C frk_X7 csk_X7 10 25 rfl (L1 := ([(3, .int ((48) - (((3) * y) * y))), (0, .ref 3), (1, .int x), (2, .int y)] : Lc)) (st1 := ([.int (-40), .int ((48) - (((3) * y) * y))] : List Value)) (w1 := (layB g σ τ)) (by rfl) ?_
      refine bv_icmp_ge (j := 28) C rfl rfl (fun c3 => ?_) (fun c3 => ?_)
      · refine bv_blk C frk_X7 csk_X7 1 29 rfl (L1 := ([(3, .int ((48) - (((3) * y) * y))), (0, .ref 3), (1, .int x), (2, .int y)] : Lc)) (st1 := ([.int ((48) - (((3) * y) * y))] : List Value)) (w1 := (layB g σ τ)) (by rfl) ?_
        exact bv_iret C rfl hr rfl ⟨by (exact congrArg (fun x => some (Value.int x)) (((if_neg c1).trans ((if_pos c2).trans ((if_pos c3).trans rfl)))).symm), by (rfl)⟩
      · refine bv_blk C frk_X7 csk_X7 1 27 rfl (L1 := ([(3, .int ((48) - (((3) * y) * y))), (0, .ref 3), (1, .int x), (2, .int y)] : Lc)) (st1 := ([.int (-40)] : List Value)) (w1 := (layB g σ τ)) (by rfl) ?_
        refine bv_goto (j := 29) C rfl rfl ?_
        exact bv_iret C rfl hr rfl ⟨by (exact congrArg (fun x => some (Value.int x)) (((if_neg c1).trans ((if_pos c2).trans ((if_neg c3).trans rfl)))).symm), by (rfl)⟩
    · refine bv_blk C frk_X7 csk_X7 5 14 rfl (L1 := ([(0, .ref 3), (1, .int x), (2, .int y)] : Lc)) (st1 := ([.int ((36) - (y * y))] : List Value)) (w1 := (layB g σ τ)) (by rfl) ?_
      refine bv_goto (j := 22) C rfl rfl ?_
      refine bv_blk C frk_X7 csk_X7 3 25 rfl (L1 := ([(3, .int ((36) - (y * y))), (0, .ref 3), (1, .int x), (2, .int y)] : Lc)) (st1 := ([.int (-40), .int ((36) - (y * y))] : List Value)) (w1 := (layB g σ τ)) (by rfl) ?_
      refine bv_icmp_ge (j := 28) C rfl rfl (fun c4 => ?_) (fun c4 => ?_)
      · refine bv_blk C frk_X7 csk_X7 1 29 rfl (L1 := ([(3, .int ((36) - (y * y))), (0, .ref 3), (1, .int x), (2, .int y)] : Lc)) (st1 := ([.int ((36) - (y * y))] : List Value)) (w1 := (layB g σ τ)) (by rfl) ?_
        exact bv_iret C rfl hr rfl ⟨by (exact congrArg (fun x => some (Value.int x)) (((if_neg c1).trans ((if_neg c2).trans ((if_pos c4).trans rfl)))).symm), by (rfl)⟩
      · refine bv_blk C frk_X7 csk_X7 1 27 rfl (L1 := ([(3, .int ((36) - (y * y))), (0, .ref 3), (1, .int x), (2, .int y)] : Lc)) (st1 := ([.int (-40)] : List Value)) (w1 := (layB g σ τ)) (by rfl) ?_
        refine bv_goto (j := 29) C rfl rfl ?_
        exact bv_iret C rfl hr rfl ⟨by (exact congrArg (fun x => some (Value.int x)) (((if_neg c1).trans ((if_neg c2).trans ((if_neg c4).trans rfl)))).symm), by (rfl)⟩
  · refine bv_blk C frk_X7 csk_X7 1 4 rfl (L1 := ([(0, .ref 3), (1, .int x), (2, .int y)] : Lc)) (st1 := ([.int (0)] : List Value)) (w1 := (layB g σ τ)) (by rfl) ?_
    exact bv_iret C rfl hr rfl ⟨by (exact congrArg (fun x => some (Value.int x)) (((if_pos c1).trans rfl)).symm), by (rfl)⟩
set_option maxRecDepth 100000 in
set_option maxHeartbeats 8000000 in
theorem cs_neighbourOf_3 {l : Launch} {D : va_G} {cA : FieldType → ClassId} {z0 : Nat} {SK : Nat → Nat} {SV : Nat → Int32} {ad : Nat → Nat} (hE : aD (fun q => z0 ≤ q) ad 26) (g : Nat → Nat → Int32) (σ τ : Nat → Nat) (hσ : pmK σ τ) (x y : Int32) : bF l D cA z0 SK SV ad shB 26 yX7_neighbourOf cX7_neighbourOf 5 (some .int) 1 [.ref 3, .int x, .int y] (layB g σ τ) (some (.int (neC (g 1 35) x y))) (layB g σ τ) := by
  refine bCT_intro (tb := tb_X7_neighbourOf) (own := RX7) hE pn_X7 rfl tk_X7_neighbourOf rfl (Nat.le_of_ble_eq_true rfl) ?_
  intro p e s0 m args below meth c C hr
  refine bv_blk C frk_X7 csk_X7 2 2 rfl (L1 := ([(0, .ref 3), (1, .int x), (2, .int y)] : Lc)) (st1 := ([.int x, .ref 3] : List Value)) (w1 := (layB g σ τ)) (by rfl) ?_
  refine bv_fV1 C rfl (cs_sectorOf_3 hE g σ τ hσ x) ml_X7_36 im_X7_sectorOf sel_X7_sectorOf ini_X7 cd_X7_sectorOf ok_X7_sectorOf rfl ⟨Nat.le_of_ble_eq_true rfl, Nat.le_of_ble_eq_true rfl⟩ ⟨Nat.zero_le _, Nat.zero_le _⟩ (by decide) rfl rfl rfl (rest := ([] : List Value)) rfl (Nat.le_of_ble_eq_true rfl) ?_
  refine bv_blk C frk_X7 csk_X7 4 7 rfl (L1 := ([(3, .int (scC (g 1 35) x)), (0, .ref 3), (1, .int x), (2, .int y)] : Lc)) (st1 := ([.int (g 1 35), .int x] : List Value)) (w1 := (layB g σ τ)) (by rfl) ?_
  refine bv_icmp_ge (j := 13) C rfl rfl (fun c1 => ?_) (fun c1 => ?_)
  · refine bv_blk C frk_X7 csk_X7 2 15 rfl (L1 := ([(3, .int (scC (g 1 35) x)), (0, .ref 3), (1, .int x), (2, .int y)] : Lc)) (st1 := ([.int x, .ref 3] : List Value)) (w1 := (layB g σ τ)) (by rfl) ?_
    refine bv_fV1 C rfl (cs_offsetOf_3 hE g σ τ hσ x) ml_X7_40 im_X7_offsetOf sel_X7_offsetOf ini_X7 cd_X7_offsetOf ok_X7_offsetOf rfl ⟨Nat.le_of_ble_eq_true rfl, Nat.le_of_ble_eq_true rfl⟩ ⟨Nat.zero_le _, Nat.zero_le _⟩ (by decide) rfl rfl rfl (rest := ([] : List Value)) rfl (Nat.le_of_ble_eq_true rfl) ?_
    refine bv_blk C frk_X7 csk_X7 5 21 rfl (L1 := ([(4, .int ((ofC (g 1 35) x) + y)), (3, .int (scC (g 1 35) x)), (0, .ref 3), (1, .int x), (2, .int y)] : Lc)) (st1 := ([.int (-2), .int ((ofC (g 1 35) x) + y)] : List Value)) (w1 := (layB g σ τ)) (by rfl) ?_
    refine bv_icmp_lt (j := 25) C rfl rfl (fun c2 => ?_) (fun c2 => ?_)
    · refine bv_blk C frk_X7 csk_X7 4 29 rfl (L1 := ([(4, .int ((ofC (g 1 35) x) + y)), (3, .int (scC (g 1 35) x)), (0, .ref 3), (1, .int x), (2, .int y)] : Lc)) (st1 := ([.int y, .int (scC (g 1 35) x), .ref 3, .ref 3] : List Value)) (w1 := (layB g σ τ)) (by rfl) ?_
      refine bv_fV1 C rfl (cs_sectorBeside_3 hE g σ τ hσ (scC (g 1 35) x) y) ml_X7_43 im_X7_sectorBeside sel_X7_sectorBeside ini_X7 cd_X7_sectorBeside ok_X7_sectorBeside rfl ⟨Nat.le_of_ble_eq_true rfl, Nat.le_of_ble_eq_true rfl⟩ ⟨Nat.zero_le _, Nat.zero_le _⟩ (by decide) rfl rfl rfl (rest := ([.ref 3] : List Value)) rfl (Nat.le_of_ble_eq_true rfl) ?_
      refine bv_blk C frk_X7 csk_X7 3 33 rfl (L1 := ([(4, .int ((ofC (g 1 35) x) + y)), (3, .int (scC (g 1 35) x)), (0, .ref 3), (1, .int x), (2, .int y)] : Lc)) (st1 := ([.int ((-2) * y), .int (bsC (g 1 35) (scC (g 1 35) x) y), .ref 3] : List Value)) (w1 := (layB g σ τ)) (by rfl) ?_
      refine bv_fV1 C rfl (cs_narrowBeam_3 hE g σ τ hσ (bsC (g 1 35) (scC (g 1 35) x) y) ((-2) * y)) ml_X7_47 im_X7_narrowBeam sel_X7_narrowBeam ini_X7 cd_X7_narrowBeam ok_X7_narrowBeam rfl ⟨Nat.le_of_ble_eq_true rfl, Nat.le_of_ble_eq_true rfl⟩ ⟨Nat.zero_le _, Nat.zero_le _⟩ (by decide) rfl rfl rfl (rest := ([] : List Value)) rfl (Nat.le_of_ble_eq_true rfl) ?_
      exact bv_iret C rfl hr rfl ⟨by (exact congrArg (fun x => some (Value.int x)) (((if_pos c1).trans ((if_pos c2).trans rfl))).symm), by (rfl)⟩
    · refine bv_blk C frk_X7 csk_X7 2 24 rfl (L1 := ([(4, .int ((ofC (g 1 35) x) + y)), (3, .int (scC (g 1 35) x)), (0, .ref 3), (1, .int x), (2, .int y)] : Lc)) (st1 := ([.int (2), .int ((ofC (g 1 35) x) + y)] : List Value)) (w1 := (layB g σ τ)) (by rfl) ?_
      refine bv_icmp_le (j := 35) C rfl rfl (fun c3 => ?_) (fun c3 => ?_)
      · refine bv_blk C frk_X7 csk_X7 3 38 rfl (L1 := ([(4, .int ((ofC (g 1 35) x) + y)), (3, .int (scC (g 1 35) x)), (0, .ref 3), (1, .int x), (2, .int y)] : Lc)) (st1 := ([.int ((ofC (g 1 35) x) + y), .int (scC (g 1 35) x), .ref 3] : List Value)) (w1 := (layB g σ τ)) (by rfl) ?_
        refine bv_fV1 C rfl (cs_narrowBeam_3 hE g σ τ hσ (scC (g 1 35) x) ((ofC (g 1 35) x) + y)) ml_X7_47 im_X7_narrowBeam sel_X7_narrowBeam ini_X7 cd_X7_narrowBeam ok_X7_narrowBeam rfl ⟨Nat.le_of_ble_eq_true rfl, Nat.le_of_ble_eq_true rfl⟩ ⟨Nat.zero_le _, Nat.zero_le _⟩ (by decide) rfl rfl rfl (rest := ([] : List Value)) rfl (Nat.le_of_ble_eq_true rfl) ?_
        exact bv_iret C rfl hr rfl ⟨by (exact congrArg (fun x => some (Value.int x)) (((if_pos c1).trans ((if_neg c2).trans ((if_pos c3).trans rfl)))).symm), by (rfl)⟩
      · refine bv_blk C frk_X7 csk_X7 4 29 rfl (L1 := ([(4, .int ((ofC (g 1 35) x) + y)), (3, .int (scC (g 1 35) x)), (0, .ref 3), (1, .int x), (2, .int y)] : Lc)) (st1 := ([.int y, .int (scC (g 1 35) x), .ref 3, .ref 3] : List Value)) (w1 := (layB g σ τ)) (by rfl) ?_
        refine bv_fV1 C rfl (cs_sectorBeside_3 hE g σ τ hσ (scC (g 1 35) x) y) ml_X7_43 im_X7_sectorBeside sel_X7_sectorBeside ini_X7 cd_X7_sectorBeside ok_X7_sectorBeside rfl ⟨Nat.le_of_ble_eq_true rfl, Nat.le_of_ble_eq_true rfl⟩ ⟨Nat.zero_le _, Nat.zero_le _⟩ (by decide) rfl rfl rfl (rest := ([.ref 3] : List Value)) rfl (Nat.le_of_ble_eq_true rfl) ?_
        refine bv_blk C frk_X7 csk_X7 3 33 rfl (L1 := ([(4, .int ((ofC (g 1 35) x) + y)), (3, .int (scC (g 1 35) x)), (0, .ref 3), (1, .int x), (2, .int y)] : Lc)) (st1 := ([.int ((-2) * y), .int (bsC (g 1 35) (scC (g 1 35) x) y), .ref 3] : List Value)) (w1 := (layB g σ τ)) (by rfl) ?_
        refine bv_fV1 C rfl (cs_narrowBeam_3 hE g σ τ hσ (bsC (g 1 35) (scC (g 1 35) x) y) ((-2) * y)) ml_X7_47 im_X7_narrowBeam sel_X7_narrowBeam ini_X7 cd_X7_narrowBeam ok_X7_narrowBeam rfl ⟨Nat.le_of_ble_eq_true rfl, Nat.le_of_ble_eq_true rfl⟩ ⟨Nat.zero_le _, Nat.zero_le _⟩ (by decide) rfl rfl rfl (rest := ([] : List Value)) rfl (Nat.le_of_ble_eq_true rfl) ?_
        exact bv_iret C rfl hr rfl ⟨by (exact congrArg (fun x => some (Value.int x)) (((if_pos c1).trans ((if_neg c2).trans ((if_neg c3).trans rfl)))).symm), by (rfl)⟩
  · refine bv_blk C frk_X7 csk_X7 3 11 rfl (L1 := ([(3, .int (scC (g 1 35) x)), (0, .ref 3), (1, .int x), (2, .int y)] : Lc)) (st1 := ([.int y, .int (scC (g 1 35) x), .ref 3] : List Value)) (w1 := (layB g σ τ)) (by rfl) ?_
    refine bv_fV1 C rfl (cs_sectorBeside_3 hE g σ τ hσ (scC (g 1 35) x) y) ml_X7_43 im_X7_sectorBeside sel_X7_sectorBeside ini_X7 cd_X7_sectorBeside ok_X7_sectorBeside rfl ⟨Nat.le_of_ble_eq_true rfl, Nat.le_of_ble_eq_true rfl⟩ ⟨Nat.zero_le _, Nat.zero_le _⟩ (by decide) rfl rfl rfl (rest := ([] : List Value)) rfl (Nat.le_of_ble_eq_true rfl) ?_
    exact bv_iret C rfl hr rfl ⟨by (exact congrArg (fun x => some (Value.int x)) (((if_neg c1).trans rfl)).symm), by (rfl)⟩
set_option maxRecDepth 100000 in
set_option maxHeartbeats 8000000 in
theorem cs_entry_3 {l : Launch} {D : va_G} {cA : FieldType → ClassId} {z0 : Nat} {SK : Nat → Nat} {SV : Nat → Int32} {ad : Nat → Nat} (hE : aD (fun q => z0 ≤ q) ad 26) (g : Nat → Nat → Int32) (σ τ : Nat → Nat) (hσ : pmK σ τ) (k : Nat) (hk : k < 16) : bF l D cA z0 SK SV ad shB 26 yX7_entry cX7_entry 2 (some .int) 0 [.ref 3, .int (nI k)] (layB g σ τ) (some (.int (g 1 (39 + k)))) (layB g σ τ) := by
  refine bCT_intro (tb := tb_X7_entry) (own := RX7) hE pn_X7 rfl tk_X7_entry rfl (Nat.le_of_ble_eq_true rfl) ?_
  intro p e s0 m args below meth c C hr
  refine bv_blk C frk_X7 csk_X7 1 1 rfl (L1 := ([(0, .ref 3), (1, .int (nI k))] : Lc)) (st1 := ([.int (nI k)] : List Value)) (w1 := (layB g σ τ)) (by rfl) ?_
  refine bv_if_lt (j := 10) C rfl rfl (fun h => absurd h (nI_nlt (a := k) (b := 0) (by omega) (by omega))) (fun _ => ?_)
  refine bv_blk C frk_X7 csk_X7 2 4 rfl (L1 := ([(0, .ref 3), (1, .int (nI k))] : Lc)) (st1 := ([.int (16), .int (nI k)] : List Value)) (w1 := (layB g σ τ)) (by rfl) ?_
  refine bv_icmp_ge (j := 10) C rfl rfl (fun h => absurd h (nI_ge (a := k) (b := 16) (by omega) (by omega))) (fun _ => ?_)
  refine bv_blk C frk_X7 csk_X7 3 8 rfl (L1 := ([(0, .ref 3), (1, .int (nI k))] : Lc)) (st1 := ([.int (nI k), .ref 4] : List Value)) (w1 := (layB g σ τ)) (by rfl) ?_
  refine bv_iald C rfl rfl (by decide) (j := k) (by exact rfl) (by first | decide | omega) (by decide) (y := (g 1 (39 + k))) (by rfl) ?_
  refine bv_goto (j := 11) C rfl rfl ?_
  exact bv_iret C rfl hr rfl ⟨by (rfl), by (rfl)⟩
set_option maxRecDepth 100000 in
set_option maxHeartbeats 8000000 in
theorem cs_enter_3 {l : Launch} {D : va_G} {cA : FieldType → ClassId} {z0 : Nat} {SK : Nat → Nat} {SV : Nat → Int32} {ad : Nat → Nat} (hE : aD (fun q => z0 ≤ q) ad 26) (g : Nat → Nat → Int32) (σ τ : Nat → Nat) (hσ : pmK σ τ) (k : Nat) (x : Int32) (hk : k < 16) : bF l D cA z0 SK SV ad shB 26 yX7_enter cX7_enter 3 none 0 [.ref 3, .int (nI k), .int x] (layB g σ τ) none (layB (ug g 1 (39 + k) x) σ τ) := by
  refine bCT_intro (tb := tb_X7_enter) (own := RX7) hE pn_X7 rfl tk_X7_enter rfl (Nat.le_of_ble_eq_true rfl) ?_
  intro p e s0 m args below meth c C hr
  refine bv_blk C frk_X7 csk_X7 1 1 rfl (L1 := ([(0, .ref 3), (1, .int (nI k)), (2, .int x)] : Lc)) (st1 := ([.int (nI k)] : List Value)) (w1 := (layB g σ τ)) (by rfl) ?_
  refine bv_if_lt (j := 10) C rfl rfl (fun h => absurd h (nI_nlt (a := k) (b := 0) (by omega) (by omega))) (fun _ => ?_)
  refine bv_blk C frk_X7 csk_X7 2 4 rfl (L1 := ([(0, .ref 3), (1, .int (nI k)), (2, .int x)] : Lc)) (st1 := ([.int (16), .int (nI k)] : List Value)) (w1 := (layB g σ τ)) (by rfl) ?_
  refine bv_icmp_ge (j := 10) C rfl rfl (fun h => absurd h (nI_ge (a := k) (b := 16) (by omega) (by omega))) (fun _ => ?_)
  refine bv_blk C frk_X7 csk_X7 4 9 rfl (L1 := ([(0, .ref 3), (1, .int (nI k)), (2, .int x)] : Lc)) (st1 := ([.int x, .int (nI k), .ref 4] : List Value)) (w1 := (layB g σ τ)) (by rfl) ?_
  refine bv_iast C rfl rfl (by decide) (j := k) (by exact rfl) (by first | decide | omega) (by decide) ?_
  refine bv_w (lb_up (o := 4) (k := k) (a := 1) (b := (39 + k)) hσ (by decide) (show k < 16 by first | decide | omega) (by rfl) (by rfl)) ?_
  exact bv_vret C rfl hr ⟨by (rfl), by (rfl)⟩
set_option maxRecDepth 100000 in
set_option maxHeartbeats 8000000 in
theorem cs_clearTable_3 {l : Launch} {D : va_G} {cA : FieldType → ClassId} {z0 : Nat} {SK : Nat → Nat} {SV : Nat → Int32} {ad : Nat → Nat} (hE : aD (fun q => z0 ≤ q) ad 26) (g : Nat → Nat → Int32) (σ τ : Nat → Nat) (hσ : pmK σ τ)  : bF l D cA z0 SK SV ad shB 26 yX7_clearTable cX7_clearTable 2 none 0 [.ref 3] (layB g σ τ) none (layB (fillG g 39 16 (-100000)) σ τ) := by
  refine bCT_intro (tb := tb_X7_clearTable) (own := RX7) hE pn_X7 rfl tk_X7_clearTable rfl (Nat.le_of_ble_eq_true rfl) ?_
  intro p e s0 m args below meth c C hr
  refine bv_blk C frk_X7 csk_X7 2 2 rfl (L1 := ([(1, .int (0)), (0, .ref 3)] : Lc)) (st1 := ([] : List Value)) (w1 := (layB g σ τ)) (by rfl) ?_
  have lp_a : ∀ (n_a k_a : Nat), 0 ≤ k_a → k_a + n_a = 16 → bV p l e (bR 0) s0 m args below meth c D cA shB (adA ad 26) 2 tb_X7_clearTable (MQ below (bQ D cA ad shB 26 (fun r w1 => r = none ∧ w1 = (layB (fillG g 39 16 (-100000)) σ τ))) args s0 0 0 (adA ad 26)) ad 26 0 0 (layB (fillG g 39 k_a (-100000)) σ τ) 2 ([(1, .int (nI k_a)), (0, .ref 3)] : Lc) ([] : List Value) := by
    intro n_a
    induction n_a with
    | zero =>
      intro k_a hs_a hk_a
      have hkB_a : k_a = 16 := by omega
      rw [hkB_a]
      refine bv_blk C frk_X7 csk_X7 2 4 rfl (L1 := ([(1, .int (nI 16)), (0, .ref 3)] : Lc)) (st1 := ([.int (16), .int (nI 16)] : List Value)) (w1 := (layB (fillG g 39 16 (-100000)) σ τ)) (by rfl) ?_
      refine bv_icmp_ge (j := 12) C rfl rfl (fun _ => ?_) (fun h => absurd (nI_le (a := 16) (b := 16) (by omega) (by omega)) h)
      exact bv_vret C rfl hr ⟨by (rfl), by (rfl)⟩
    | succ n_a ih =>
      intro k_a hs_a hk_a
      refine bv_blk C frk_X7 csk_X7 2 4 rfl (L1 := ([(1, .int (nI k_a)), (0, .ref 3)] : Lc)) (st1 := ([.int (16), .int (nI k_a)] : List Value)) (w1 := (layB (fillG g 39 k_a (-100000)) σ τ)) (by rfl) ?_
      refine bv_icmp_ge (j := 12) C rfl rfl (fun h => absurd h (nI_ge (a := k_a) (b := 16) (by omega) (by omega))) (fun _ => ?_)
      refine bv_blk C frk_X7 csk_X7 4 9 rfl (L1 := ([(1, .int (nI k_a)), (0, .ref 3)] : Lc)) (st1 := ([.int (-100000), .int (nI k_a), .ref 4] : List Value)) (w1 := (layB (fillG g 39 k_a (-100000)) σ τ)) (by rfl) ?_
      refine bv_iast C rfl rfl (by decide) (j := k_a) (by exact rfl) (by first | decide | omega) (by decide) ?_
      refine bv_w (lb_up (o := 4) (k := k_a) (a := 1) (b := (39 + k_a)) hσ (by decide) (show k_a < 16 by first | decide | omega) (by rfl) (by rfl)) ?_
      refine bv_blk C frk_X7 csk_X7 1 11 rfl (L1 := ([(1, .int ((nI k_a) + Int32.ofInt 1)), (0, .ref 3)] : Lc)) (st1 := ([] : List Value)) (w1 := (layB (ug (fillG g 39 k_a (-100000)) 1 (39 + k_a) (-100000)) σ τ)) (by rfl) ?_
      rw [show ((nI k_a) + Int32.ofInt 1) = nI (k_a + 1) from (nIi rfl)]
      refine bv_goto (j := 2) C rfl rfl ?_
      refine bv_weq (show (layB (ug (fillG g 39 k_a (-100000)) 1 (39 + k_a) (-100000)) σ τ) = (layB (fillG g 39 (k_a + 1) (-100000)) σ τ) from by exact congrArg (fun x => layB x σ τ) (fill_s g 39 k_a (-100000))) ?_
      refine bv_sub [0, 1] (by rfl) ?_
      exact ih (k_a + 1) (by omega) (by omega)
  refine bv_weq (show (layB g σ τ) = (layB (fillG g 39 0 (-100000)) σ τ) from by rw [fill_0]) ?_
  refine bv_sub [0, 1] (by rfl) ?_
  exact lp_a (16 - 0) 0 (Nat.le_refl _) (by omega)
set_option maxRecDepth 100000 in
set_option maxHeartbeats 8000000 in
theorem cs_setUp_3 {l : Launch} {D : va_G} {cA : FieldType → ClassId} {z0 : Nat} {SK : Nat → Nat} {SV : Nat → Int32} {ad : Nat → Nat} (hE : aD (fun q => z0 ≤ q) ad 26) (g : Nat → Nat → Int32) (σ τ : Nat → Nat) (hσ : pmK σ τ) (x y z : Int32) : bF l D cA z0 SK SV ad shB 26 yX7_setUp cX7_setUp 4 none 1 [.ref 3, .int x, .int y, .int z] (layB g σ τ) none (layB (fillG (ug (ug (ug (ug g 1 35 x) 1 36 y) 1 37 z) 1 38 (-100000)) 39 16 (-100000)) σ τ) := by
  refine bCT_intro (tb := tb_X7_setUp) (own := RX7) hE pn_X7 rfl tk_X7_setUp rfl (Nat.le_of_ble_eq_true rfl) ?_
  intro p e s0 m args below meth c C hr
  refine bv_blk C frk_X7 csk_X7 3 3 rfl (L1 := ([(0, .ref 3), (1, .int x), (2, .int y), (3, .int z)] : Lc)) (st1 := ([] : List Value)) (w1 := up2 (layB g σ τ) 3 0 (.int x)) (by rfl) ?_
  refine bv_w (lb_up (o := 3) (k := 0) (a := 1) (b := 35) hσ (by decide) (by decide) (by rfl) (by rfl)) ?_
  refine bv_blk C frk_X7 csk_X7 3 6 rfl (L1 := ([(0, .ref 3), (1, .int x), (2, .int y), (3, .int z)] : Lc)) (st1 := ([] : List Value)) (w1 := up2 (layB (ug g 1 35 x) σ τ) 3 1 (.int y)) (by rfl) ?_
  refine bv_w (lb_up (o := 3) (k := 1) (a := 1) (b := 36) hσ (by decide) (by decide) (by rfl) (by rfl)) ?_
  refine bv_blk C frk_X7 csk_X7 3 9 rfl (L1 := ([(0, .ref 3), (1, .int x), (2, .int y), (3, .int z)] : Lc)) (st1 := ([] : List Value)) (w1 := up2 (layB (ug (ug g 1 35 x) 1 36 y) σ τ) 3 2 (.int z)) (by rfl) ?_
  refine bv_w (lb_up (o := 3) (k := 2) (a := 1) (b := 37) hσ (by decide) (by decide) (by rfl) (by rfl)) ?_
  refine bv_blk C frk_X7 csk_X7 3 12 rfl (L1 := ([(0, .ref 3), (1, .int x), (2, .int y), (3, .int z)] : Lc)) (st1 := ([] : List Value)) (w1 := up2 (layB (ug (ug (ug g 1 35 x) 1 36 y) 1 37 z) σ τ) 3 3 (.int (-100000))) (by rfl) ?_
  refine bv_w (lb_up (o := 3) (k := 3) (a := 1) (b := 38) hσ (by decide) (by decide) (by rfl) (by rfl)) ?_
  refine bv_blk C frk_X7 csk_X7 1 13 rfl (L1 := ([(0, .ref 3), (1, .int x), (2, .int y), (3, .int z)] : Lc)) (st1 := ([.ref 3] : List Value)) (w1 := (layB (ug (ug (ug (ug g 1 35 x) 1 36 y) 1 37 z) 1 38 (-100000)) σ τ)) (by rfl) ?_
  refine bv_fV0 C rfl (cs_clearTable_3 hE (ug (ug (ug (ug g 1 35 x) 1 36 y) 1 37 z) 1 38 (-100000)) σ τ hσ) ml_X7_29 im_X7_clearTable sel_X7_clearTable ini_X7 cd_X7_clearTable ok_X7_clearTable rfl ⟨Nat.le_of_ble_eq_true rfl, Nat.le_of_ble_eq_true rfl⟩ ⟨Nat.zero_le _, Nat.zero_le _⟩ (by decide) rfl rfl rfl (rest := ([] : List Value)) rfl (Nat.le_of_ble_eq_true rfl) ?_
  exact bv_vret C rfl hr ⟨by (rfl), by (rfl)⟩
