def csW (own : String) (n : Nat) (v : Value) : Prop := match v with
  | .int x => Cond.constant own n x ∈ ALLW
  | .float x => Cond.constantFloat own n x ∈ ALLW
  | .long x => Cond.constantLong own n x ∈ ALLW
  | _ => False
def csOK (own : String) (cs : List (Nat × Value)) : Prop := ∀ t ∈ cs, csW own t.1 t.2
/-- the fields that a class links: place in its pool; class, slot; 1: an int that may be written, 2: a long, 0: read only (by these rows) -/
def frOK (own : String) (fr : List (Nat × Nat × Nat × Nat)) : Prop := ∀ t ∈ fr, ∃ (Cn : String) (T : u_T) (n : Nat), clOK t.2.1 Cn T n ∧ t.2.2.1 < n ∧ Cond.fieldLink own t.1 (T t.2.2.1).1 (T t.2.2.1).2.1 (T t.2.2.1).2.2.1 ∈ ALLW ∧ (t.2.2.2 = 1 → (T t.2.2.1).2.2.2 = false ∧ parseFieldDescriptor (T t.2.2.1).2.2.1 = some .int) ∧ (t.2.2.2 = 2 → (T t.2.2.1).2.2.2 = false ∧ parseFieldDescriptor (T t.2.2.1).2.2.1 = some .long)
/-- what one instruction does that asks for nothing -/
def bstep (fr : List (Nat × Nat × Nat × Nat)) (cs : List (Nat × Value)) (nL N : Nat) (sh : Sh) (ins : Instr) (L : Lc) (st : List Value) (w : Wd) : Option (Lc × List Value × Wd) := match ins with
  | .iconst n => some (L, .int (Int32.ofInt n) :: st, w)
  | .bipush n => some (L, .int (Int8.ofInt n).toInt32 :: st, w)
  | .sipush n => some (L, .int (Int16.ofInt n).toInt32 :: st, w)
  | .lconst n => some (L, .long (Int64.ofNat (n : Nat)) :: st, w)
  | .ldc n => match cs.find? (fun t => t.1 == n) with
    | some t => (match t.2 with
      | .int v => some (L, .int v :: st, w)
      | .float v => some (L, .float v :: st, w)
      | _ => none)
    | none => none
  | .ldc2_w n => match cs.find? (fun t => t.1 == n) with
    | some t => (match t.2 with
      | .long v => some (L, .long v :: st, w)
      | _ => none)
    | none => none
  | .iload_n n => match bget L n with
    | some (.int x) => some (L, .int x :: st, w)
    | _ => none
  | .iload n => match bget L n with
    | some (.int x) => some (L, .int x :: st, w)
    | _ => none
  | .istore_n n => match st with
    | .int x :: r => if Nat.blt (n.val) nL = true then some (bset L n.val (.int x), r, w) else none
    | _ => none
  | .istore n => match st with
    | .int x :: r => if Nat.blt (n) nL = true then some (bset L n (.int x), r, w) else none
    | _ => none
  | .lload_n n => match bget L n with
    | some (.long x) => some (L, .long x :: st, w)
    | _ => none
  | .lload n => match bget L n with
    | some (.long x) => some (L, .long x :: st, w)
    | _ => none
  | .lstore_n n => match st with
    | .long x :: r => if Nat.blt (n.val + 1) nL = true then some (bset2 L n.val (.long x), r, w) else none
    | _ => none
  | .lstore n => match st with
    | .long x :: r => if Nat.blt (n + 1) nL = true then some (bset2 L n (.long x), r, w) else none
    | _ => none
  | .fload_n n => match bget L n with
    | some (.float x) => some (L, .float x :: st, w)
    | _ => none
  | .fload n => match bget L n with
    | some (.float x) => some (L, .float x :: st, w)
    | _ => none
  | .fstore_n n => match st with
    | .float x :: r => if Nat.blt (n.val) nL = true then some (bset L n.val (.float x), r, w) else none
    | _ => none
  | .fstore n => match st with
    | .float x :: r => if Nat.blt (n) nL = true then some (bset L n (.float x), r, w) else none
    | _ => none
  | .aload_n n => match bget L n with
    | some (.ref x) => some (L, .ref x :: st, w)
    | _ => none
  | .aload n => match bget L n with
    | some (.ref x) => some (L, .ref x :: st, w)
    | _ => none
  | .astore_n n => match st with
    | .ref x :: r => if Nat.blt (n.val) nL = true then some (bset L n.val (.ref x), r, w) else none
    | _ => none
  | .astore n => match st with
    | .ref x :: r => if Nat.blt (n) nL = true then some (bset L n (.ref x), r, w) else none
    | _ => none
  | .iinc n q => match bget L n with
    | some (.int x) => if Nat.blt n nL = true then some (bset L n (.int (x + Int32.ofInt q)), st, w) else none
    | _ => none
  | .iadd => match st with
    | .int y :: .int x :: r => some (L, .int (x + y) :: r, w)
    | _ => none
  | .isub => match st with
    | .int y :: .int x :: r => some (L, .int (x - y) :: r, w)
    | _ => none
  | .imul => match st with
    | .int y :: .int x :: r => some (L, .int (x * y) :: r, w)
    | _ => none
  | .iand => match st with
    | .int y :: .int x :: r => some (L, .int (x &&& y) :: r, w)
    | _ => none
  | .ior => match st with
    | .int y :: .int x :: r => some (L, .int (x ||| y) :: r, w)
    | _ => none
  | .ixor => match st with
    | .int y :: .int x :: r => some (L, .int (x ^^^ y) :: r, w)
    | _ => none
  | .ishl => match st with
    | .int y :: .int x :: r => some (L, .int (x <<< (y &&& 31)) :: r, w)
    | _ => none
  | .ishr => match st with
    | .int y :: .int x :: r => some (L, .int (x >>> (y &&& 31)) :: r, w)
    | _ => none
  | .iushr => match st with
    | .int y :: .int x :: r => some (L, .int ((x.toUInt32 >>> (y.toUInt32 &&& Int32.toUInt32 31)).toInt32) :: r, w)
    | _ => none
  | .ladd => match st with
    | .long y :: .long x :: r => some (L, .long (x + y) :: r, w)
    | _ => none
  | .lsub => match st with
    | .long y :: .long x :: r => some (L, .long (x - y) :: r, w)
    | _ => none
  | .lmul => match st with
    | .long y :: .long x :: r => some (L, .long (x * y) :: r, w)
    | _ => none
  | .lcmp => match st with
    | .long y :: .long x :: r => some (L, .int (lg_cmp x y) :: r, w)
    | _ => none
  | .lshl => match st with
    | .int y :: .long x :: r => some (L, .long (x <<< (y.toInt64 &&& 63)) :: r, w)
    | _ => none
  | .fcmp op => match st with
    | .float y :: .float x :: r => some (L, .int (Op.cmpValue (FP.fcmp x y) op) :: r, w)
    | _ => none
  | .ineg => match st with
    | .int x :: r => some (L, .int (-x) :: r, w)
    | _ => none
  | .i2l => match st with
    | .int x :: r => some (L, .long (x.toInt64) :: r, w)
    | _ => none
  | .l2i => match st with
    | .long x :: r => some (L, .int (x.toInt32) :: r, w)
    | _ => none
  | .i2c => match st with
    | .int x :: r => some (L, .int ((x.toUInt32 % 65536).toInt32) :: r, w)
    | _ => none
  | .l2f => match st with
    | .long x :: r => some (L, .float (FP.l2f x) :: r, w)
    | _ => none
  | .i2f => match st with
    | .int x :: r => some (L, .float (FP.i2f x) :: r, w)
    | _ => none
  | .f2i => match st with
    | .float x :: r => some (L, .int (FP.f2i x) :: r, w)
    | _ => none
  | .dup => match st with
    | v :: r => if Nat.beq v.category 1 = true then some (L, v :: v :: r, w) else none
    | _ => none
  | .pop => match st with
    | v :: r => if Nat.beq v.category 1 = true then some (L, r, w) else none
    | _ => none
  | .dup2 => match st with
    | v :: u :: r => if (Nat.beq v.category 1 && Nat.beq u.category 1) = true then some (L, v :: u :: v :: u :: r, w) else none
    | _ => none
  | .getfield n => match st with
    | .ref a :: r => (match fr.find? (fun t => t.1 == n), sh a with
      | some t, .inr q => if (Nat.beq q.1 t.2.1 && Nat.blt t.2.2.1 q.2 && Nat.blt a N) = true then some (L, w a t.2.2.1 :: r, w) else none
      | _, _ => none)
    | _ => none
  | .putfield n => match st with
    | .int x :: .ref a :: r => (match fr.find? (fun t => t.1 == n), sh a with
      | some t, .inr q => if (Nat.beq q.1 t.2.1 && Nat.blt t.2.2.1 q.2 && Nat.blt a N && Nat.beq t.2.2.2 1) = true then some (L, r, up2 w a t.2.2.1 (.int x)) else none
      | _, _ => none)
    | .long x :: .ref a :: r => (match fr.find? (fun t => t.1 == n), sh a with
      | some t, .inr q => if (Nat.beq q.1 t.2.1 && Nat.blt t.2.2.1 q.2 && Nat.blt a N && Nat.beq t.2.2.2 2) = true then some (L, r, up2 w a t.2.2.1 (.long x)) else none
      | _, _ => none)
    | _ => none
  | _ => none
def blk (fr : List (Nat × Nat × Nat × Nat)) (cs : List (Nat × Value)) (nL N : Nat) (sh : Sh) : Nat → Tb → Lc → List Value → Wd → Option (Lc × List Value × Wd)
  | 0, _, L, st, w => some (L, st, w)
  | _ + 1, [], _, _, _ => none
  | k + 1, t :: tl, L, st, w => match bstep fr cs nL N sh t.2 L st w with
    | some x => blk fr cs nL N sh k tl x.1 x.2.1 x.2.2
    | none => none
section BS
variable {p : Program} {l : Launch} {e : Env} {R : Room} {s : State} {m : MethodId} {args : Array Value} {below : List Frame} {meth : Method} {c : Code} {D : va_G} {cA : FieldType → ClassId} {z0 : Nat} {SK : Nat → Nat} {SV : Nat → Int32} {sh : Sh} {A : Nat → Prop} {nL : Nat} {own : String} {cc : ByteArray} {tb : Tb} {Q : State → Prop} {ad : Nat → Nat} {N cells slots : Nat} {w w1 : Wd} {i j pc : Nat} {L L1 : Lc} {st st1 r : List Value}
variable {fr : List (Nat × Nat × Nat × Nat)} {cs : List (Nat × Value)}
set_option maxHeartbeats 4000000 in
theorem bstep_ok (C : bC p s m args meth c D cA z0 SK SV A nL own cc tb) (hfr : frOK own fr) (hcs : csOK own cs) {ins : Instr} (ht : tb[i]? = some (pc, ins)) (hs : bstep fr cs nL N sh ins L st w = some (L1, st1, w1)) (k : bV p l e R s m args below meth c D cA sh A nL tb Q ad N cells slots w1 (i + 1) L1 st1) : bV p l e R s m args below meth c D cA sh A nL tb Q ad N cells slots w i L st := by
  cases ins with
  | iconst n =>
    simp only [bstep] at hs
    cases hs
    exact bv_iconst C ht k
  | bipush n =>
    simp only [bstep] at hs
    cases hs
    exact bv_bipush C ht k
  | sipush n =>
    simp only [bstep] at hs
    cases hs
    exact bv_sipush C ht k
  | lconst n =>
    simp only [bstep] at hs
    cases hs
    exact bv_lconst C ht k
  | ldc n =>
    simp only [bstep] at hs
    split at hs
    · next t h1 =>
        have h2 := hcs t (List.mem_of_find?_eq_some h1)
        have h3 : t.1 = n := by simpa using List.find?_some h1
        obtain ⟨t1, t2⟩ := t
        simp only at h3 h2 hs
        subst h3
        cases t2 <;> simp only [csW] at h2 hs
        · cases hs; exact bv_ldc C ht h2 k
        · cases hs
        · cases hs; exact bv_ldcf C ht h2 k
        all_goals cases hs
    · cases hs
  | ldc2_w n =>
    simp only [bstep] at hs
    split at hs
    · next t h1 =>
        have h2 := hcs t (List.mem_of_find?_eq_some h1)
        have h3 : t.1 = n := by simpa using List.find?_some h1
        obtain ⟨t1, t2⟩ := t
        simp only at h3 h2 hs
        subst h3
        cases t2 <;> simp only [csW] at h2 hs
        · cases hs
        · cases hs; exact bv_ldc2 C ht h2 k
        all_goals cases hs
    · cases hs
  | iload_n n =>
    simp only [bstep] at hs
    split at hs
    · next x hg => cases hs; exact bv_iload_n C ht hg k
    · cases hs
  | iload n =>
    simp only [bstep] at hs
    split at hs
    · next x hg => cases hs; exact bv_iload C ht hg k
    · cases hs
  | istore_n n =>
    simp only [bstep] at hs
    split at hs
    · split at hs
      · next h => cases hs; exact bv_istore_n C ht (Nat.blt_eq.mp h) k
      · cases hs
    · cases hs
  | istore n =>
    simp only [bstep] at hs
    split at hs
    · split at hs
      · next h => cases hs; exact bv_istore C ht (Nat.blt_eq.mp h) k
      · cases hs
    · cases hs
  | lload_n n =>
    simp only [bstep] at hs
    split at hs
    · next x hg => cases hs; exact bv_lload_n C ht hg k
    · cases hs
  | lload n =>
    simp only [bstep] at hs
    split at hs
    · next x hg => cases hs; exact bv_lload C ht hg k
    · cases hs
  | lstore_n n =>
    simp only [bstep] at hs
    split at hs
    · split at hs
      · next h => cases hs; exact bv_lstore_n C ht (Nat.blt_eq.mp h) k
      · cases hs
    · cases hs
  | lstore n =>
    simp only [bstep] at hs
    split at hs
    · split at hs
      · next h => cases hs; exact bv_lstore C ht (Nat.blt_eq.mp h) k
      · cases hs
    · cases hs
  | fload_n n =>
    simp only [bstep] at hs
    split at hs
    · next x hg => cases hs; exact bv_fload_n C ht hg k
    · cases hs
  | fload n =>
    simp only [bstep] at hs
    split at hs
    · next x hg => cases hs; exact bv_fload C ht hg k
    · cases hs
  | fstore_n n =>
    simp only [bstep] at hs
    split at hs
    · split at hs
      · next h => cases hs; exact bv_fstore_n C ht (Nat.blt_eq.mp h) k
      · cases hs
    · cases hs
  | fstore n =>
    simp only [bstep] at hs
    split at hs
    · split at hs
      · next h => cases hs; exact bv_fstore C ht (Nat.blt_eq.mp h) k
      · cases hs
    · cases hs
  | aload_n n =>
    simp only [bstep] at hs
    split at hs
    · next x hg => cases hs; exact bv_aload_n C ht hg k
    · cases hs
  | aload n =>
    simp only [bstep] at hs
    split at hs
    · next x hg => cases hs; exact bv_aload C ht hg k
    · cases hs
  | astore_n n =>
    simp only [bstep] at hs
    split at hs
    · split at hs
      · next h => cases hs; exact bv_astore_n C ht (Nat.blt_eq.mp h) k
      · cases hs
    · cases hs
  | astore n =>
    simp only [bstep] at hs
    split at hs
    · split at hs
      · next h => cases hs; exact bv_astore C ht (Nat.blt_eq.mp h) k
      · cases hs
    · cases hs
  | iinc n q =>
    simp only [bstep] at hs
    split at hs
    · next x hg =>
        split at hs
        · next h => cases hs; exact bv_iinc C ht hg (Nat.blt_eq.mp h) k
        · cases hs
    · cases hs
  | iadd =>
    simp only [bstep] at hs
    split at hs
    · cases hs; exact bv_iadd C ht k
    · cases hs
  | isub =>
    simp only [bstep] at hs
    split at hs
    · cases hs; exact bv_isub C ht k
    · cases hs
  | imul =>
    simp only [bstep] at hs
    split at hs
    · cases hs; exact bv_imul C ht k
    · cases hs
  | iand =>
    simp only [bstep] at hs
    split at hs
    · cases hs; exact bv_iand C ht k
    · cases hs
  | ior =>
    simp only [bstep] at hs
    split at hs
    · cases hs; exact bv_ior C ht k
    · cases hs
  | ixor =>
    simp only [bstep] at hs
    split at hs
    · cases hs; exact bv_ixor C ht k
    · cases hs
  | ishl =>
    simp only [bstep] at hs
    split at hs
    · cases hs; exact bv_ishl C ht k
    · cases hs
  | ishr =>
    simp only [bstep] at hs
    split at hs
    · cases hs; exact bv_ishr C ht k
    · cases hs
  | iushr =>
    simp only [bstep] at hs
    split at hs
    · cases hs; exact bv_iushr C ht k
    · cases hs
  | ladd =>
    simp only [bstep] at hs
    split at hs
    · cases hs; exact bv_ladd C ht k
    · cases hs
  | lsub =>
    simp only [bstep] at hs
    split at hs
    · cases hs; exact bv_lsub C ht k
    · cases hs
  | lmul =>
    simp only [bstep] at hs
    split at hs
    · cases hs; exact bv_lmul C ht k
    · cases hs
  | lcmp =>
    simp only [bstep] at hs
    split at hs
    · cases hs; exact bv_lcmp C ht k
    · cases hs
  | lshl =>
    simp only [bstep] at hs
    split at hs
    · cases hs; exact bv_lshl C ht k
    · cases hs
  | fcmp op =>
    simp only [bstep] at hs
    split at hs
    · cases hs; exact bv_fcmp C ht k
    · cases hs
  | ineg =>
    simp only [bstep] at hs
    split at hs
    · cases hs; exact bv_ineg C ht k
    · cases hs
  | i2l =>
    simp only [bstep] at hs
    split at hs
    · cases hs; exact bv_i2l C ht k
    · cases hs
  | l2i =>
    simp only [bstep] at hs
    split at hs
    · cases hs; exact bv_l2i C ht k
    · cases hs
  | i2c =>
    simp only [bstep] at hs
    split at hs
    · cases hs; exact bv_i2c C ht k
    · cases hs
  | l2f =>
    simp only [bstep] at hs
    split at hs
    · cases hs; exact bv_l2f C ht k
    · cases hs
  | i2f =>
    simp only [bstep] at hs
    split at hs
    · cases hs; exact bv_i2f C ht k
    · cases hs
  | f2i =>
    simp only [bstep] at hs
    split at hs
    · cases hs; exact bv_f2i C ht k
    · cases hs
  | dup =>
    simp only [bstep] at hs
    split at hs
    · split at hs
      · next h => cases hs; exact bv_dup C ht (Nat.beq_eq.mp h) k
      · cases hs
    · cases hs
  | pop =>
    simp only [bstep] at hs
    split at hs
    · split at hs
      · next h => cases hs; exact bv_pop C ht (Nat.beq_eq.mp h) k
      · cases hs
    · cases hs
  | dup2 =>
    simp only [bstep] at hs
    split at hs
    · split at hs
      · next h => cases hs; simp only [Bool.and_eq_true, Nat.beq_eq] at h; exact bv_dup2 C ht h.1 h.2 k
      · cases hs
    · cases hs
  | getfield n =>
    simp only [bstep] at hs
    split at hs
    · split at hs
      · next t q h1 h2 =>
        split at hs
        · next h =>
          cases hs
          simp only [Bool.and_eq_true, Nat.beq_eq, Nat.blt_eq] at h
          obtain ⟨⟨g1, g2⟩, g3⟩ := h
          have h3 : t.1 = n := by simpa using List.find?_some h1
          obtain ⟨Cn, T, nn, f1, f2, f3, -⟩ := hfr t (List.mem_of_find?_eq_some h1)
          obtain ⟨q1, q2⟩ := q
          simp only at g1 g2
          subst g1
          subst h3
          exact bv_get C ht f1 f3 f2 h2 g2 g3 k
        · cases hs
      · cases hs
    · cases hs
  | putfield n =>
    simp only [bstep] at hs
    split at hs
    · split at hs
      · next t q h1 h2 =>
        split at hs
        · next h =>
          cases hs
          simp only [Bool.and_eq_true, Nat.beq_eq, Nat.blt_eq] at h
          obtain ⟨⟨⟨g1, g2⟩, g3⟩, g4⟩ := h
          have h3 : t.1 = n := by simpa using List.find?_some h1
          obtain ⟨Cn, T, nn, f1, f2, f3, f4, f5⟩ := hfr t (List.mem_of_find?_eq_some h1)
          obtain ⟨q1, q2⟩ := q
          simp only at g1 g2
          subst g1
          subst h3
          exact bv_put C ht f1 f3 f2 (f4 g4).1 (f4 g4).2 rfl rfl h2 g2 g3 k
        · cases hs
      · cases hs
    · split at hs
      · next t q h1 h2 =>
        split at hs
        · next h =>
          cases hs
          simp only [Bool.and_eq_true, Nat.beq_eq, Nat.blt_eq] at h
          obtain ⟨⟨⟨g1, g2⟩, g3⟩, g4⟩ := h
          have h3 : t.1 = n := by simpa using List.find?_some h1
          obtain ⟨Cn, T, nn, f1, f2, f3, f4, f5⟩ := hfr t (List.mem_of_find?_eq_some h1)
          obtain ⟨q1, q2⟩ := q
          simp only at g1 g2
          subst g1
          subst h3
          exact bv_put C ht f1 f3 f2 (f5 g4).1 (f5 g4).2 rfl rfl h2 g2 g3 k
        · cases hs
      · cases hs
    · cases hs
  | _ => simp [bstep] at hs
theorem blk_ok (C : bC p s m args meth c D cA z0 SK SV A nL own cc tb) (hfr : frOK own fr) (hcs : csOK own cs) : ∀ (n i : Nat) (L : Lc) (st : List Value) (w : Wd), blk fr cs nL N sh n (tb.drop i) L st w = some (L1, st1, w1) → bV p l e R s m args below meth c D cA sh A nL tb Q ad N cells slots w1 (i + n) L1 st1 → bV p l e R s m args below meth c D cA sh A nL tb Q ad N cells slots w i L st
  | 0, i, L, st, w, h, k => by
    simp only [blk] at h
    cases h
    exact k
  | n + 1, i, L, st, w, h, k => by
    cases hd : tb.drop i with
    | nil => rw [hd] at h; simp [blk] at h
    | cons t tl =>
      have h1 : tb[i]? = some t := by
        have h2 := List.getElem?_drop (xs := tb) (i := i) (j := 0)
        rw [hd] at h2
        simpa using h2.symm
      have h3 : tl = tb.drop (i + 1) := by
        rw [← List.tail_drop, hd]
        rfl
      rw [hd] at h
      simp only [blk] at h
      split at h
      · next x hx =>
        rw [h3] at h
        refine bstep_ok C hfr hcs (pc := t.1) (ins := t.2) h1 hx (blk_ok C hfr hcs n (i + 1) _ _ _ h ?_)
        rw [show i + 1 + n = i + (n + 1) by omega]
        exact k
      · cases h
theorem bv_blk (C : bC p s m args meth c D cA z0 SK SV A nL own cc tb) (hfr : frOK own fr) (hcs : csOK own cs) (n : Nat) (j : Nat) (hij : i + n = j) (h : blk fr cs nL N sh n (tb.drop i) L st w = some (L1, st1, w1)) (k : bV p l e R s m args below meth c D cA sh A nL tb Q ad N cells slots w1 j L1 st1) : bV p l e R s m args below meth c D cA sh A nL tb Q ad N cells slots w i L st :=
  blk_ok C hfr hcs n i L st w h (by rw [hij]; exact k)
end BS
