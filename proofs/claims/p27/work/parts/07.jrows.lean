/-! the instructions that need no heap, and the ends -/
def im (x y : Int32) : Int32 := x - x / y * y
theorem J_iadd {X : JX} {G : JG} {Q : State → Prop} {nL cs ss pc : Nat} {lv : List (Nat × Value)} {st : List Value} {S : HS} {own : String} {cc : ByteArray} {ret : Option FieldType} {fr lo mc ms : Nat} {x y : Int32} (hC : JC X G own cc nL ret fr lo mc ms) (d : decode cc pc = .ok (.iadd, 1))
    (k : J X G Q nL cs ss (pc + 1) lv (.int (x + y) :: st) S) : J X G Q nL cs ss pc lv (.int y :: .int x :: st) S := by
  intro H locs ls hR hS hl
  exact lv_iadd hC.1 hC.2.1 d (k H locs ls hR hS hl)
theorem J_isub {X : JX} {G : JG} {Q : State → Prop} {nL cs ss pc : Nat} {lv : List (Nat × Value)} {st : List Value} {S : HS} {own : String} {cc : ByteArray} {ret : Option FieldType} {fr lo mc ms : Nat} {x y : Int32} (hC : JC X G own cc nL ret fr lo mc ms) (d : decode cc pc = .ok (.isub, 1))
    (k : J X G Q nL cs ss (pc + 1) lv (.int (x - y) :: st) S) : J X G Q nL cs ss pc lv (.int y :: .int x :: st) S := by
  intro H locs ls hR hS hl
  exact lv_isub hC.1 hC.2.1 d (k H locs ls hR hS hl)
theorem J_imul {X : JX} {G : JG} {Q : State → Prop} {nL cs ss pc : Nat} {lv : List (Nat × Value)} {st : List Value} {S : HS} {own : String} {cc : ByteArray} {ret : Option FieldType} {fr lo mc ms : Nat} {x y : Int32} (hC : JC X G own cc nL ret fr lo mc ms) (d : decode cc pc = .ok (.imul, 1))
    (k : J X G Q nL cs ss (pc + 1) lv (.int (x * y) :: st) S) : J X G Q nL cs ss pc lv (.int y :: .int x :: st) S := by
  intro H locs ls hR hS hl
  exact lv_imul hC.1 hC.2.1 d (k H locs ls hR hS hl)
theorem J_iand {X : JX} {G : JG} {Q : State → Prop} {nL cs ss pc : Nat} {lv : List (Nat × Value)} {st : List Value} {S : HS} {own : String} {cc : ByteArray} {ret : Option FieldType} {fr lo mc ms : Nat} {x y : Int32} (hC : JC X G own cc nL ret fr lo mc ms) (d : decode cc pc = .ok (.iand, 1))
    (k : J X G Q nL cs ss (pc + 1) lv (.int (x &&& y) :: st) S) : J X G Q nL cs ss pc lv (.int y :: .int x :: st) S := by
  intro H locs ls hR hS hl
  exact lv_iand hC.1 hC.2.1 d (k H locs ls hR hS hl)
theorem J_ixor {X : JX} {G : JG} {Q : State → Prop} {nL cs ss pc : Nat} {lv : List (Nat × Value)} {st : List Value} {S : HS} {own : String} {cc : ByteArray} {ret : Option FieldType} {fr lo mc ms : Nat} {x y : Int32} (hC : JC X G own cc nL ret fr lo mc ms) (d : decode cc pc = .ok (.ixor, 1))
    (k : J X G Q nL cs ss (pc + 1) lv (.int (x ^^^ y) :: st) S) : J X G Q nL cs ss pc lv (.int y :: .int x :: st) S := by
  intro H locs ls hR hS hl
  exact lv_ixor hC.1 hC.2.1 d (k H locs ls hR hS hl)
theorem J_ineg {X : JX} {G : JG} {Q : State → Prop} {nL cs ss pc : Nat} {lv : List (Nat × Value)} {st : List Value} {S : HS} {own : String} {cc : ByteArray} {ret : Option FieldType} {fr lo mc ms : Nat} {x : Int32} (hC : JC X G own cc nL ret fr lo mc ms) (d : decode cc pc = .ok (.ineg, 1))
    (k : J X G Q nL cs ss (pc + 1) lv (.int (-x) :: st) S) : J X G Q nL cs ss pc lv (.int x :: st) S := by
  intro H locs ls hR hS hl
  exact lv_ineg hC.1 hC.2.1 d (k H locs ls hR hS hl)
theorem J_ishr {X : JX} {G : JG} {Q : State → Prop} {nL cs ss pc : Nat} {lv : List (Nat × Value)} {st : List Value} {S : HS} {own : String} {cc : ByteArray} {ret : Option FieldType} {fr lo mc ms : Nat} {x y : Int32} (hC : JC X G own cc nL ret fr lo mc ms) (d : decode cc pc = .ok (.ishr, 1))
    (k : J X G Q nL cs ss (pc + 1) lv (.int (x >>> (y &&& 31)) :: st) S) : J X G Q nL cs ss pc lv (.int y :: .int x :: st) S := by
  intro H locs ls hR hS hl
  exact lv_ishr hC.1 hC.2.1 d (k H locs ls hR hS hl)
theorem J_i2d {X : JX} {G : JG} {Q : State → Prop} {nL cs ss pc : Nat} {lv : List (Nat × Value)} {st : List Value} {S : HS} {own : String} {cc : ByteArray} {ret : Option FieldType} {fr lo mc ms : Nat} {x : Int32} (hC : JC X G own cc nL ret fr lo mc ms) (d : decode cc pc = .ok (.i2d, 1))
    (k : J X G Q nL cs ss (pc + 1) lv (.double (FP.i2d x) :: st) S) : J X G Q nL cs ss pc lv (.int x :: st) S := by
  intro H locs ls hR hS hl
  exact lv_i2d hC.1 hC.2.1 d (k H locs ls hR hS hl)
theorem J_ladd {X : JX} {G : JG} {Q : State → Prop} {nL cs ss pc : Nat} {lv : List (Nat × Value)} {st : List Value} {S : HS} {own : String} {cc : ByteArray} {ret : Option FieldType} {fr lo mc ms : Nat} {x y : Int64} (hC : JC X G own cc nL ret fr lo mc ms) (d : decode cc pc = .ok (.ladd, 1))
    (k : J X G Q nL cs ss (pc + 1) lv (.long (x + y) :: st) S) : J X G Q nL cs ss pc lv (.long y :: .long x :: st) S := by
  intro H locs ls hR hS hl
  exact lv_ladd hC.1 hC.2.1 d (k H locs ls hR hS hl)
theorem J_lmul {X : JX} {G : JG} {Q : State → Prop} {nL cs ss pc : Nat} {lv : List (Nat × Value)} {st : List Value} {S : HS} {own : String} {cc : ByteArray} {ret : Option FieldType} {fr lo mc ms : Nat} {x y : Int64} (hC : JC X G own cc nL ret fr lo mc ms) (d : decode cc pc = .ok (.lmul, 1))
    (k : J X G Q nL cs ss (pc + 1) lv (.long (x * y) :: st) S) : J X G Q nL cs ss pc lv (.long y :: .long x :: st) S := by
  intro H locs ls hR hS hl
  exact lv_lmul hC.1 hC.2.1 d (k H locs ls hR hS hl)
theorem J_null {X : JX} {G : JG} {Q : State → Prop} {nL cs ss pc : Nat} {lv : List (Nat × Value)} {st : List Value} {S : HS} {own : String} {cc : ByteArray} {ret : Option FieldType} {fr lo mc ms : Nat}  (hC : JC X G own cc nL ret fr lo mc ms) (d : decode cc pc = .ok (.aconst_null, 1))
    (k : J X G Q nL cs ss (pc + 1) lv (.null :: st) S) : J X G Q nL cs ss pc lv (st) S := by
  intro H locs ls hR hS hl
  exact lv_null hC.1 hC.2.1 d (k H locs ls hR hS hl)
theorem J_idiv {X : JX} {G : JG} {Q : State → Prop} {nL cs ss pc : Nat} {lv : List (Nat × Value)} {st : List Value} {S : HS} {own : String} {cc : ByteArray} {ret : Option FieldType} {fr lo mc ms : Nat} {x y : Int32} (hC : JC X G own cc nL ret fr lo mc ms) (d : decode cc pc = .ok (.idiv, 1)) (h0 : ¬ y = 0)
    (k : J X G Q nL cs ss (pc + 1) lv (.int (x / y) :: st) S) : J X G Q nL cs ss pc lv (.int y :: .int x :: st) S := by
  intro H locs ls hR hS hl
  exact lv_idiv hC.1 hC.2.1 d h0 (k H locs ls hR hS hl)
theorem J_irem {X : JX} {G : JG} {Q : State → Prop} {nL cs ss pc : Nat} {lv : List (Nat × Value)} {st : List Value} {S : HS} {own : String} {cc : ByteArray} {ret : Option FieldType} {fr lo mc ms : Nat} {x y : Int32} (hC : JC X G own cc nL ret fr lo mc ms) (d : decode cc pc = .ok (.irem, 1)) (h0 : ¬ y = 0)
    (k : J X G Q nL cs ss (pc + 1) lv (.int (im x y) :: st) S) : J X G Q nL cs ss pc lv (.int y :: .int x :: st) S := by
  intro H locs ls hR hS hl
  exact lv_irem hC.1 hC.2.1 d h0 (k H locs ls hR hS hl)
theorem J_ddiv {X : JX} {G : JG} {Q : State → Prop} {nL cs ss pc : Nat} {lv : List (Nat × Value)} {st : List Value} {S : HS} {own : String} {cc : ByteArray} {ret : Option FieldType} {fr lo mc ms : Nat} {x y : UInt64} (hC : JC X G own cc nL ret fr lo mc ms) (d : decode cc pc = .ok (.ddiv, 1)) (h0 : vf_n64 (FP.ddiv x y))
    (k : J X G Q nL cs ss (pc + 1) lv (.double (FP.ddiv x y) :: st) S) : J X G Q nL cs ss pc lv (.double y :: .double x :: st) S := by
  intro H locs ls hR hS hl
  exact lv_ddiv hC.1 hC.2.1 d h0 (k H locs ls hR hS hl)
theorem J_dcmp {X : JX} {G : JG} {Q : State → Prop} {nL cs ss pc : Nat} {lv : List (Nat × Value)} {st : List Value} {S : HS} {own : String} {cc : ByteArray} {ret : Option FieldType} {fr lo mc ms : Nat} {x y : UInt64} {op : CmpOp} (hC : JC X G own cc nL ret fr lo mc ms) (d : decode cc pc = .ok (.dcmp op, 1))
    (k : J X G Q nL cs ss (pc + 1) lv (.int (Op.cmpValue (FP.dcmp x y) op) :: st) S) : J X G Q nL cs ss pc lv (.double y :: .double x :: st) S := by
  intro H locs ls hR hS hl
  exact lv_dcmp hC.1 hC.2.1 d (k H locs ls hR hS hl)
theorem J_i2l {X : JX} {G : JG} {Q : State → Prop} {nL cs ss pc : Nat} {lv : List (Nat × Value)} {st : List Value} {S : HS} {own : String} {cc : ByteArray} {ret : Option FieldType} {fr lo mc ms : Nat} {x : Int32} (hC : JC X G own cc nL ret fr lo mc ms) (d : decode cc pc = .ok (.i2l, 1))
    (k : J X G Q nL cs ss (pc + 1) lv (.long x.toInt64 :: st) S) : J X G Q nL cs ss pc lv (.int x :: st) S := by
  intro H locs ls hR hS hl
  exact lv_i2l hC.1 hC.2.1 d rfl (k H locs ls hR hS hl)
theorem J_iconst {X : JX} {G : JG} {Q : State → Prop} {nL cs ss pc : Nat} {lv : List (Nat × Value)} {st : List Value} {S : HS} {own : String} {cc : ByteArray} {ret : Option FieldType} {fr lo mc ms : Nat} {n : Int} {v : Int32} (hC : JC X G own cc nL ret fr lo mc ms) (d : decode cc pc = .ok (.iconst n, 1)) (hv : Int32.ofInt n = v)
    (k : J X G Q nL cs ss (pc + 1) lv (.int v :: st) S) : J X G Q nL cs ss pc lv st S := by
  intro H locs ls hR hS hl
  exact lv_iconst hC.1 hC.2.1 d hv (k H locs ls hR hS hl)
theorem J_bipush {X : JX} {G : JG} {Q : State → Prop} {nL cs ss pc : Nat} {lv : List (Nat × Value)} {st : List Value} {S : HS} {own : String} {cc : ByteArray} {ret : Option FieldType} {fr lo mc ms : Nat} {n : Int} {v : Int32} (hC : JC X G own cc nL ret fr lo mc ms) (d : decode cc pc = .ok (.bipush n, 2)) (hv : (Int8.ofInt n).toInt32 = v)
    (k : J X G Q nL cs ss (pc + 2) lv (.int v :: st) S) : J X G Q nL cs ss pc lv st S := by
  intro H locs ls hR hS hl
  exact lv_bipush hC.1 hC.2.1 d hv (k H locs ls hR hS hl)
theorem J_sipush {X : JX} {G : JG} {Q : State → Prop} {nL cs ss pc : Nat} {lv : List (Nat × Value)} {st : List Value} {S : HS} {own : String} {cc : ByteArray} {ret : Option FieldType} {fr lo mc ms : Nat} {n : Int} {v : Int32} (hC : JC X G own cc nL ret fr lo mc ms) (d : decode cc pc = .ok (.sipush n, 3)) (hv : (Int16.ofInt n).toInt32 = v)
    (k : J X G Q nL cs ss (pc + 3) lv (.int v :: st) S) : J X G Q nL cs ss pc lv st S := by
  intro H locs ls hR hS hl
  exact lv_sipush hC.1 hC.2.1 d hv (k H locs ls hR hS hl)
theorem J_lconst {X : JX} {G : JG} {Q : State → Prop} {nL cs ss pc : Nat} {lv : List (Nat × Value)} {st : List Value} {S : HS} {own : String} {cc : ByteArray} {ret : Option FieldType} {fr lo mc ms : Nat} {n : Fin 2} {v : Int64} (hC : JC X G own cc nL ret fr lo mc ms) (d : decode cc pc = .ok (.lconst n, 1)) (hv : Int64.ofNat n = v)
    (k : J X G Q nL cs ss (pc + 1) lv (.long v :: st) S) : J X G Q nL cs ss pc lv st S := by
  intro H locs ls hR hS hl
  exact lv_lconst hC.1 hC.2.1 d hv (k H locs ls hR hS hl)
theorem J_ldc {X : JX} {G : JG} {Q : State → Prop} {nL cs ss pc : Nat} {lv : List (Nat × Value)} {st : List Value} {S : HS} {own : String} {cc : ByteArray} {ret : Option FieldType} {fr lo mc ms : Nat} {i : Nat} {v : Int32} (hC : JC X G own cc nL ret fr lo mc ms) (d : decode cc pc = .ok (.ldc i, 2)) (hw : Cond.constant own i v ∈ wG)
    (k : J X G Q nL cs ss (pc + 2) lv (.int v :: st) S) : J X G Q nL cs ss pc lv st S := by
  intro H locs ls hR hS hl
  exact lv_ldc hC.1 hC.2.1 hC.2.2.2.1 (hC.2.2.2.2.1 _ hw) d (k H locs ls hR hS hl)
theorem J_ldc2 {X : JX} {G : JG} {Q : State → Prop} {nL cs ss pc : Nat} {lv : List (Nat × Value)} {st : List Value} {S : HS} {own : String} {cc : ByteArray} {ret : Option FieldType} {fr lo mc ms : Nat} {i : Nat} {v : Int64} (hC : JC X G own cc nL ret fr lo mc ms) (d : decode cc pc = .ok (.ldc2_w i, 3)) (hw : Cond.constantLong own i v ∈ wG)
    (k : J X G Q nL cs ss (pc + 3) lv (.long v :: st) S) : J X G Q nL cs ss pc lv st S := by
  intro H locs ls hR hS hl
  exact lv_ldc2 hC.1 hC.2.1 hC.2.2.2.1 (hC.2.2.2.2.1 _ hw) d (k H locs ls hR hS hl)
theorem J_iload {X : JX} {G : JG} {Q : State → Prop} {nL cs ss pc : Nat} {lv : List (Nat × Value)} {st : List Value} {S : HS} {own : String} {cc : ByteArray} {ret : Option FieldType} {fr lo mc ms : Nat} {x : Int32} {i : Nat} (j : Nat) (hC : JC X G own cc nL ret fr lo mc ms) (d : decode cc pc = .ok (.iload i, 2)) (h : lv[j]? = some (i, .int x))
    (k : J X G Q nL cs ss (pc + 2) lv (.int x :: st) S) : J X G Q nL cs ss pc lv st S := by
  intro H locs ls hR hS hl
  exact lv_iload hC.1 hC.2.1 d (lv_at hl j h) (k H locs ls hR hS hl)
theorem J_iload_n {X : JX} {G : JG} {Q : State → Prop} {nL cs ss pc : Nat} {lv : List (Nat × Value)} {st : List Value} {S : HS} {own : String} {cc : ByteArray} {ret : Option FieldType} {fr lo mc ms : Nat} {x : Int32} {i : Nat} {f : Fin 4} (j : Nat) (hC : JC X G own cc nL ret fr lo mc ms) (d : decode cc pc = .ok (.iload_n f, 1)) (hi : (f : Nat) = i) (h : lv[j]? = some (i, .int x))
    (k : J X G Q nL cs ss (pc + 1) lv (.int x :: st) S) : J X G Q nL cs ss pc lv st S := by
  intro H locs ls hR hS hl
  exact lv_iload_n hC.1 hC.2.1 d hi (lv_at hl j h) (k H locs ls hR hS hl)
theorem J_lload {X : JX} {G : JG} {Q : State → Prop} {nL cs ss pc : Nat} {lv : List (Nat × Value)} {st : List Value} {S : HS} {own : String} {cc : ByteArray} {ret : Option FieldType} {fr lo mc ms : Nat} {x : Int64} {i : Nat} (j : Nat) (hC : JC X G own cc nL ret fr lo mc ms) (d : decode cc pc = .ok (.lload i, 2)) (h : lv[j]? = some (i, .long x))
    (k : J X G Q nL cs ss (pc + 2) lv (.long x :: st) S) : J X G Q nL cs ss pc lv st S := by
  intro H locs ls hR hS hl
  exact lv_lload hC.1 hC.2.1 d (lv_at hl j h) (k H locs ls hR hS hl)
theorem J_lload_n {X : JX} {G : JG} {Q : State → Prop} {nL cs ss pc : Nat} {lv : List (Nat × Value)} {st : List Value} {S : HS} {own : String} {cc : ByteArray} {ret : Option FieldType} {fr lo mc ms : Nat} {x : Int64} {i : Nat} {f : Fin 4} (j : Nat) (hC : JC X G own cc nL ret fr lo mc ms) (d : decode cc pc = .ok (.lload_n f, 1)) (hi : (f : Nat) = i) (h : lv[j]? = some (i, .long x))
    (k : J X G Q nL cs ss (pc + 1) lv (.long x :: st) S) : J X G Q nL cs ss pc lv st S := by
  intro H locs ls hR hS hl
  exact lv_lload_n hC.1 hC.2.1 d hi (lv_at hl j h) (k H locs ls hR hS hl)
theorem J_aload {X : JX} {G : JG} {Q : State → Prop} {nL cs ss pc : Nat} {lv : List (Nat × Value)} {st : List Value} {S : HS} {own : String} {cc : ByteArray} {ret : Option FieldType} {fr lo mc ms : Nat} {x : Nat} {i : Nat} (j : Nat) (hC : JC X G own cc nL ret fr lo mc ms) (d : decode cc pc = .ok (.aload i, 2)) (h : lv[j]? = some (i, .ref x))
    (k : J X G Q nL cs ss (pc + 2) lv (.ref x :: st) S) : J X G Q nL cs ss pc lv st S := by
  intro H locs ls hR hS hl
  exact lv_aload hC.1 hC.2.1 d (lv_at hl j h) (k H locs ls hR hS hl)
theorem J_aload_n {X : JX} {G : JG} {Q : State → Prop} {nL cs ss pc : Nat} {lv : List (Nat × Value)} {st : List Value} {S : HS} {own : String} {cc : ByteArray} {ret : Option FieldType} {fr lo mc ms : Nat} {x : Nat} {i : Nat} {f : Fin 4} (j : Nat) (hC : JC X G own cc nL ret fr lo mc ms) (d : decode cc pc = .ok (.aload_n f, 1)) (hi : (f : Nat) = i) (h : lv[j]? = some (i, .ref x))
    (k : J X G Q nL cs ss (pc + 1) lv (.ref x :: st) S) : J X G Q nL cs ss pc lv st S := by
  intro H locs ls hR hS hl
  exact lv_aload_n hC.1 hC.2.1 d hi (lv_at hl j h) (k H locs ls hR hS hl)
theorem J_dload {X : JX} {G : JG} {Q : State → Prop} {nL cs ss pc : Nat} {lv : List (Nat × Value)} {st : List Value} {S : HS} {own : String} {cc : ByteArray} {ret : Option FieldType} {fr lo mc ms : Nat} {x : UInt64} {i : Nat} (j : Nat) (hC : JC X G own cc nL ret fr lo mc ms) (d : decode cc pc = .ok (.dload i, 2)) (h : lv[j]? = some (i, .double x))
    (k : J X G Q nL cs ss (pc + 2) lv (.double x :: st) S) : J X G Q nL cs ss pc lv st S := by
  intro H locs ls hR hS hl
  exact lv_dload hC.1 hC.2.1 d (lv_at hl j h) (k H locs ls hR hS hl)
theorem J_dload_n {X : JX} {G : JG} {Q : State → Prop} {nL cs ss pc : Nat} {lv : List (Nat × Value)} {st : List Value} {S : HS} {own : String} {cc : ByteArray} {ret : Option FieldType} {fr lo mc ms : Nat} {x : UInt64} {i : Nat} {f : Fin 4} (j : Nat) (hC : JC X G own cc nL ret fr lo mc ms) (d : decode cc pc = .ok (.dload_n f, 1)) (hi : (f : Nat) = i) (h : lv[j]? = some (i, .double x))
    (k : J X G Q nL cs ss (pc + 1) lv (.double x :: st) S) : J X G Q nL cs ss pc lv st S := by
  intro H locs ls hR hS hl
  exact lv_dload_n hC.1 hC.2.1 d hi (lv_at hl j h) (k H locs ls hR hS hl)
theorem J_istore {X : JX} {G : JG} {Q : State → Prop} {nL cs ss pc : Nat} {lv : List (Nat × Value)} {st : List Value} {S : HS} {own : String} {cc : ByteArray} {ret : Option FieldType} {fr lo mc ms : Nat} {x : Int32} {i : Nat} {lv' : List (Nat × Value)} (hC : JC X G own cc nL ret fr lo mc ms) (d : decode cc pc = .ok (.istore i, 2)) (hn : i < nL) (h : (i, Value.int x) :: lv.filter (fun q => !(q.1 == i) && !(q.1 + 1 == i && q.2.category == 2)) = lv')
    (k : J X G Q nL cs ss (pc + 2) lv' st S) : J X G Q nL cs ss pc lv (.int x :: st) S := by
  intro H locs ls hR hS hl
  exact lv_istore hC.1 hC.2.1 d hl hn h (fun ls' hl' => k H locs ls' hR hS hl')
theorem J_istore_n {X : JX} {G : JG} {Q : State → Prop} {nL cs ss pc : Nat} {lv : List (Nat × Value)} {st : List Value} {S : HS} {own : String} {cc : ByteArray} {ret : Option FieldType} {fr lo mc ms : Nat} {x : Int32} {i : Nat} {f : Fin 4} {lv' : List (Nat × Value)} (hC : JC X G own cc nL ret fr lo mc ms) (d : decode cc pc = .ok (.istore_n f, 1)) (hi : (f : Nat) = i) (hn : i < nL) (h : (i, Value.int x) :: lv.filter (fun q => !(q.1 == i) && !(q.1 + 1 == i && q.2.category == 2)) = lv')
    (k : J X G Q nL cs ss (pc + 1) lv' st S) : J X G Q nL cs ss pc lv (.int x :: st) S := by
  intro H locs ls hR hS hl
  exact lv_istore_n hC.1 hC.2.1 d hi hl hn h (fun ls' hl' => k H locs ls' hR hS hl')
theorem J_astore {X : JX} {G : JG} {Q : State → Prop} {nL cs ss pc : Nat} {lv : List (Nat × Value)} {st : List Value} {S : HS} {own : String} {cc : ByteArray} {ret : Option FieldType} {fr lo mc ms : Nat} {x : Nat} {i : Nat} {lv' : List (Nat × Value)} (hC : JC X G own cc nL ret fr lo mc ms) (d : decode cc pc = .ok (.astore i, 2)) (hn : i < nL) (h : (i, Value.ref x) :: lv.filter (fun q => !(q.1 == i) && !(q.1 + 1 == i && q.2.category == 2)) = lv')
    (k : J X G Q nL cs ss (pc + 2) lv' st S) : J X G Q nL cs ss pc lv (.ref x :: st) S := by
  intro H locs ls hR hS hl
  exact lv_astore hC.1 hC.2.1 d hl hn h (fun ls' hl' => k H locs ls' hR hS hl')
theorem J_astore_n {X : JX} {G : JG} {Q : State → Prop} {nL cs ss pc : Nat} {lv : List (Nat × Value)} {st : List Value} {S : HS} {own : String} {cc : ByteArray} {ret : Option FieldType} {fr lo mc ms : Nat} {x : Nat} {i : Nat} {f : Fin 4} {lv' : List (Nat × Value)} (hC : JC X G own cc nL ret fr lo mc ms) (d : decode cc pc = .ok (.astore_n f, 1)) (hi : (f : Nat) = i) (hn : i < nL) (h : (i, Value.ref x) :: lv.filter (fun q => !(q.1 == i) && !(q.1 + 1 == i && q.2.category == 2)) = lv')
    (k : J X G Q nL cs ss (pc + 1) lv' st S) : J X G Q nL cs ss pc lv (.ref x :: st) S := by
  intro H locs ls hR hS hl
  exact lv_astore_n hC.1 hC.2.1 d hi hl hn h (fun ls' hl' => k H locs ls' hR hS hl')
theorem J_lstore {X : JX} {G : JG} {Q : State → Prop} {nL cs ss pc : Nat} {lv : List (Nat × Value)} {st : List Value} {S : HS} {own : String} {cc : ByteArray} {ret : Option FieldType} {fr lo mc ms : Nat} {x : Int64} {i : Nat} {lv' : List (Nat × Value)} (hC : JC X G own cc nL ret fr lo mc ms) (d : decode cc pc = .ok (.lstore i, 2)) (hn : i + 1 < nL) (h : (i, Value.long x) :: lv.filter (fun q => !(q.1 == i) && (!(q.1 == i + 1) && !(q.1 + 1 == i && q.2.category == 2))) = lv')
    (k : J X G Q nL cs ss (pc + 2) lv' st S) : J X G Q nL cs ss pc lv (.long x :: st) S := by
  intro H locs ls hR hS hl
  exact lv_lstore hC.1 hC.2.1 d hl hn h (fun ls' hl' => k H locs ls' hR hS hl')
theorem J_lstore_n {X : JX} {G : JG} {Q : State → Prop} {nL cs ss pc : Nat} {lv : List (Nat × Value)} {st : List Value} {S : HS} {own : String} {cc : ByteArray} {ret : Option FieldType} {fr lo mc ms : Nat} {x : Int64} {i : Nat} {f : Fin 4} {lv' : List (Nat × Value)} (hC : JC X G own cc nL ret fr lo mc ms) (d : decode cc pc = .ok (.lstore_n f, 1)) (hi : (f : Nat) = i) (hn : i + 1 < nL) (h : (i, Value.long x) :: lv.filter (fun q => !(q.1 == i) && (!(q.1 == i + 1) && !(q.1 + 1 == i && q.2.category == 2))) = lv')
    (k : J X G Q nL cs ss (pc + 1) lv' st S) : J X G Q nL cs ss pc lv (.long x :: st) S := by
  intro H locs ls hR hS hl
  exact lv_lstore_n hC.1 hC.2.1 d hi hl hn h (fun ls' hl' => k H locs ls' hR hS hl')
theorem J_dstore {X : JX} {G : JG} {Q : State → Prop} {nL cs ss pc : Nat} {lv : List (Nat × Value)} {st : List Value} {S : HS} {own : String} {cc : ByteArray} {ret : Option FieldType} {fr lo mc ms : Nat} {x : UInt64} {i : Nat} {lv' : List (Nat × Value)} (hC : JC X G own cc nL ret fr lo mc ms) (d : decode cc pc = .ok (.dstore i, 2)) (hn : i + 1 < nL) (h : (i, Value.double x) :: lv.filter (fun q => !(q.1 == i) && (!(q.1 == i + 1) && !(q.1 + 1 == i && q.2.category == 2))) = lv')
    (k : J X G Q nL cs ss (pc + 2) lv' st S) : J X G Q nL cs ss pc lv (.double x :: st) S := by
  intro H locs ls hR hS hl
  exact lv_dstore hC.1 hC.2.1 d hl hn h (fun ls' hl' => k H locs ls' hR hS hl')
theorem J_dstore_n {X : JX} {G : JG} {Q : State → Prop} {nL cs ss pc : Nat} {lv : List (Nat × Value)} {st : List Value} {S : HS} {own : String} {cc : ByteArray} {ret : Option FieldType} {fr lo mc ms : Nat} {x : UInt64} {i : Nat} {f : Fin 4} {lv' : List (Nat × Value)} (hC : JC X G own cc nL ret fr lo mc ms) (d : decode cc pc = .ok (.dstore_n f, 1)) (hi : (f : Nat) = i) (hn : i + 1 < nL) (h : (i, Value.double x) :: lv.filter (fun q => !(q.1 == i) && (!(q.1 == i + 1) && !(q.1 + 1 == i && q.2.category == 2))) = lv')
    (k : J X G Q nL cs ss (pc + 1) lv' st S) : J X G Q nL cs ss pc lv (.double x :: st) S := by
  intro H locs ls hR hS hl
  exact lv_dstore_n hC.1 hC.2.1 d hi hl hn h (fun ls' hl' => k H locs ls' hR hS hl')
theorem J_iinc {X : JX} {G : JG} {Q : State → Prop} {nL cs ss pc : Nat} {lv : List (Nat × Value)} {st : List Value} {S : HS} {own : String} {cc : ByteArray} {ret : Option FieldType} {fr lo mc ms : Nat} {i : Nat} {n : Int} {x v : Int32} {lv' : List (Nat × Value)} (j : Nat) (hC : JC X G own cc nL ret fr lo mc ms) (d : decode cc pc = .ok (.iinc i n, 3)) (hk : lv[j]? = some (i, .int x)) (hv : x + Int32.ofInt n = v) (hn : i < nL) (h : (i, Value.int v) :: lv.filter (fun q => !(q.1 == i) && !(q.1 + 1 == i && q.2.category == 2)) = lv')
    (k : J X G Q nL cs ss (pc + 3) lv' st S) : J X G Q nL cs ss pc lv st S := by
  intro H locs ls hR hS hl
  exact lv_iinc hC.1 hC.2.1 d hl hk hv hn h (fun ls' hl' => k H locs ls' hR hS hl')
theorem J_if_eq {X : JX} {G : JG} {Q : State → Prop} {nL cs ss pc : Nat} {lv : List (Nat × Value)} {st : List Value} {S : HS} {own : String} {cc : ByteArray} {ret : Option FieldType} {fr lo mc ms : Nat} {x : Int32} {off : Int} (tgt : Nat) (hC : JC X G own cc nL ret fr lo mc ms) (d : decode cc pc = .ok (.ifCond .eq off, 3)) (ht : (pc : Int) + off = (tgt : Int))
    (kt : x = 0 → J X G Q nL cs ss tgt lv st S) (kf : ¬ (x = 0) → J X G Q nL cs ss (pc + 3) lv st S) : J X G Q nL cs ss pc lv (.int x :: st) S := by
  intro H locs ls hR hS hl
  exact lv_if_eq hC.1 hC.2.1 d ht (fun z => kt z H locs ls hR hS hl) (fun z => kf z H locs ls hR hS hl)
theorem J_if_ne {X : JX} {G : JG} {Q : State → Prop} {nL cs ss pc : Nat} {lv : List (Nat × Value)} {st : List Value} {S : HS} {own : String} {cc : ByteArray} {ret : Option FieldType} {fr lo mc ms : Nat} {x : Int32} {off : Int} (tgt : Nat) (hC : JC X G own cc nL ret fr lo mc ms) (d : decode cc pc = .ok (.ifCond .ne off, 3)) (ht : (pc : Int) + off = (tgt : Int))
    (kt : ¬ x = 0 → J X G Q nL cs ss tgt lv st S) (kf : x = 0 → J X G Q nL cs ss (pc + 3) lv st S) : J X G Q nL cs ss pc lv (.int x :: st) S := by
  intro H locs ls hR hS hl
  exact lv_if_ne hC.1 hC.2.1 d ht (fun z => kt z H locs ls hR hS hl) (fun z => kf z H locs ls hR hS hl)
theorem J_if_lt {X : JX} {G : JG} {Q : State → Prop} {nL cs ss pc : Nat} {lv : List (Nat × Value)} {st : List Value} {S : HS} {own : String} {cc : ByteArray} {ret : Option FieldType} {fr lo mc ms : Nat} {x : Int32} {off : Int} (tgt : Nat) (hC : JC X G own cc nL ret fr lo mc ms) (d : decode cc pc = .ok (.ifCond .lt off, 3)) (ht : (pc : Int) + off = (tgt : Int))
    (kt : x < 0 → J X G Q nL cs ss tgt lv st S) (kf : ¬ (x < 0) → J X G Q nL cs ss (pc + 3) lv st S) : J X G Q nL cs ss pc lv (.int x :: st) S := by
  intro H locs ls hR hS hl
  exact lv_if_lt hC.1 hC.2.1 d ht (fun z => kt z H locs ls hR hS hl) (fun z => kf z H locs ls hR hS hl)
theorem J_if_ge {X : JX} {G : JG} {Q : State → Prop} {nL cs ss pc : Nat} {lv : List (Nat × Value)} {st : List Value} {S : HS} {own : String} {cc : ByteArray} {ret : Option FieldType} {fr lo mc ms : Nat} {x : Int32} {off : Int} (tgt : Nat) (hC : JC X G own cc nL ret fr lo mc ms) (d : decode cc pc = .ok (.ifCond .ge off, 3)) (ht : (pc : Int) + off = (tgt : Int))
    (kt : 0 ≤ x → J X G Q nL cs ss tgt lv st S) (kf : ¬ (0 ≤ x) → J X G Q nL cs ss (pc + 3) lv st S) : J X G Q nL cs ss pc lv (.int x :: st) S := by
  intro H locs ls hR hS hl
  exact lv_if_ge hC.1 hC.2.1 d ht (fun z => kt z H locs ls hR hS hl) (fun z => kf z H locs ls hR hS hl)
theorem J_if_gt {X : JX} {G : JG} {Q : State → Prop} {nL cs ss pc : Nat} {lv : List (Nat × Value)} {st : List Value} {S : HS} {own : String} {cc : ByteArray} {ret : Option FieldType} {fr lo mc ms : Nat} {x : Int32} {off : Int} (tgt : Nat) (hC : JC X G own cc nL ret fr lo mc ms) (d : decode cc pc = .ok (.ifCond .gt off, 3)) (ht : (pc : Int) + off = (tgt : Int))
    (kt : 0 < x → J X G Q nL cs ss tgt lv st S) (kf : ¬ (0 < x) → J X G Q nL cs ss (pc + 3) lv st S) : J X G Q nL cs ss pc lv (.int x :: st) S := by
  intro H locs ls hR hS hl
  exact lv_if_gt hC.1 hC.2.1 d ht (fun z => kt z H locs ls hR hS hl) (fun z => kf z H locs ls hR hS hl)
theorem J_if_le {X : JX} {G : JG} {Q : State → Prop} {nL cs ss pc : Nat} {lv : List (Nat × Value)} {st : List Value} {S : HS} {own : String} {cc : ByteArray} {ret : Option FieldType} {fr lo mc ms : Nat} {x : Int32} {off : Int} (tgt : Nat) (hC : JC X G own cc nL ret fr lo mc ms) (d : decode cc pc = .ok (.ifCond .le off, 3)) (ht : (pc : Int) + off = (tgt : Int))
    (kt : x ≤ 0 → J X G Q nL cs ss tgt lv st S) (kf : ¬ (x ≤ 0) → J X G Q nL cs ss (pc + 3) lv st S) : J X G Q nL cs ss pc lv (.int x :: st) S := by
  intro H locs ls hR hS hl
  exact lv_if_le hC.1 hC.2.1 d ht (fun z => kt z H locs ls hR hS hl) (fun z => kf z H locs ls hR hS hl)
theorem J_icmp_eq {X : JX} {G : JG} {Q : State → Prop} {nL cs ss pc : Nat} {lv : List (Nat × Value)} {st : List Value} {S : HS} {own : String} {cc : ByteArray} {ret : Option FieldType} {fr lo mc ms : Nat} {x y : Int32} {off : Int} (tgt : Nat) (hC : JC X G own cc nL ret fr lo mc ms) (d : decode cc pc = .ok (.if_icmp .eq off, 3)) (ht : (pc : Int) + off = (tgt : Int))
    (kt : x = y → J X G Q nL cs ss tgt lv st S) (kf : ¬ (x = y) → J X G Q nL cs ss (pc + 3) lv st S) : J X G Q nL cs ss pc lv (.int y :: .int x :: st) S := by
  intro H locs ls hR hS hl
  exact lv_icmp_eq hC.1 hC.2.1 d ht (fun z => kt z H locs ls hR hS hl) (fun z => kf z H locs ls hR hS hl)
theorem J_icmp_ne {X : JX} {G : JG} {Q : State → Prop} {nL cs ss pc : Nat} {lv : List (Nat × Value)} {st : List Value} {S : HS} {own : String} {cc : ByteArray} {ret : Option FieldType} {fr lo mc ms : Nat} {x y : Int32} {off : Int} (tgt : Nat) (hC : JC X G own cc nL ret fr lo mc ms) (d : decode cc pc = .ok (.if_icmp .ne off, 3)) (ht : (pc : Int) + off = (tgt : Int))
    (kt : ¬ x = y → J X G Q nL cs ss tgt lv st S) (kf : x = y → J X G Q nL cs ss (pc + 3) lv st S) : J X G Q nL cs ss pc lv (.int y :: .int x :: st) S := by
  intro H locs ls hR hS hl
  exact lv_icmp_ne hC.1 hC.2.1 d ht (fun z => kt z H locs ls hR hS hl) (fun z => kf z H locs ls hR hS hl)
theorem J_icmp_lt {X : JX} {G : JG} {Q : State → Prop} {nL cs ss pc : Nat} {lv : List (Nat × Value)} {st : List Value} {S : HS} {own : String} {cc : ByteArray} {ret : Option FieldType} {fr lo mc ms : Nat} {x y : Int32} {off : Int} (tgt : Nat) (hC : JC X G own cc nL ret fr lo mc ms) (d : decode cc pc = .ok (.if_icmp .lt off, 3)) (ht : (pc : Int) + off = (tgt : Int))
    (kt : x < y → J X G Q nL cs ss tgt lv st S) (kf : ¬ (x < y) → J X G Q nL cs ss (pc + 3) lv st S) : J X G Q nL cs ss pc lv (.int y :: .int x :: st) S := by
  intro H locs ls hR hS hl
  exact lv_icmp_lt hC.1 hC.2.1 d ht (fun z => kt z H locs ls hR hS hl) (fun z => kf z H locs ls hR hS hl)
theorem J_icmp_ge {X : JX} {G : JG} {Q : State → Prop} {nL cs ss pc : Nat} {lv : List (Nat × Value)} {st : List Value} {S : HS} {own : String} {cc : ByteArray} {ret : Option FieldType} {fr lo mc ms : Nat} {x y : Int32} {off : Int} (tgt : Nat) (hC : JC X G own cc nL ret fr lo mc ms) (d : decode cc pc = .ok (.if_icmp .ge off, 3)) (ht : (pc : Int) + off = (tgt : Int))
    (kt : y ≤ x → J X G Q nL cs ss tgt lv st S) (kf : ¬ (y ≤ x) → J X G Q nL cs ss (pc + 3) lv st S) : J X G Q nL cs ss pc lv (.int y :: .int x :: st) S := by
  intro H locs ls hR hS hl
  exact lv_icmp_ge hC.1 hC.2.1 d ht (fun z => kt z H locs ls hR hS hl) (fun z => kf z H locs ls hR hS hl)
theorem J_icmp_gt {X : JX} {G : JG} {Q : State → Prop} {nL cs ss pc : Nat} {lv : List (Nat × Value)} {st : List Value} {S : HS} {own : String} {cc : ByteArray} {ret : Option FieldType} {fr lo mc ms : Nat} {x y : Int32} {off : Int} (tgt : Nat) (hC : JC X G own cc nL ret fr lo mc ms) (d : decode cc pc = .ok (.if_icmp .gt off, 3)) (ht : (pc : Int) + off = (tgt : Int))
    (kt : y < x → J X G Q nL cs ss tgt lv st S) (kf : ¬ (y < x) → J X G Q nL cs ss (pc + 3) lv st S) : J X G Q nL cs ss pc lv (.int y :: .int x :: st) S := by
  intro H locs ls hR hS hl
  exact lv_icmp_gt hC.1 hC.2.1 d ht (fun z => kt z H locs ls hR hS hl) (fun z => kf z H locs ls hR hS hl)
theorem J_icmp_le {X : JX} {G : JG} {Q : State → Prop} {nL cs ss pc : Nat} {lv : List (Nat × Value)} {st : List Value} {S : HS} {own : String} {cc : ByteArray} {ret : Option FieldType} {fr lo mc ms : Nat} {x y : Int32} {off : Int} (tgt : Nat) (hC : JC X G own cc nL ret fr lo mc ms) (d : decode cc pc = .ok (.if_icmp .le off, 3)) (ht : (pc : Int) + off = (tgt : Int))
    (kt : x ≤ y → J X G Q nL cs ss tgt lv st S) (kf : ¬ (x ≤ y) → J X G Q nL cs ss (pc + 3) lv st S) : J X G Q nL cs ss pc lv (.int y :: .int x :: st) S := by
  intro H locs ls hR hS hl
  exact lv_icmp_le hC.1 hC.2.1 d ht (fun z => kt z H locs ls hR hS hl) (fun z => kf z H locs ls hR hS hl)
theorem J_goto {X : JX} {G : JG} {Q : State → Prop} {nL cs ss pc : Nat} {lv : List (Nat × Value)} {st : List Value} {S : HS} {own : String} {cc : ByteArray} {ret : Option FieldType} {fr lo mc ms : Nat} {off : Int} (tgt : Nat) (hC : JC X G own cc nL ret fr lo mc ms) (d : decode cc pc = .ok (.goto off, 3)) (ht : (pc : Int) + off = (tgt : Int))
    (k : J X G Q nL cs ss tgt lv st S) : J X G Q nL cs ss pc lv st S := by
  intro H locs ls hR hS hl
  exact lv_goto hC.1 hC.2.1 d ht (k H locs ls hR hS hl)
theorem J_ifnonnull {X : JX} {G : JG} {Q : State → Prop} {nL cs ss pc : Nat} {lv : List (Nat × Value)} {st : List Value} {S : HS} {own : String} {cc : ByteArray} {ret : Option FieldType} {fr lo mc ms : Nat} {a : Nat} {off : Int} (tgt : Nat) (hC : JC X G own cc nL ret fr lo mc ms) (d : decode cc pc = .ok (.ifnonnull off, 3)) (ht : (pc : Int) + off = (tgt : Int))
    (k : J X G Q nL cs ss tgt lv st S) : J X G Q nL cs ss pc lv (.ref a :: st) S := by
  intro H locs ls hR hS hl
  exact lv_ifnonnull hC.1 hC.2.1 d ht (k H locs ls hR hS hl)
theorem J_acmp_eq {X : JX} {G : JG} {Q : State → Prop} {nL cs ss pc : Nat} {lv : List (Nat × Value)} {st : List Value} {S : HS} {own : String} {cc : ByteArray} {ret : Option FieldType} {fr lo mc ms : Nat} {a b : Nat} {off : Int} (tgt : Nat) (hC : JC X G own cc nL ret fr lo mc ms) (d : decode cc pc = .ok (.if_acmp .eq off, 3)) (ht : (pc : Int) + off = (tgt : Int))
    (kt : a = b → J X G Q nL cs ss tgt lv st S) (kf : ¬ (a = b) → J X G Q nL cs ss (pc + 3) lv st S) : J X G Q nL cs ss pc lv (.ref b :: .ref a :: st) S := by
  intro H locs ls hR hS hl
  exact lv_acmp_eq (rx := some a) (ry := some b) hC.1 hC.2.1 d ht (fun z => kt (by simpa using z) H locs ls hR hS hl) (fun z => kf (by simpa using z) H locs ls hR hS hl)
theorem J_acmp_ne {X : JX} {G : JG} {Q : State → Prop} {nL cs ss pc : Nat} {lv : List (Nat × Value)} {st : List Value} {S : HS} {own : String} {cc : ByteArray} {ret : Option FieldType} {fr lo mc ms : Nat} {a b : Nat} {off : Int} (tgt : Nat) (hC : JC X G own cc nL ret fr lo mc ms) (d : decode cc pc = .ok (.if_acmp .ne off, 3)) (ht : (pc : Int) + off = (tgt : Int))
    (kt : ¬ a = b → J X G Q nL cs ss tgt lv st S) (kf : a = b → J X G Q nL cs ss (pc + 3) lv st S) : J X G Q nL cs ss pc lv (.ref b :: .ref a :: st) S := by
  intro H locs ls hR hS hl
  exact lv_acmp_ne (rx := some a) (ry := some b) hC.1 hC.2.1 d ht (fun z => kt (by simpa using z) H locs ls hR hS hl) (fun z => kf (by simpa using z) H locs ls hR hS hl)
theorem J_dup {X : JX} {G : JG} {Q : State → Prop} {nL cs ss pc : Nat} {lv : List (Nat × Value)} {st : List Value} {S : HS} {own : String} {cc : ByteArray} {ret : Option FieldType} {fr lo mc ms : Nat} {v : Value} (hC : JC X G own cc nL ret fr lo mc ms) (d : decode cc pc = .ok (.dup, 1)) (h : v.category = 1)
    (k : J X G Q nL cs ss (pc + 1) lv (v :: v :: st) S) : J X G Q nL cs ss pc lv (v :: st) S := by
  intro H locs ls hR hS hl
  exact lv_dup hC.1 hC.2.1 d h (k H locs ls hR hS hl)
theorem J_dup_x1 {X : JX} {G : JG} {Q : State → Prop} {nL cs ss pc : Nat} {lv : List (Nat × Value)} {st : List Value} {S : HS} {own : String} {cc : ByteArray} {ret : Option FieldType} {fr lo mc ms : Nat} {v w : Value} (hC : JC X G own cc nL ret fr lo mc ms) (d : decode cc pc = .ok (.dup_x1, 1)) (h : v.category = 1) (h2 : w.category = 1)
    (k : J X G Q nL cs ss (pc + 1) lv (v :: w :: v :: st) S) : J X G Q nL cs ss pc lv (v :: w :: st) S := by
  intro H locs ls hR hS hl
  exact lv_dup_x1 hC.1 hC.2.1 d h h2 (k H locs ls hR hS hl)
theorem J_pop {X : JX} {G : JG} {Q : State → Prop} {nL cs ss pc : Nat} {lv : List (Nat × Value)} {st : List Value} {S : HS} {own : String} {cc : ByteArray} {ret : Option FieldType} {fr lo mc ms : Nat} {v : Value} (hC : JC X G own cc nL ret fr lo mc ms) (d : decode cc pc = .ok (.pop, 1)) (h : v.category = 1)
    (k : J X G Q nL cs ss (pc + 1) lv st S) : J X G Q nL cs ss pc lv (v :: st) S := by
  intro H locs ls hR hS hl
  exact lv_pop hC.1 hC.2.1 d h (k H locs ls hR hS hl)
theorem J_tableIn {X : JX} {G : JG} {Q : State → Prop} {nL cs ss pc : Nat} {lv : List (Nat × Value)} {st : List Value} {S : HS} {own : String} {cc : ByteArray} {ret : Option FieldType} {fr lo mc ms : Nat} {dflt low hi : Int} {offs : Array Int} {len : Nat} {x : Int32} {off : Int} (tgt : Nat) (hC : JC X G own cc nL ret fr lo mc ms) (d : decode cc pc = .ok (.tableswitch dflt low hi offs, len)) (h1 : ¬ x.toInt < low) (h2 : ¬ hi < x.toInt) (ho : offs[(x.toInt - low).toNat]? = some off) (ht : (pc : Int) + off = (tgt : Int))
    (k : J X G Q nL cs ss tgt lv st S) : J X G Q nL cs ss pc lv (.int x :: st) S := by
  intro H locs ls hR hS hl
  exact lv_tableIn hC.1 hC.2.1 d h1 h2 ho ht (k H locs ls hR hS hl)
theorem J_tableOut {X : JX} {G : JG} {Q : State → Prop} {nL cs ss pc : Nat} {lv : List (Nat × Value)} {st : List Value} {S : HS} {own : String} {cc : ByteArray} {ret : Option FieldType} {fr lo mc ms : Nat} {dflt low hi : Int} {offs : Array Int} {len : Nat} {x : Int32} (tgt : Nat) (hC : JC X G own cc nL ret fr lo mc ms) (d : decode cc pc = .ok (.tableswitch dflt low hi offs, len)) (h : x.toInt < low ∨ hi < x.toInt) (ht : (pc : Int) + dflt = (tgt : Int))
    (k : J X G Q nL cs ss tgt lv st S) : J X G Q nL cs ss pc lv (.int x :: st) S := by
  intro H locs ls hR hS hl
  exact lv_tableOut hC.1 hC.2.1 d h ht (k H locs ls hR hS hl)
theorem J_sub {X : JX} {G : JG} {Q : State → Prop} {nL cs ss pc : Nat} {lv : List (Nat × Value)} {st : List Value} {S : HS} {own : String} {cc : ByteArray} {ret : Option FieldType} {fr lo mc ms : Nat} {lv' : List (Nat × Value)} (ks : List Nat) (h : lv_pick lv ks = lv') (k : J X G Q nL cs ss pc lv' st S) : J X G Q nL cs ss pc lv st S := fun H locs ls hR hS hl => k H locs ls hR hS (lv_sub hl ks h)
theorem J_widen {X : JX} {G : JG} {Q : State → Prop} {nL cs ss pc : Nat} {lv : List (Nat × Value)} {st : List Value} {S : HS} {own : String} {cc : ByteArray} {ret : Option FieldType} {fr lo mc ms : Nat} {cs' ss' : Nat} (h1 : cs ≤ cs') (h2 : ss ≤ ss') (k : J X G Q nL cs' ss' pc lv st S) : J X G Q nL cs ss pc lv st S := fun H locs ls hR hS hl => W.widen h1 h2 (k H locs ls hR hS hl)
theorem J_iret {X : JX} {G : JG} {nL cs ss pc : Nat} {lv : List (Nat × Value)} {S : HS} {own : String} {cc : ByteArray} {fr lo mc ms : Nat} {v : Int32} {R : Option Value → HS → Prop} {RX : String → HS → Prop} (hC : JC X G own cc nL (some .int) fr lo mc ms) (d : decode cc pc = .ok (.ireturn, 1)) (h1 : cs ≤ mc) (h2 : ss ≤ ms)
    (h : R (some (.int v)) S) : J X G (QQ X G R RX mc ms) nL cs ss pc lv [.int v] S := by
  intro H locs ls hR hS hl
  refine W.widen h1 h2 (vx_ret ?_)
  exact W.iret hC.1 hC.2.1 hC.2.2.2.2.2.2.2.1 (fun t ht _ => ⟨⟨_, S, rfl, h, by rw [ht]; exact hR⟩, hS.F ht⟩) hS.2.2 d hC.2.2.2.2.2.2.1
theorem J_lret {X : JX} {G : JG} {nL cs ss pc : Nat} {lv : List (Nat × Value)} {S : HS} {own : String} {cc : ByteArray} {fr lo mc ms : Nat} {v : Int64} {R : Option Value → HS → Prop} {RX : String → HS → Prop} (hC : JC X G own cc nL (some .long) fr lo mc ms) (d : decode cc pc = .ok (.lreturn, 1)) (h1 : cs ≤ mc) (h2 : ss ≤ ms)
    (h : R (some (.long v)) S) : J X G (QQ X G R RX mc ms) nL cs ss pc lv [.long v] S := by
  intro H locs ls hR hS hl
  refine W.widen h1 h2 (vx_ret ?_)
  exact W.lret hC.1 hC.2.1 hC.2.2.2.2.2.2.2.1 (fun t ht _ => ⟨⟨_, S, rfl, h, by rw [ht]; exact hR⟩, hS.F ht⟩) hS.2.2 d hC.2.2.2.2.2.2.1
theorem J_dret {X : JX} {G : JG} {nL cs ss pc : Nat} {lv : List (Nat × Value)} {S : HS} {own : String} {cc : ByteArray} {fr lo mc ms : Nat} {v : UInt64} {R : Option Value → HS → Prop} {RX : String → HS → Prop} (hC : JC X G own cc nL (some .double) fr lo mc ms) (d : decode cc pc = .ok (.dreturn, 1)) (h1 : cs ≤ mc) (h2 : ss ≤ ms)
    (h : R (some (.double v)) S) : J X G (QQ X G R RX mc ms) nL cs ss pc lv [.double v] S := by
  intro H locs ls hR hS hl
  refine W.widen h1 h2 (vx_ret ?_)
  exact W.dret hC.1 hC.2.1 hC.2.2.2.2.2.2.2.1 (fun t ht _ => ⟨⟨_, S, rfl, h, by rw [ht]; exact hR⟩, hS.F ht⟩) hS.2.2 d hC.2.2.2.2.2.2.1
theorem J_zret {X : JX} {G : JG} {nL cs ss pc : Nat} {lv : List (Nat × Value)} {S : HS} {own : String} {cc : ByteArray} {fr lo mc ms : Nat} {v : Int32} {R : Option Value → HS → Prop} {RX : String → HS → Prop} (hC : JC X G own cc nL (some .boolean) fr lo mc ms) (d : decode cc pc = .ok (.ireturn, 1)) (hn : narrow .boolean (.int v) = .int v) (h1 : cs ≤ mc) (h2 : ss ≤ ms)
    (h : R (some (.int v)) S) : J X G (QQ X G R RX mc ms) nL cs ss pc lv [.int v] S := by
  intro H locs ls hR hS hl
  refine W.widen h1 h2 (vx_ret ?_)
  exact W.zret hC.1 hC.2.1 hC.2.2.2.2.2.2.2.1 hn (fun t ht _ => ⟨⟨_, S, rfl, h, by rw [ht]; exact hR⟩, hS.F ht⟩) hS.2.2 d hC.2.2.2.2.2.2.1
theorem J_vret {X : JX} {G : JG} {nL cs ss pc : Nat} {lv : List (Nat × Value)} {S : HS} {own : String} {cc : ByteArray} {fr lo mc ms : Nat} {R : Option Value → HS → Prop} {RX : String → HS → Prop} (hC : JC X G own cc nL none fr lo mc ms) (d : decode cc pc = .ok (.return_, 1)) (h1 : cs ≤ mc) (h2 : ss ≤ ms)
    (h : R none S) : J X G (QQ X G R RX mc ms) nL cs ss pc lv [] S := by
  intro H locs ls hR hS hl
  refine W.widen h1 h2 (vx_ret ?_)
  exact W.vret hC.1 hC.2.1 hC.2.2.2.2.2.2.2.1 (fun t ht _ => ⟨⟨_, S, rfl, h, by rw [ht]; exact hR⟩, hS.F ht⟩) hS.2.2 d hC.2.2.2.2.2.2.1
theorem J_aret {X : JX} {G : JG} {nL cs ss pc : Nat} {lv : List (Nat × Value)} {S : HS} {own : String} {cc : ByteArray} {fr lo mc ms : Nat} {a : Nat} {rt : FieldType} {R : Option Value → HS → Prop} {RX : String → HS → Prop} (hC : JC X G own cc nL (some rt) fr lo mc ms) (d : decode cc pc = .ok (.areturn, 1)) (hrt : (∃ n, rt = .object n) ∨ ∃ t, rt = .array t) (h1 : cs ≤ mc) (h2 : ss ≤ ms)
    (h : R (some (.ref a)) S) : J X G (QQ X G R RX mc ms) nL cs ss pc lv [.ref a] S := by
  intro H locs ls hR hS hl
  refine W.widen h1 h2 (vx_ret ?_)
  exact W.aret hC.1 hC.2.1 hC.2.2.2.2.2.2.2.1 hrt (Or.inr ⟨a, rfl⟩) (fun t ht _ => ⟨⟨_, S, rfl, h, by rw [ht]; exact hR⟩, hS.F ht⟩) hS.2.2 d hC.2.2.2.2.2.2.1
