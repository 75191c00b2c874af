/-- the fixed things of a walk: the machine, the code, the words, the tables, where it may write -/
def cx (p : Program) (s : State) (m : MethodId) (args : Array Value) (meth : Method) (c : Code) (D : va_G) (cl : List vw_C) (tys : List (ClassId × FieldType)) (A : Nat → Prop) (G : List Cond) (own : String) (cc : ByteArray) (nL : Nat) : Prop :=
  p.tables.exec = Jvm.exec ∧ c.code = cc ∧ c.maxLocals = nL ∧ s.vm.findClass own = some m.cls ∧ (∀ w ∈ G, w.before args s = true) ∧ va_K D cl tys s ∧ (∀ q, s.heap.size ≤ q → A q) ∧ meth.locks = false
/-- the walk at pc, with these locals, this stack, this world -/
def vv (p : Program) (l : Launch) (e : Env) (R : Room) (s : State) (m : MethodId) (args : Array Value) (below : List Frame) (meth : Method) (c : Code) (D : va_G) (cl : List vw_C) (A : Nat → Prop) (nL cells slots : Nat) (Q : State → Prop) (pc : Nat) (lv : List (Nat × Value)) (st : List Value) (ws : va_W) : Prop :=
  ∀ (H : Heap) (locs : List Loc) (ls : Array Slot), lv_has ls nL lv → va_P D cl ws H → va_D A ws → va_S A s.heap H locs → W p l e R s m args below meth c H locs cells slots Q (F0 m pc ls st)
/-- what else holds of the start, and stays -/
def stb (A : Nat → Prop) (E : State → Heap → Prop) : Prop := ∀ (u U : State) (H : Heap), u.WarmedH U.vm → u.heap.size ≤ H.size → (∀ q : Nat, q < u.heap.size → ¬ A q → H[q]? = u.heap[q]?) → E u u.heap → E U H
def pcI (E : State → Heap → Prop) (D : va_G) (cl : List vw_C) (tys : List (ClassId × FieldType)) (A : Nat → Prop) (as : List Value) (ws : va_W) : Array Value → State → Prop := va_Pc as (fun U => va_P D cl ws U.heap ∧ va_D A ws ∧ va_K D cl tys U ∧ (∀ q, U.heap.size ≤ q → A q) ∧ E U U.heap)
def qcI (D : va_G) (cl : List vw_C) (A : Nat → Prop) (r : Option Value) (ws : va_W) : Array Value → State → Outcome → State → Prop := fun _ st o t => (o = .returned r ∧ va_P D cl ws t.heap ∧ va_D A ws) ∧ va_F A st t
/-- a method's contract: it returns r, and the world is ws' -/
def cm (l : Launch) (E : State → Heap → Prop) (D : va_G) (cl : List vw_C) (tys : List (ClassId × FieldType)) (A : Nat → Prop) (G : List Cond) (y : MethodName) (bytes : ByteArray) (maxL : Nat) (ret : Option FieldType) (rm : Room) (as : List Value) (ws : va_W) (r : Option Value) (ws' : va_W) : Prop :=
  Met l y (Cond.code y bytes maxL ret :: G) rm (pcI E D cl tys A as ws) (qcI D cl A r ws') rm.cells rm.slots A
section RW
variable {p : Program} {l : Launch} {e : Env} {R : Room} {s : State} {m : MethodId} {args : Array Value} {below : List Frame} {meth : Method} {c : Code} {cells slots : Nat} {Q : State → Prop}
variable {D : va_G} {cl : List vw_C} {tys : List (ClassId × FieldType)} {A : Nat → Prop} {G : List Cond} {E : State → Heap → Prop} {own : String} {cc : ByteArray} {nL pc : Nat} {lv : List (Nat × Value)} {rest : List Value} {ws : va_W}
theorem r_iconst (C : cx p s m args meth c D cl tys A G own cc nL) {n : Int} {v : Int32} (d : decode cc pc = .ok (.iconst n, 1)) (hv : Int32.ofInt n = v)
    (k : vv p l e R s m args below meth c D cl A nL cells slots Q (pc + 1) (lv) (.int v :: rest) (ws)) : vv p l e R s m args below meth c D cl A nL cells slots Q (pc) (lv) (rest) (ws) :=
  fun H locs ls hl hP hD hS => lv_iconst C.1 C.2.1 d hv (k H locs ls hl hP hD hS)
theorem r_bipush (C : cx p s m args meth c D cl tys A G own cc nL) {n : Int} {v : Int32} (d : decode cc pc = .ok (.bipush n, 2)) (hv : (Int8.ofInt n).toInt32 = v)
    (k : vv p l e R s m args below meth c D cl A nL cells slots Q (pc + 2) (lv) (.int v :: rest) (ws)) : vv p l e R s m args below meth c D cl A nL cells slots Q (pc) (lv) (rest) (ws) :=
  fun H locs ls hl hP hD hS => lv_bipush C.1 C.2.1 d hv (k H locs ls hl hP hD hS)
theorem r_sipush (C : cx p s m args meth c D cl tys A G own cc nL) {n : Int} {v : Int32} (d : decode cc pc = .ok (.sipush n, 3)) (hv : (Int16.ofInt n).toInt32 = v)
    (k : vv p l e R s m args below meth c D cl A nL cells slots Q (pc + 3) (lv) (.int v :: rest) (ws)) : vv p l e R s m args below meth c D cl A nL cells slots Q (pc) (lv) (rest) (ws) :=
  fun H locs ls hl hP hD hS => lv_sipush C.1 C.2.1 d hv (k H locs ls hl hP hD hS)
theorem r_lconst (C : cx p s m args meth c D cl tys A G own cc nL) {n : Fin 2} {v : Int64} (d : decode cc pc = .ok (.lconst n, 1)) (hv : Int64.ofNat (n : Nat) = v)
    (k : vv p l e R s m args below meth c D cl A nL cells slots Q (pc + 1) (lv) (.long v :: rest) (ws)) : vv p l e R s m args below meth c D cl A nL cells slots Q (pc) (lv) (rest) (ws) :=
  fun H locs ls hl hP hD hS => lv_lconst C.1 C.2.1 d hv (k H locs ls hl hP hD hS)
theorem r_ldc (C : cx p s m args meth c D cl tys A G own cc nL) {index : Nat} {v : Int32} (hc : Jvm.Cond.constant own index v ∈ G) (d : decode cc pc = .ok (.ldc index, 2))
    (k : vv p l e R s m args below meth c D cl A nL cells slots Q (pc + 2) (lv) (.int v :: rest) (ws)) : vv p l e R s m args below meth c D cl A nL cells slots Q (pc) (lv) (rest) (ws) :=
  fun H locs ls hl hP hD hS => lv_ldc C.1 C.2.1 C.2.2.2.1 (C.2.2.2.2.1 _ hc) d (k H locs ls hl hP hD hS)
theorem r_ldc2 (C : cx p s m args meth c D cl tys A G own cc nL) {index : Nat} {v : Int64} (hc : Jvm.Cond.constantLong own index v ∈ G) (d : decode cc pc = .ok (.ldc2_w index, 3))
    (k : vv p l e R s m args below meth c D cl A nL cells slots Q (pc + 3) (lv) (.long v :: rest) (ws)) : vv p l e R s m args below meth c D cl A nL cells slots Q (pc) (lv) (rest) (ws) :=
  fun H locs ls hl hP hD hS => lv_ldc2 C.1 C.2.1 C.2.2.2.1 (C.2.2.2.2.1 _ hc) d (k H locs ls hl hP hD hS)
theorem r_iload_n (C : cx p s m args meth c D cl tys A G own cc nL) {kk : Fin 4} {i : Nat} {x : Int32} (d : decode cc pc = .ok (.iload_n kk, 1)) (hi : (kk : Nat) = i) (j : Nat) (hj : lv[j]? = some (i, .int x))
    (k : vv p l e R s m args below meth c D cl A nL cells slots Q (pc + 1) (lv) (.int x :: rest) (ws)) : vv p l e R s m args below meth c D cl A nL cells slots Q (pc) (lv) (rest) (ws) :=
  fun H locs ls hl hP hD hS => lv_iload_n C.1 C.2.1 d hi (lv_at hl j hj) (k H locs ls hl hP hD hS)
theorem r_iload (C : cx p s m args meth c D cl tys A G own cc nL) {i : Nat} {x : Int32} (d : decode cc pc = .ok (.iload i, 2)) (j : Nat) (hj : lv[j]? = some (i, .int x))
    (k : vv p l e R s m args below meth c D cl A nL cells slots Q (pc + 2) (lv) (.int x :: rest) (ws)) : vv p l e R s m args below meth c D cl A nL cells slots Q (pc) (lv) (rest) (ws) :=
  fun H locs ls hl hP hD hS => lv_iload C.1 C.2.1 d (lv_at hl j hj) (k H locs ls hl hP hD hS)
theorem r_istore_n (C : cx p s m args meth c D cl tys A G own cc nL) {kk : Fin 4} {i : Nat} {x : Int32} {lv' : List (Nat × Value)} (d : decode cc pc = .ok (.istore_n kk, 1)) (hi : (kk : Nat) = i) (hn : i < nL) (hv : (i, Value.int x) :: lv.filter (fun q => !(q.1 == i) && !(q.1 + 1 == i && q.2.category == 2)) = lv')
    (k : vv p l e R s m args below meth c D cl A nL cells slots Q (pc + 1) (lv') (rest) (ws)) : vv p l e R s m args below meth c D cl A nL cells slots Q (pc) (lv) (.int x :: rest) (ws) :=
  fun H locs ls hl hP hD hS => lv_istore_n C.1 C.2.1 d hi hl hn hv (fun ls' hl' => k H locs ls' hl' hP hD hS)
theorem r_istore (C : cx p s m args meth c D cl tys A G own cc nL) {i : Nat} {x : Int32} {lv' : List (Nat × Value)} (d : decode cc pc = .ok (.istore i, 2)) (hn : i < nL) (hv : (i, Value.int x) :: lv.filter (fun q => !(q.1 == i) && !(q.1 + 1 == i && q.2.category == 2)) = lv')
    (k : vv p l e R s m args below meth c D cl A nL cells slots Q (pc + 2) (lv') (rest) (ws)) : vv p l e R s m args below meth c D cl A nL cells slots Q (pc) (lv) (.int x :: rest) (ws) :=
  fun H locs ls hl hP hD hS => lv_istore C.1 C.2.1 d hl hn hv (fun ls' hl' => k H locs ls' hl' hP hD hS)
theorem r_lload_n (C : cx p s m args meth c D cl tys A G own cc nL) {kk : Fin 4} {i : Nat} {x : Int64} (d : decode cc pc = .ok (.lload_n kk, 1)) (hi : (kk : Nat) = i) (j : Nat) (hj : lv[j]? = some (i, .long x))
    (k : vv p l e R s m args below meth c D cl A nL cells slots Q (pc + 1) (lv) (.long x :: rest) (ws)) : vv p l e R s m args below meth c D cl A nL cells slots Q (pc) (lv) (rest) (ws) :=
  fun H locs ls hl hP hD hS => lv_lload_n C.1 C.2.1 d hi (lv_at hl j hj) (k H locs ls hl hP hD hS)
theorem r_lload (C : cx p s m args meth c D cl tys A G own cc nL) {i : Nat} {x : Int64} (d : decode cc pc = .ok (.lload i, 2)) (j : Nat) (hj : lv[j]? = some (i, .long x))
    (k : vv p l e R s m args below meth c D cl A nL cells slots Q (pc + 2) (lv) (.long x :: rest) (ws)) : vv p l e R s m args below meth c D cl A nL cells slots Q (pc) (lv) (rest) (ws) :=
  fun H locs ls hl hP hD hS => lv_lload C.1 C.2.1 d (lv_at hl j hj) (k H locs ls hl hP hD hS)
theorem r_lstore_n (C : cx p s m args meth c D cl tys A G own cc nL) {kk : Fin 4} {i : Nat} {x : Int64} {lv' : List (Nat × Value)} (d : decode cc pc = .ok (.lstore_n kk, 1)) (hi : (kk : Nat) = i) (hn : i + 1 < nL) (hv : (i, Value.long x) :: lv.filter (fun q => !(q.1 == i) && (!(q.1 == i + 1) && !(q.1 + 1 == i && q.2.category == 2))) = lv')
    (k : vv p l e R s m args below meth c D cl A nL cells slots Q (pc + 1) (lv') (rest) (ws)) : vv p l e R s m args below meth c D cl A nL cells slots Q (pc) (lv) (.long x :: rest) (ws) :=
  fun H locs ls hl hP hD hS => lv_lstore_n C.1 C.2.1 d hi hl hn hv (fun ls' hl' => k H locs ls' hl' hP hD hS)
theorem r_lstore (C : cx p s m args meth c D cl tys A G own cc nL) {i : Nat} {x : Int64} {lv' : List (Nat × Value)} (d : decode cc pc = .ok (.lstore i, 2)) (hn : i + 1 < nL) (hv : (i, Value.long x) :: lv.filter (fun q => !(q.1 == i) && (!(q.1 == i + 1) && !(q.1 + 1 == i && q.2.category == 2))) = lv')
    (k : vv p l e R s m args below meth c D cl A nL cells slots Q (pc + 2) (lv') (rest) (ws)) : vv p l e R s m args below meth c D cl A nL cells slots Q (pc) (lv) (.long x :: rest) (ws) :=
  fun H locs ls hl hP hD hS => lv_lstore C.1 C.2.1 d hl hn hv (fun ls' hl' => k H locs ls' hl' hP hD hS)
theorem r_aload_n (C : cx p s m args meth c D cl tys A G own cc nL) {kk : Fin 4} {i : Nat} {x : Nat} (d : decode cc pc = .ok (.aload_n kk, 1)) (hi : (kk : Nat) = i) (j : Nat) (hj : lv[j]? = some (i, .ref x))
    (k : vv p l e R s m args below meth c D cl A nL cells slots Q (pc + 1) (lv) (.ref x :: rest) (ws)) : vv p l e R s m args below meth c D cl A nL cells slots Q (pc) (lv) (rest) (ws) :=
  fun H locs ls hl hP hD hS => lv_aload_n C.1 C.2.1 d hi (lv_at hl j hj) (k H locs ls hl hP hD hS)
theorem r_aload (C : cx p s m args meth c D cl tys A G own cc nL) {i : Nat} {x : Nat} (d : decode cc pc = .ok (.aload i, 2)) (j : Nat) (hj : lv[j]? = some (i, .ref x))
    (k : vv p l e R s m args below meth c D cl A nL cells slots Q (pc + 2) (lv) (.ref x :: rest) (ws)) : vv p l e R s m args below meth c D cl A nL cells slots Q (pc) (lv) (rest) (ws) :=
  fun H locs ls hl hP hD hS => lv_aload C.1 C.2.1 d (lv_at hl j hj) (k H locs ls hl hP hD hS)
theorem r_astore_n (C : cx p s m args meth c D cl tys A G own cc nL) {kk : Fin 4} {i : Nat} {x : Nat} {lv' : List (Nat × Value)} (d : decode cc pc = .ok (.astore_n kk, 1)) (hi : (kk : Nat) = i) (hn : i < nL) (hv : (i, Value.ref x) :: lv.filter (fun q => !(q.1 == i) && !(q.1 + 1 == i && q.2.category == 2)) = lv')
    (k : vv p l e R s m args below meth c D cl A nL cells slots Q (pc + 1) (lv') (rest) (ws)) : vv p l e R s m args below meth c D cl A nL cells slots Q (pc) (lv) (.ref x :: rest) (ws) :=
  fun H locs ls hl hP hD hS => lv_astore_n C.1 C.2.1 d hi hl hn hv (fun ls' hl' => k H locs ls' hl' hP hD hS)
theorem r_astore (C : cx p s m args meth c D cl tys A G own cc nL) {i : Nat} {x : Nat} {lv' : List (Nat × Value)} (d : decode cc pc = .ok (.astore i, 2)) (hn : i < nL) (hv : (i, Value.ref x) :: lv.filter (fun q => !(q.1 == i) && !(q.1 + 1 == i && q.2.category == 2)) = lv')
    (k : vv p l e R s m args below meth c D cl A nL cells slots Q (pc + 2) (lv') (rest) (ws)) : vv p l e R s m args below meth c D cl A nL cells slots Q (pc) (lv) (.ref x :: rest) (ws) :=
  fun H locs ls hl hP hD hS => lv_astore C.1 C.2.1 d hl hn hv (fun ls' hl' => k H locs ls' hl' hP hD hS)
theorem r_iinc (C : cx p s m args meth c D cl tys A G own cc nL) {i j : Nat} {n : Int} {x v : Int32} {lv' : List (Nat × Value)} (d : decode cc pc = .ok (.iinc i n, 3)) (hj : lv[j]? = some (i, .int x)) (hv : x + Int32.ofInt n = v) (hn : i < nL) (hf : (i, Value.int v) :: lv.filter (fun q => !(q.1 == i) && !(q.1 + 1 == i && q.2.category == 2)) = lv')
    (k : vv p l e R s m args below meth c D cl A nL cells slots Q (pc + 3) (lv') (rest) (ws)) : vv p l e R s m args below meth c D cl A nL cells slots Q (pc) (lv) (rest) (ws) :=
  fun H locs ls hl hP hD hS => lv_iinc C.1 C.2.1 d hl hj hv hn hf (fun ls' hl' => k H locs ls' hl' hP hD hS)
theorem r_iincK (C : cx p s m args meth c D cl tys A G own cc nL) {i : Nat} {n : Int} {x w0 : Int32} {lv' : List (Nat × Value)} (d : decode cc pc = .ok (.iinc i n, 3)) (hk : Int32.ofInt n = w0) (j : Nat) (hj : lv[j]? = some (i, .int x)) (hn : i < nL) (hf : (i, Value.int (x + w0)) :: lv.filter (fun q => !(q.1 == i) && !(q.1 + 1 == i && q.2.category == 2)) = lv')
    (k : vv p l e R s m args below meth c D cl A nL cells slots Q (pc + 3) (lv') (rest) (ws)) : vv p l e R s m args below meth c D cl A nL cells slots Q (pc) (lv) (rest) (ws) :=
  fun H locs ls hl hP hD hS => lv_iinc C.1 C.2.1 d hl hj (by rw [hk]) hn hf (fun ls' hl' => k H locs ls' hl' hP hD hS)
theorem r_iadd (C : cx p s m args meth c D cl tys A G own cc nL) {x y : Int32} (d : decode cc pc = .ok (.iadd, 1))
    (k : vv p l e R s m args below meth c D cl A nL cells slots Q (pc + 1) (lv) (.int (x + y) :: rest) (ws)) : vv p l e R s m args below meth c D cl A nL cells slots Q (pc) (lv) (.int y :: .int x :: rest) (ws) :=
  fun H locs ls hl hP hD hS => lv_iadd C.1 C.2.1 d (k H locs ls hl hP hD hS)
theorem r_isub (C : cx p s m args meth c D cl tys A G own cc nL) {x y : Int32} (d : decode cc pc = .ok (.isub, 1))
    (k : vv p l e R s m args below meth c D cl A nL cells slots Q (pc + 1) (lv) (.int (x - y) :: rest) (ws)) : vv p l e R s m args below meth c D cl A nL cells slots Q (pc) (lv) (.int y :: .int x :: rest) (ws) :=
  fun H locs ls hl hP hD hS => lv_isub C.1 C.2.1 d (k H locs ls hl hP hD hS)
theorem r_imul (C : cx p s m args meth c D cl tys A G own cc nL) {x y : Int32} (d : decode cc pc = .ok (.imul, 1))
    (k : vv p l e R s m args below meth c D cl A nL cells slots Q (pc + 1) (lv) (.int (x * y) :: rest) (ws)) : vv p l e R s m args below meth c D cl A nL cells slots Q (pc) (lv) (.int y :: .int x :: rest) (ws) :=
  fun H locs ls hl hP hD hS => lv_imul C.1 C.2.1 d (k H locs ls hl hP hD hS)
theorem r_iand (C : cx p s m args meth c D cl tys A G own cc nL) {x y : Int32} (d : decode cc pc = .ok (.iand, 1))
    (k : vv p l e R s m args below meth c D cl A nL cells slots Q (pc + 1) (lv) (.int (x &&& y) :: rest) (ws)) : vv p l e R s m args below meth c D cl A nL cells slots Q (pc) (lv) (.int y :: .int x :: rest) (ws) :=
  fun H locs ls hl hP hD hS => lv_iand C.1 C.2.1 d (k H locs ls hl hP hD hS)
theorem r_ior (C : cx p s m args meth c D cl tys A G own cc nL) {x y : Int32} (d : decode cc pc = .ok (.ior, 1))
    (k : vv p l e R s m args below meth c D cl A nL cells slots Q (pc + 1) (lv) (.int (x ||| y) :: rest) (ws)) : vv p l e R s m args below meth c D cl A nL cells slots Q (pc) (lv) (.int y :: .int x :: rest) (ws) :=
  fun H locs ls hl hP hD hS => lv_ior C.1 C.2.1 d (k H locs ls hl hP hD hS)
theorem r_ixor (C : cx p s m args meth c D cl tys A G own cc nL) {x y : Int32} (d : decode cc pc = .ok (.ixor, 1))
    (k : vv p l e R s m args below meth c D cl A nL cells slots Q (pc + 1) (lv) (.int (x ^^^ y) :: rest) (ws)) : vv p l e R s m args below meth c D cl A nL cells slots Q (pc) (lv) (.int y :: .int x :: rest) (ws) :=
  fun H locs ls hl hP hD hS => lv_ixor C.1 C.2.1 d (k H locs ls hl hP hD hS)
theorem r_ishl (C : cx p s m args meth c D cl tys A G own cc nL) {x y : Int32} (d : decode cc pc = .ok (.ishl, 1))
    (k : vv p l e R s m args below meth c D cl A nL cells slots Q (pc + 1) (lv) (.int (x <<< (y &&& 31)) :: rest) (ws)) : vv p l e R s m args below meth c D cl A nL cells slots Q (pc) (lv) (.int y :: .int x :: rest) (ws) :=
  fun H locs ls hl hP hD hS => lv_ishl C.1 C.2.1 d (k H locs ls hl hP hD hS)
theorem r_ishr (C : cx p s m args meth c D cl tys A G own cc nL) {x y : Int32} (d : decode cc pc = .ok (.ishr, 1))
    (k : vv p l e R s m args below meth c D cl A nL cells slots Q (pc + 1) (lv) (.int (x >>> (y &&& 31)) :: rest) (ws)) : vv p l e R s m args below meth c D cl A nL cells slots Q (pc) (lv) (.int y :: .int x :: rest) (ws) :=
  fun H locs ls hl hP hD hS => lv_ishr C.1 C.2.1 d (k H locs ls hl hP hD hS)
theorem r_idiv (C : cx p s m args meth c D cl tys A G own cc nL) {x y : Int32} (d : decode cc pc = .ok (.idiv, 1)) (hne : ¬ y = 0)
    (k : vv p l e R s m args below meth c D cl A nL cells slots Q (pc + 1) (lv) (.int (x / y) :: rest) (ws)) : vv p l e R s m args below meth c D cl A nL cells slots Q (pc) (lv) (.int y :: .int x :: rest) (ws) :=
  fun H locs ls hl hP hD hS => lv_idiv C.1 C.2.1 d hne (k H locs ls hl hP hD hS)
theorem r_irem (C : cx p s m args meth c D cl tys A G own cc nL) {x y : Int32} (d : decode cc pc = .ok (.irem, 1)) (hne : ¬ y = 0)
    (k : vv p l e R s m args below meth c D cl A nL cells slots Q (pc + 1) (lv) (.int (x - x / y * y) :: rest) (ws)) : vv p l e R s m args below meth c D cl A nL cells slots Q (pc) (lv) (.int y :: .int x :: rest) (ws) :=
  fun H locs ls hl hP hD hS => lv_irem C.1 C.2.1 d hne (k H locs ls hl hP hD hS)
theorem r_ladd (C : cx p s m args meth c D cl tys A G own cc nL) {x y : Int64} (d : decode cc pc = .ok (.ladd, 1))
    (k : vv p l e R s m args below meth c D cl A nL cells slots Q (pc + 1) (lv) (.long (x + y) :: rest) (ws)) : vv p l e R s m args below meth c D cl A nL cells slots Q (pc) (lv) (.long y :: .long x :: rest) (ws) :=
  fun H locs ls hl hP hD hS => lv_ladd C.1 C.2.1 d (k H locs ls hl hP hD hS)
theorem r_lsub (C : cx p s m args meth c D cl tys A G own cc nL) {x y : Int64} (d : decode cc pc = .ok (.lsub, 1))
    (k : vv p l e R s m args below meth c D cl A nL cells slots Q (pc + 1) (lv) (.long (x - y) :: rest) (ws)) : vv p l e R s m args below meth c D cl A nL cells slots Q (pc) (lv) (.long y :: .long x :: rest) (ws) :=
  fun H locs ls hl hP hD hS => lv_lsub C.1 C.2.1 d (k H locs ls hl hP hD hS)
theorem r_lmul (C : cx p s m args meth c D cl tys A G own cc nL) {x y : Int64} (d : decode cc pc = .ok (.lmul, 1))
    (k : vv p l e R s m args below meth c D cl A nL cells slots Q (pc + 1) (lv) (.long (x * y) :: rest) (ws)) : vv p l e R s m args below meth c D cl A nL cells slots Q (pc) (lv) (.long y :: .long x :: rest) (ws) :=
  fun H locs ls hl hP hD hS => lv_lmul C.1 C.2.1 d (k H locs ls hl hP hD hS)
theorem r_land (C : cx p s m args meth c D cl tys A G own cc nL) {x y : Int64} (d : decode cc pc = .ok (.land, 1))
    (k : vv p l e R s m args below meth c D cl A nL cells slots Q (pc + 1) (lv) (.long (x &&& y) :: rest) (ws)) : vv p l e R s m args below meth c D cl A nL cells slots Q (pc) (lv) (.long y :: .long x :: rest) (ws) :=
  fun H locs ls hl hP hD hS => lv_land C.1 C.2.1 d (k H locs ls hl hP hD hS)
theorem r_lor (C : cx p s m args meth c D cl tys A G own cc nL) {x y : Int64} (d : decode cc pc = .ok (.lor, 1))
    (k : vv p l e R s m args below meth c D cl A nL cells slots Q (pc + 1) (lv) (.long (x ||| y) :: rest) (ws)) : vv p l e R s m args below meth c D cl A nL cells slots Q (pc) (lv) (.long y :: .long x :: rest) (ws) :=
  fun H locs ls hl hP hD hS => lv_lor C.1 C.2.1 d (k H locs ls hl hP hD hS)
theorem r_lxor (C : cx p s m args meth c D cl tys A G own cc nL) {x y : Int64} (d : decode cc pc = .ok (.lxor, 1))
    (k : vv p l e R s m args below meth c D cl A nL cells slots Q (pc + 1) (lv) (.long (x ^^^ y) :: rest) (ws)) : vv p l e R s m args below meth c D cl A nL cells slots Q (pc) (lv) (.long y :: .long x :: rest) (ws) :=
  fun H locs ls hl hP hD hS => lv_lxor C.1 C.2.1 d (k H locs ls hl hP hD hS)
theorem r_ldiv (C : cx p s m args meth c D cl tys A G own cc nL) {x y : Int64} (d : decode cc pc = .ok (.ldiv, 1)) (hne : ¬ y = 0)
    (k : vv p l e R s m args below meth c D cl A nL cells slots Q (pc + 1) (lv) (.long (x / y) :: rest) (ws)) : vv p l e R s m args below meth c D cl A nL cells slots Q (pc) (lv) (.long y :: .long x :: rest) (ws) :=
  fun H locs ls hl hP hD hS => lv_ldiv C.1 C.2.1 d hne (k H locs ls hl hP hD hS)
theorem r_lrem (C : cx p s m args meth c D cl tys A G own cc nL) {x y : Int64} (d : decode cc pc = .ok (.lrem, 1)) (hne : ¬ y = 0)
    (k : vv p l e R s m args below meth c D cl A nL cells slots Q (pc + 1) (lv) (.long (x - x / y * y) :: rest) (ws)) : vv p l e R s m args below meth c D cl A nL cells slots Q (pc) (lv) (.long y :: .long x :: rest) (ws) :=
  fun H locs ls hl hP hD hS => lv_lrem C.1 C.2.1 d hne (k H locs ls hl hP hD hS)
theorem r_ineg (C : cx p s m args meth c D cl tys A G own cc nL) {x : Int32} (d : decode cc pc = .ok (.ineg, 1))
    (k : vv p l e R s m args below meth c D cl A nL cells slots Q (pc + 1) (lv) (.int (-x) :: rest) (ws)) : vv p l e R s m args below meth c D cl A nL cells slots Q (pc) (lv) (.int x :: rest) (ws) :=
  fun H locs ls hl hP hD hS => lv_ineg C.1 C.2.1 d (k H locs ls hl hP hD hS)
theorem r_i2l (C : cx p s m args meth c D cl tys A G own cc nL) {x : Int32} (d : decode cc pc = .ok (.i2l, 1))
    (k : vv p l e R s m args below meth c D cl A nL cells slots Q (pc + 1) (lv) (.long x.toInt64 :: rest) (ws)) : vv p l e R s m args below meth c D cl A nL cells slots Q (pc) (lv) (.int x :: rest) (ws) :=
  fun H locs ls hl hP hD hS => lv_i2l C.1 C.2.1 d rfl (k H locs ls hl hP hD hS)
theorem r_l2i (C : cx p s m args meth c D cl tys A G own cc nL) {x : Int64} (d : decode cc pc = .ok (.l2i, 1))
    (k : vv p l e R s m args below meth c D cl A nL cells slots Q (pc + 1) (lv) (.int x.toInt32 :: rest) (ws)) : vv p l e R s m args below meth c D cl A nL cells slots Q (pc) (lv) (.long x :: rest) (ws) :=
  fun H locs ls hl hP hD hS => lv_l2i C.1 C.2.1 d rfl (k H locs ls hl hP hD hS)
theorem r_lushr (C : cx p s m args meth c D cl tys A G own cc nL) {x : Int64} {y : Int32} (d : decode cc pc = .ok (.lushr, 1))
    (k : vv p l e R s m args below meth c D cl A nL cells slots Q (pc + 1) (lv) (.long (x.toUInt64 >>> (y.toInt64.toUInt64 &&& Int64.toUInt64 63)).toInt64 :: rest) (ws)) : vv p l e R s m args below meth c D cl A nL cells slots Q (pc) (lv) (.int y :: .long x :: rest) (ws) :=
  fun H locs ls hl hP hD hS => lv_lushr C.1 C.2.1 d rfl (k H locs ls hl hP hD hS)
theorem r_iushr (C : cx p s m args meth c D cl tys A G own cc nL) {x y : Int32} (d : decode cc pc = .ok (.iushr, 1))
    (k : vv p l e R s m args below meth c D cl A nL cells slots Q (pc + 1) (lv) (.int (x.toUInt32 >>> (y.toUInt32 &&& Int32.toUInt32 31)).toInt32 :: rest) (ws)) : vv p l e R s m args below meth c D cl A nL cells slots Q (pc) (lv) (.int y :: .int x :: rest) (ws) :=
  fun H locs ls hl hP hD hS => lv_iushr C.1 C.2.1 d rfl (k H locs ls hl hP hD hS)
theorem r_lshl (C : cx p s m args meth c D cl tys A G own cc nL) {x : Int64} {y : Int32} (d : decode cc pc = .ok (.lshl, 1))
    (k : vv p l e R s m args below meth c D cl A nL cells slots Q (pc + 1) (lv) (.long (x <<< (y.toInt64 &&& 63)) :: rest) (ws)) : vv p l e R s m args below meth c D cl A nL cells slots Q (pc) (lv) (.int y :: .long x :: rest) (ws) :=
  fun H locs ls hl hP hD hS => lv_lshl C.1 C.2.1 d rfl (k H locs ls hl hP hD hS)
theorem r_lshr (C : cx p s m args meth c D cl tys A G own cc nL) {x : Int64} {y : Int32} (d : decode cc pc = .ok (.lshr, 1))
    (k : vv p l e R s m args below meth c D cl A nL cells slots Q (pc + 1) (lv) (.long (x >>> (y.toInt64 &&& 63)) :: rest) (ws)) : vv p l e R s m args below meth c D cl A nL cells slots Q (pc) (lv) (.int y :: .long x :: rest) (ws) :=
  fun H locs ls hl hP hD hS => lv_lshr C.1 C.2.1 d rfl (k H locs ls hl hP hD hS)
theorem r_dup (C : cx p s m args meth c D cl tys A G own cc nL) {va : Value} (d : decode cc pc = .ok (.dup, 1)) (h1 : va.category = 1)
    (k : vv p l e R s m args below meth c D cl A nL cells slots Q (pc + 1) (lv) (va :: va :: rest) (ws)) : vv p l e R s m args below meth c D cl A nL cells slots Q (pc) (lv) (va :: rest) (ws) :=
  fun H locs ls hl hP hD hS => lv_dup C.1 C.2.1 d h1 (k H locs ls hl hP hD hS)
theorem r_pop (C : cx p s m args meth c D cl tys A G own cc nL) {va : Value} (d : decode cc pc = .ok (.pop, 1)) (h1 : va.category = 1)
    (k : vv p l e R s m args below meth c D cl A nL cells slots Q (pc + 1) (lv) (rest) (ws)) : vv p l e R s m args below meth c D cl A nL cells slots Q (pc) (lv) (va :: rest) (ws) :=
  fun H locs ls hl hP hD hS => lv_pop C.1 C.2.1 d h1 (k H locs ls hl hP hD hS)
theorem r_dup2 (C : cx p s m args meth c D cl tys A G own cc nL) {va vb : Value} (d : decode cc pc = .ok (.dup2, 1)) (h1 : va.category = 1) (h2 : vb.category = 1)
    (k : vv p l e R s m args below meth c D cl A nL cells slots Q (pc + 1) (lv) (va :: vb :: va :: vb :: rest) (ws)) : vv p l e R s m args below meth c D cl A nL cells slots Q (pc) (lv) (va :: vb :: rest) (ws) :=
  fun H locs ls hl hP hD hS => lv_dup2_11 C.1 C.2.1 d h1 h2 (k H locs ls hl hP hD hS)
theorem r_dup_x1 (C : cx p s m args meth c D cl tys A G own cc nL) {va vb : Value} (d : decode cc pc = .ok (.dup_x1, 1)) (h1 : va.category = 1) (h2 : vb.category = 1)
    (k : vv p l e R s m args below meth c D cl A nL cells slots Q (pc + 1) (lv) (va :: vb :: va :: rest) (ws)) : vv p l e R s m args below meth c D cl A nL cells slots Q (pc) (lv) (va :: vb :: rest) (ws) :=
  fun H locs ls hl hP hD hS => lv_dup_x1 C.1 C.2.1 d h1 h2 (k H locs ls hl hP hD hS)
theorem r_if_eq (C : cx p s m args meth c D cl tys A G own cc nL) {x : Int32} {off : Int} {tgt : Nat} (d : decode cc pc = .ok (.ifCond .eq off, 3)) (ht : (pc : Int) + off = (tgt : Int))
    (kt : x = 0 → vv p l e R s m args below meth c D cl A nL cells slots Q (tgt) (lv) (rest) (ws)) (kf : ¬ x = 0 → vv p l e R s m args below meth c D cl A nL cells slots Q (pc + 3) (lv) (rest) (ws)) : vv p l e R s m args below meth c D cl A nL cells slots Q (pc) (lv) (.int x :: rest) (ws) :=
  fun H locs ls hl hP hD hS => lv_if_eq C.1 C.2.1 d ht (fun h => kt h H locs ls hl hP hD hS) (fun h => kf h H locs ls hl hP hD hS)
theorem r_icmp_eq (C : cx p s m args meth c D cl tys A G own cc nL) {x y : Int32} {off : Int} {tgt : Nat} (d : decode cc pc = .ok (.if_icmp .eq off, 3)) (ht : (pc : Int) + off = (tgt : Int))
    (kt : x = y → vv p l e R s m args below meth c D cl A nL cells slots Q (tgt) (lv) (rest) (ws)) (kf : ¬ x = y → vv p l e R s m args below meth c D cl A nL cells slots Q (pc + 3) (lv) (rest) (ws)) : vv p l e R s m args below meth c D cl A nL cells slots Q (pc) (lv) (.int y :: .int x :: rest) (ws) :=
  fun H locs ls hl hP hD hS => lv_icmp_eq C.1 C.2.1 d ht (fun h => kt h H locs ls hl hP hD hS) (fun h => kf h H locs ls hl hP hD hS)
theorem r_if_ne (C : cx p s m args meth c D cl tys A G own cc nL) {x : Int32} {off : Int} {tgt : Nat} (d : decode cc pc = .ok (.ifCond .ne off, 3)) (ht : (pc : Int) + off = (tgt : Int))
    (kt : ¬ x = 0 → vv p l e R s m args below meth c D cl A nL cells slots Q (tgt) (lv) (rest) (ws)) (kf : x = 0 → vv p l e R s m args below meth c D cl A nL cells slots Q (pc + 3) (lv) (rest) (ws)) : vv p l e R s m args below meth c D cl A nL cells slots Q (pc) (lv) (.int x :: rest) (ws) :=
  fun H locs ls hl hP hD hS => lv_if_ne C.1 C.2.1 d ht (fun h => kt h H locs ls hl hP hD hS) (fun h => kf h H locs ls hl hP hD hS)
theorem r_icmp_ne (C : cx p s m args meth c D cl tys A G own cc nL) {x y : Int32} {off : Int} {tgt : Nat} (d : decode cc pc = .ok (.if_icmp .ne off, 3)) (ht : (pc : Int) + off = (tgt : Int))
    (kt : ¬ x = y → vv p l e R s m args below meth c D cl A nL cells slots Q (tgt) (lv) (rest) (ws)) (kf : x = y → vv p l e R s m args below meth c D cl A nL cells slots Q (pc + 3) (lv) (rest) (ws)) : vv p l e R s m args below meth c D cl A nL cells slots Q (pc) (lv) (.int y :: .int x :: rest) (ws) :=
  fun H locs ls hl hP hD hS => lv_icmp_ne C.1 C.2.1 d ht (fun h => kt h H locs ls hl hP hD hS) (fun h => kf h H locs ls hl hP hD hS)
theorem r_if_lt (C : cx p s m args meth c D cl tys A G own cc nL) {x : Int32} {off : Int} {tgt : Nat} (d : decode cc pc = .ok (.ifCond .lt off, 3)) (ht : (pc : Int) + off = (tgt : Int))
    (kt : x < 0 → vv p l e R s m args below meth c D cl A nL cells slots Q (tgt) (lv) (rest) (ws)) (kf : ¬ x < 0 → vv p l e R s m args below meth c D cl A nL cells slots Q (pc + 3) (lv) (rest) (ws)) : vv p l e R s m args below meth c D cl A nL cells slots Q (pc) (lv) (.int x :: rest) (ws) :=
  fun H locs ls hl hP hD hS => lv_if_lt C.1 C.2.1 d ht (fun h => kt h H locs ls hl hP hD hS) (fun h => kf h H locs ls hl hP hD hS)
theorem r_icmp_lt (C : cx p s m args meth c D cl tys A G own cc nL) {x y : Int32} {off : Int} {tgt : Nat} (d : decode cc pc = .ok (.if_icmp .lt off, 3)) (ht : (pc : Int) + off = (tgt : Int))
    (kt : x < y → vv p l e R s m args below meth c D cl A nL cells slots Q (tgt) (lv) (rest) (ws)) (kf : ¬ x < y → vv p l e R s m args below meth c D cl A nL cells slots Q (pc + 3) (lv) (rest) (ws)) : vv p l e R s m args below meth c D cl A nL cells slots Q (pc) (lv) (.int y :: .int x :: rest) (ws) :=
  fun H locs ls hl hP hD hS => lv_icmp_lt C.1 C.2.1 d ht (fun h => kt h H locs ls hl hP hD hS) (fun h => kf h H locs ls hl hP hD hS)
theorem r_if_ge (C : cx p s m args meth c D cl tys A G own cc nL) {x : Int32} {off : Int} {tgt : Nat} (d : decode cc pc = .ok (.ifCond .ge off, 3)) (ht : (pc : Int) + off = (tgt : Int))
    (kt : 0 ≤ x → vv p l e R s m args below meth c D cl A nL cells slots Q (tgt) (lv) (rest) (ws)) (kf : ¬ 0 ≤ x → vv p l e R s m args below meth c D cl A nL cells slots Q (pc + 3) (lv) (rest) (ws)) : vv p l e R s m args below meth c D cl A nL cells slots Q (pc) (lv) (.int x :: rest) (ws) :=
  fun H locs ls hl hP hD hS => lv_if_ge C.1 C.2.1 d ht (fun h => kt h H locs ls hl hP hD hS) (fun h => kf h H locs ls hl hP hD hS)
theorem r_icmp_ge (C : cx p s m args meth c D cl tys A G own cc nL) {x y : Int32} {off : Int} {tgt : Nat} (d : decode cc pc = .ok (.if_icmp .ge off, 3)) (ht : (pc : Int) + off = (tgt : Int))
    (kt : y ≤ x → vv p l e R s m args below meth c D cl A nL cells slots Q (tgt) (lv) (rest) (ws)) (kf : ¬ y ≤ x → vv p l e R s m args below meth c D cl A nL cells slots Q (pc + 3) (lv) (rest) (ws)) : vv p l e R s m args below meth c D cl A nL cells slots Q (pc) (lv) (.int y :: .int x :: rest) (ws) :=
  fun H locs ls hl hP hD hS => lv_icmp_ge C.1 C.2.1 d ht (fun h => kt h H locs ls hl hP hD hS) (fun h => kf h H locs ls hl hP hD hS)
theorem r_if_gt (C : cx p s m args meth c D cl tys A G own cc nL) {x : Int32} {off : Int} {tgt : Nat} (d : decode cc pc = .ok (.ifCond .gt off, 3)) (ht : (pc : Int) + off = (tgt : Int))
    (kt : 0 < x → vv p l e R s m args below meth c D cl A nL cells slots Q (tgt) (lv) (rest) (ws)) (kf : ¬ 0 < x → vv p l e R s m args below meth c D cl A nL cells slots Q (pc + 3) (lv) (rest) (ws)) : vv p l e R s m args below meth c D cl A nL cells slots Q (pc) (lv) (.int x :: rest) (ws) :=
  fun H locs ls hl hP hD hS => lv_if_gt C.1 C.2.1 d ht (fun h => kt h H locs ls hl hP hD hS) (fun h => kf h H locs ls hl hP hD hS)
theorem r_icmp_gt (C : cx p s m args meth c D cl tys A G own cc nL) {x y : Int32} {off : Int} {tgt : Nat} (d : decode cc pc = .ok (.if_icmp .gt off, 3)) (ht : (pc : Int) + off = (tgt : Int))
    (kt : y < x → vv p l e R s m args below meth c D cl A nL cells slots Q (tgt) (lv) (rest) (ws)) (kf : ¬ y < x → vv p l e R s m args below meth c D cl A nL cells slots Q (pc + 3) (lv) (rest) (ws)) : vv p l e R s m args below meth c D cl A nL cells slots Q (pc) (lv) (.int y :: .int x :: rest) (ws) :=
  fun H locs ls hl hP hD hS => lv_icmp_gt C.1 C.2.1 d ht (fun h => kt h H locs ls hl hP hD hS) (fun h => kf h H locs ls hl hP hD hS)
theorem r_if_le (C : cx p s m args meth c D cl tys A G own cc nL) {x : Int32} {off : Int} {tgt : Nat} (d : decode cc pc = .ok (.ifCond .le off, 3)) (ht : (pc : Int) + off = (tgt : Int))
    (kt : x ≤ 0 → vv p l e R s m args below meth c D cl A nL cells slots Q (tgt) (lv) (rest) (ws)) (kf : ¬ x ≤ 0 → vv p l e R s m args below meth c D cl A nL cells slots Q (pc + 3) (lv) (rest) (ws)) : vv p l e R s m args below meth c D cl A nL cells slots Q (pc) (lv) (.int x :: rest) (ws) :=
  fun H locs ls hl hP hD hS => lv_if_le C.1 C.2.1 d ht (fun h => kt h H locs ls hl hP hD hS) (fun h => kf h H locs ls hl hP hD hS)
theorem r_icmp_le (C : cx p s m args meth c D cl tys A G own cc nL) {x y : Int32} {off : Int} {tgt : Nat} (d : decode cc pc = .ok (.if_icmp .le off, 3)) (ht : (pc : Int) + off = (tgt : Int))
    (kt : x ≤ y → vv p l e R s m args below meth c D cl A nL cells slots Q (tgt) (lv) (rest) (ws)) (kf : ¬ x ≤ y → vv p l e R s m args below meth c D cl A nL cells slots Q (pc + 3) (lv) (rest) (ws)) : vv p l e R s m args below meth c D cl A nL cells slots Q (pc) (lv) (.int y :: .int x :: rest) (ws) :=
  fun H locs ls hl hP hD hS => lv_icmp_le C.1 C.2.1 d ht (fun h => kt h H locs ls hl hP hD hS) (fun h => kf h H locs ls hl hP hD hS)
theorem r_goto (C : cx p s m args meth c D cl tys A G own cc nL) {off : Int} {tgt : Nat} (d : decode cc pc = .ok (.goto off, 3)) (ht : (pc : Int) + off = (tgt : Int))
    (k : vv p l e R s m args below meth c D cl A nL cells slots Q (tgt) (lv) (rest) (ws)) : vv p l e R s m args below meth c D cl A nL cells slots Q (pc) (lv) (rest) (ws) :=
  fun H locs ls hl hP hD hS => lv_goto C.1 C.2.1 d ht (k H locs ls hl hP hD hS)
theorem r_tableOut (C : cx p s m args meth c D cl tys A G own cc nL) {dflt lo hi : Int} {offs : Array Int} {len : Nat} {x : Int32} {tgt : Nat} (d : decode cc pc = .ok (.tableswitch dflt lo hi offs, len)) (h : x.toInt < lo ∨ hi < x.toInt) (ht : (pc : Int) + dflt = (tgt : Int))
    (k : vv p l e R s m args below meth c D cl A nL cells slots Q (tgt) (lv) (rest) (ws)) : vv p l e R s m args below meth c D cl A nL cells slots Q (pc) (lv) (.int x :: rest) (ws) :=
  fun H locs ls hl hP hD hS => lv_tableOut C.1 C.2.1 d h ht (k H locs ls hl hP hD hS)
theorem r_tableIn (C : cx p s m args meth c D cl tys A G own cc nL) {dflt lo hi : Int} {offs : Array Int} {len : Nat} {x : Int32} {off : Int} {tgt : Nat} (d : decode cc pc = .ok (.tableswitch dflt lo hi offs, len)) (h1 : ¬ x.toInt < lo) (h2 : ¬ hi < x.toInt) (ho : offs[(x.toInt - lo).toNat]? = some off) (ht : (pc : Int) + off = (tgt : Int))
    (k : vv p l e R s m args below meth c D cl A nL cells slots Q (tgt) (lv) (rest) (ws)) : vv p l e R s m args below meth c D cl A nL cells slots Q (pc) (lv) (.int x :: rest) (ws) :=
  fun H locs ls hl hP hD hS => lv_tableIn C.1 C.2.1 d h1 h2 ho ht (k H locs ls hl hP hD hS)
theorem r_lookup (C : cx p s m args meth c D cl tys A G own cc nL) {dflt : Int} {ps : Array (Int × Int)} {len : Nat} {x : Int32} {off : Int} {tgt : Nat} (d : decode cc pc = .ok (.lookupswitch dflt ps, len)) (hp : (ps.toList.zip (ps.toList.drop 1)).all (fun (a, next) => a.1 < next.1) = true) (ho : Op.lookupswitch.offset ps.toList dflt x.toInt = off) (ht : (pc : Int) + off = (tgt : Int))
    (k : vv p l e R s m args below meth c D cl A nL cells slots Q (tgt) (lv) (rest) (ws)) : vv p l e R s m args below meth c D cl A nL cells slots Q (pc) (lv) (.int x :: rest) (ws) :=
  fun H locs ls hl hP hD hS => lv_lookup C.1 C.2.1 d hp ho ht (k H locs ls hl hP hD hS)
theorem r_tcase (C : cx p s m args meth c D cl tys A G own cc nL) {dflt lo hi : Int} {offs : Array Int} {len : Nat} {x kc : Int32} {off : Int} {tgt : Nat} (d : decode cc pc = .ok (.tableswitch dflt lo hi offs, len)) (hx : x = kc) (h1 : ¬ kc.toInt < lo) (h2 : ¬ hi < kc.toInt) (ho : offs[(kc.toInt - lo).toNat]? = some off) (ht : (pc : Int) + off = (tgt : Int))
    (k : vv p l e R s m args below meth c D cl A nL cells slots Q (tgt) (lv) (rest) (ws)) : vv p l e R s m args below meth c D cl A nL cells slots Q (pc) (lv) (.int x :: rest) (ws) :=
  fun H locs ls hl hP hD hS => lv_tableIn C.1 C.2.1 d (by rw [hx]; exact h1) (by rw [hx]; exact h2) (by rw [hx]; exact ho) ht (k H locs ls hl hP hD hS)
theorem r_lcase (C : cx p s m args meth c D cl tys A G own cc nL) {dflt : Int} {ps : Array (Int × Int)} {len : Nat} {x kc : Int32} {off : Int} {tgt : Nat} (d : decode cc pc = .ok (.lookupswitch dflt ps, len)) (hx : x = kc) (hp : (ps.toList.zip (ps.toList.drop 1)).all (fun (a, next) => a.1 < next.1) = true) (ho : Op.lookupswitch.offset ps.toList dflt kc.toInt = off) (ht : (pc : Int) + off = (tgt : Int))
    (k : vv p l e R s m args below meth c D cl A nL cells slots Q (tgt) (lv) (rest) (ws)) : vv p l e R s m args below meth c D cl A nL cells slots Q (pc) (lv) (.int x :: rest) (ws) :=
  fun H locs ls hl hP hD hS => lv_lookup C.1 C.2.1 d hp (by rw [hx]; exact ho) ht (k H locs ls hl hP hD hS)
theorem r_get (C : cx p s m args meth c D cl tys A G own cc nL) {ref Cn : String} {T : u_T} {N ci index a : Nat} (hin : ∀ w ∈ u_ws Cn T N, w ∈ G) (q0 : Nat) {fs : List Value} (he : ws[q0]? = some (a, .inr (ci, fs))) (hc : cl[ci]? = some (Cn, T, N)) (j : Nat) (hj : j < N) (hl0 : Cond.fieldLink own index ref (T j).2.1 (T j).2.2.1 ∈ G) (hr : (T j).1 = ref) {v : Value} (hv : fs[j]? = some v) (d : decode cc pc = .ok (.getfield index, 3))
    (k : vv p l e R s m args below meth c D cl A nL cells slots Q (pc + 3) (lv) (v :: rest) (ws)) : vv p l e R s m args below meth c D cl A nL cells slots Q (pc) (lv) (.ref a :: rest) (ws) :=
  fun H locs ls hl hP hD hS => va_get C.1 C.2.1 C.2.2.2.2.1 hin C.2.2.2.1 C.2.2.2.2.2.1 hP q0 he hc j hj (C.2.2.2.2.1 _ hl0) (fun _ h => hr ▸ h) hv d (k H locs ls hl hP hD hS)
theorem r_put (C : cx p s m args meth c D cl tys A G own cc nL) {ref Cn : String} {T : u_T} {N ci index a : Nat} (hin : ∀ w ∈ u_ws Cn T N, w ∈ G) (ty0 : Nat → FieldType) (hty : ∀ k, k < N → parseFieldDescriptor (T k).2.2.1 = some (ty0 k)) (hnm : ∀ a, a < N → ∀ b, b < N → a ≠ b → (T a).2.1 ≠ (T b).2.1) (q0 : Nat) {fs : List Value} (he : ws[q0]? = some (a, .inr (ci, fs))) (hc : cl[ci]? = some (Cn, T, N)) (j : Nat) (hj : j < N) (hl0 : Cond.fieldLink own index ref (T j).2.1 (T j).2.2.1 ∈ G) (hr : (T j).1 = ref) (hfin : (T j).2.2.2 = false) {ty : FieldType} {v : Value} (hd : parseFieldDescriptor (T j).2.2.1 = some ty) (hn : narrow ty v = v) (hfit : fits ty v = true) (hlen : j < fs.length) {ws' : va_W} (hws : ws.set q0 (a, .inr (ci, fs.set j v)) = ws') (d : decode cc pc = .ok (.putfield index, 3))
    (k : vv p l e R s m args below meth c D cl A nL cells slots Q (pc + 3) (lv) (rest) (ws')) : vv p l e R s m args below meth c D cl A nL cells slots Q (pc) (lv) (v :: .ref a :: rest) (ws) :=
  fun H locs ls hl hP hD hS => va_put C.1 C.2.1 C.2.2.2.2.1 hin ty0 hty hnm C.2.2.2.1 C.2.2.2.2.2.1 hP hD hS q0 he hc j hj (C.2.2.2.2.1 _ hl0) (fun _ h => hr ▸ h) hfin hd hn hfit hlen d (fun H1 locs1 hP1 hD1 hS1 => k H1 locs1 ls hl (hws ▸ hP1) (hws ▸ hD1) hS1)
theorem r_putF (C : cx p s m args meth c D cl tys A G own cc nL) {ref Cn : String} {T : u_T} {N ci index a : Nat} (hin : ∀ w ∈ u_ws Cn T N, w ∈ G) (ty0 : Nat → FieldType) (hty : ∀ k, k < N → parseFieldDescriptor (T k).2.2.1 = some (ty0 k)) (hnm : ∀ a, a < N → ∀ b, b < N → a ≠ b → (T a).2.1 ≠ (T b).2.1) (q0 : Nat) {fs : List Value} (he : ws[q0]? = some (a, .inr (ci, fs))) (hc : cl[ci]? = some (Cn, T, N)) (j : Nat) (hj : j < N) (hl0 : Cond.fieldLink own index ref (T j).2.1 (T j).2.2.1 ∈ G) (hr : (T j).1 = ref) (hfin : (T j).2.2.2 = true) (hin2 : meth.name = "<init>") (hdecl : (T j).1 = own) {ty : FieldType} {v : Value} (hd : parseFieldDescriptor (T j).2.2.1 = some ty) (hn : narrow ty v = v) (hfit : fits ty v = true) (hlen : j < fs.length) {ws' : va_W} (hws : ws.set q0 (a, .inr (ci, fs.set j v)) = ws') (d : decode cc pc = .ok (.putfield index, 3))
    (k : vv p l e R s m args below meth c D cl A nL cells slots Q (pc + 3) (lv) (rest) (ws')) : vv p l e R s m args below meth c D cl A nL cells slots Q (pc) (lv) (v :: .ref a :: rest) (ws) :=
  fun H locs ls hl hP hD hS => va_putF C.1 C.2.1 C.2.2.2.2.1 hin ty0 hty hnm C.2.2.2.1 C.2.2.2.2.2.1 hP hD hS q0 he hc j hj (C.2.2.2.2.1 _ hl0) (fun _ h => hr ▸ h) hfin hin2 hdecl hd hn hfit hlen d (fun H1 locs1 hP1 hD1 hS1 => k H1 locs1 ls hl (hws ▸ hP1) (hws ▸ hD1) hS1)
theorem r_iald (C : cx p s m args meth c D cl tys A G own cc nL) (q0 t0 : Nat) {cA : ClassId} {n a : Nat} {f : Nat → Int32} (ha : ws[q0]? = some (a, .inl (cA, n, .inl f))) (ht : tys[t0]? = some (cA, .int)) {i : Int32} (hin : ¬ (i < 0 ∨ n ≤ i.toNatClampNeg)) (d : decode cc pc = .ok (.iaload, 1))
    (k : vv p l e R s m args below meth c D cl A nL cells slots Q (pc + 1) (lv) (.int (f i.toNatClampNeg) :: rest) (ws)) : vv p l e R s m args below meth c D cl A nL cells slots Q (pc) (lv) (.int i :: .ref a :: rest) (ws) :=
  fun H locs ls hl hP hD hS => va_iald C.1 C.2.1 C.2.2.2.2.2.1 hP q0 t0 ha ht hin d (k H locs ls hl hP hD hS)
theorem r_zald (C : cx p s m args meth c D cl tys A G own cc nL) (q0 t0 : Nat) {cA : ClassId} {n a : Nat} {f : Nat → Int32} (ha : ws[q0]? = some (a, .inl (cA, n, .inl f))) (ht : tys[t0]? = some (cA, .boolean)) {i : Int32} (hin : ¬ (i < 0 ∨ n ≤ i.toNatClampNeg)) (d : decode cc pc = .ok (.baload, 1))
    (k : vv p l e R s m args below meth c D cl A nL cells slots Q (pc + 1) (lv) (.int (f i.toNatClampNeg) :: rest) (ws)) : vv p l e R s m args below meth c D cl A nL cells slots Q (pc) (lv) (.int i :: .ref a :: rest) (ws) :=
  fun H locs ls hl hP hD hS => va_zald C.1 C.2.1 C.2.2.2.2.2.1 hP q0 t0 ha ht hin d (k H locs ls hl hP hD hS)
theorem r_bald (C : cx p s m args meth c D cl tys A G own cc nL) (q0 t0 : Nat) {cA : ClassId} {n a : Nat} {f : Nat → Int32} (ha : ws[q0]? = some (a, .inl (cA, n, .inl f))) (ht : tys[t0]? = some (cA, .byte)) {i : Int32} (hin : ¬ (i < 0 ∨ n ≤ i.toNatClampNeg)) (d : decode cc pc = .ok (.baload, 1))
    (k : vv p l e R s m args below meth c D cl A nL cells slots Q (pc + 1) (lv) (.int (f i.toNatClampNeg) :: rest) (ws)) : vv p l e R s m args below meth c D cl A nL cells slots Q (pc) (lv) (.int i :: .ref a :: rest) (ws) :=
  fun H locs ls hl hP hD hS => va_bald C.1 C.2.1 C.2.2.2.2.2.1 hP q0 t0 ha ht hin d (k H locs ls hl hP hD hS)
theorem r_lald (C : cx p s m args meth c D cl tys A G own cc nL) (q0 t0 : Nat) {cA : ClassId} {n a : Nat} {f : Nat → Int64} (ha : ws[q0]? = some (a, .inl (cA, n, .inr (.inl f)))) (ht : tys[t0]? = some (cA, .long)) {i : Int32} (hin : ¬ (i < 0 ∨ n ≤ i.toNatClampNeg)) (d : decode cc pc = .ok (.laload, 1))
    (k : vv p l e R s m args below meth c D cl A nL cells slots Q (pc + 1) (lv) (.long (f i.toNatClampNeg) :: rest) (ws)) : vv p l e R s m args below meth c D cl A nL cells slots Q (pc) (lv) (.int i :: .ref a :: rest) (ws) :=
  fun H locs ls hl hP hD hS => va_lald C.1 C.2.1 C.2.2.2.2.2.1 hP q0 t0 ha ht hin d (k H locs ls hl hP hD hS)
theorem r_iast (C : cx p s m args meth c D cl tys A G own cc nL) (q0 t0 : Nat) {cA : ClassId} {n a : Nat} {f : Nat → Int32} (ha : ws[q0]? = some (a, .inl (cA, n, .inl f))) (ht : tys[t0]? = some (cA, .int)) {i : Int32} {x : Int32} (hin : ¬ (i < 0 ∨ n ≤ i.toNatClampNeg)) {ws' : va_W} (hws : ws.set q0 (a, .inl (cA, n, .inl (upd f i.toNatClampNeg x))) = ws') (d : decode cc pc = .ok (.iastore, 1))
    (k : vv p l e R s m args below meth c D cl A nL cells slots Q (pc + 1) (lv) (rest) (ws')) : vv p l e R s m args below meth c D cl A nL cells slots Q (pc) (lv) (.int x :: .int i :: .ref a :: rest) (ws) :=
  fun H locs ls hl hP hD hS => va_iast C.1 C.2.1 C.2.2.2.2.2.1 hP hD hS q0 t0 ha ht hin d (fun H1 locs1 hP1 hD1 hS1 => k H1 locs1 ls hl (hws ▸ hP1) (hws ▸ hD1) hS1)
theorem r_zast (C : cx p s m args meth c D cl tys A G own cc nL) (q0 t0 : Nat) {cA : ClassId} {n a : Nat} {f : Nat → Int32} (ha : ws[q0]? = some (a, .inl (cA, n, .inl f))) (ht : tys[t0]? = some (cA, .boolean)) {i : Int32} {x : Int32} (hin : ¬ (i < 0 ∨ n ≤ i.toNatClampNeg)) {ws' : va_W} (hws : ws.set q0 (a, .inl (cA, n, .inl (upd f i.toNatClampNeg (vp_nar .boolean x)))) = ws') (d : decode cc pc = .ok (.bastore, 1))
    (k : vv p l e R s m args below meth c D cl A nL cells slots Q (pc + 1) (lv) (rest) (ws')) : vv p l e R s m args below meth c D cl A nL cells slots Q (pc) (lv) (.int x :: .int i :: .ref a :: rest) (ws) :=
  fun H locs ls hl hP hD hS => va_zast C.1 C.2.1 C.2.2.2.2.2.1 hP hD hS q0 t0 ha ht hin d (fun H1 locs1 hP1 hD1 hS1 => k H1 locs1 ls hl (hws ▸ hP1) (hws ▸ hD1) hS1)
theorem r_bast (C : cx p s m args meth c D cl tys A G own cc nL) (q0 t0 : Nat) {cA : ClassId} {n a : Nat} {f : Nat → Int32} (ha : ws[q0]? = some (a, .inl (cA, n, .inl f))) (ht : tys[t0]? = some (cA, .byte)) {i : Int32} {x : Int32} (hin : ¬ (i < 0 ∨ n ≤ i.toNatClampNeg)) {ws' : va_W} (hws : ws.set q0 (a, .inl (cA, n, .inl (upd f i.toNatClampNeg (vp_nar .byte x)))) = ws') (d : decode cc pc = .ok (.bastore, 1))
    (k : vv p l e R s m args below meth c D cl A nL cells slots Q (pc + 1) (lv) (rest) (ws')) : vv p l e R s m args below meth c D cl A nL cells slots Q (pc) (lv) (.int x :: .int i :: .ref a :: rest) (ws) :=
  fun H locs ls hl hP hD hS => va_bast C.1 C.2.1 C.2.2.2.2.2.1 hP hD hS q0 t0 ha ht hin d (fun H1 locs1 hP1 hD1 hS1 => k H1 locs1 ls hl (hws ▸ hP1) (hws ▸ hD1) hS1)
theorem r_last (C : cx p s m args meth c D cl tys A G own cc nL) (q0 t0 : Nat) {cA : ClassId} {n a : Nat} {f : Nat → Int64} (ha : ws[q0]? = some (a, .inl (cA, n, .inr (.inl f)))) (ht : tys[t0]? = some (cA, .long)) {i : Int32} {x : Int64} (hin : ¬ (i < 0 ∨ n ≤ i.toNatClampNeg)) {ws' : va_W} (hws : ws.set q0 (a, .inl (cA, n, .inr (.inl (vp_updL f i.toNatClampNeg x)))) = ws') (d : decode cc pc = .ok (.lastore, 1))
    (k : vv p l e R s m args below meth c D cl A nL cells slots Q (pc + 1) (lv) (rest) (ws')) : vv p l e R s m args below meth c D cl A nL cells slots Q (pc) (lv) (.long x :: .int i :: .ref a :: rest) (ws) :=
  fun H locs ls hl hP hD hS => va_last C.1 C.2.1 C.2.2.2.2.2.1 hP hD hS q0 t0 ha ht hin d (fun H1 locs1 hP1 hD1 hS1 => k H1 locs1 ls hl (hws ▸ hP1) (hws ▸ hD1) hS1)
theorem r_alen (C : cx p s m args meth c D cl tys A G own cc nL) (q0 t0 : Nat) {cA : ClassId} {a : Nat} {x : vp_A} (ha : ws[q0]? = some (a, .inl (cA, x))) {ty : FieldType} (ht : tys[t0]? = some (cA, ty)) {v : Int32} (hv : Int32.ofNat x.1 = v) (d : decode cc pc = .ok (.arraylength, 1))
    (k : vv p l e R s m args below meth c D cl A nL cells slots Q (pc + 1) (lv) (.int v :: rest) (ws)) : vv p l e R s m args below meth c D cl A nL cells slots Q (pc) (lv) (.ref a :: rest) (ws) :=
  fun H locs ls hl hP hD hS => va_alen C.1 C.2.1 C.2.2.2.2.2.1 hP q0 t0 ha ht hv d (k H locs ls hl hP hD hS)
theorem r_mmax (C : cx p s m args meth c D cl tys A G own cc nL) {index : Nat} (h1 : Cond.methodLink own index Lib.Math.max.name ∈ G) (h2 : Cond.static Lib.Math.max.name ∈ G) (h3 : Cond.initialized "java/lang/Math" ∈ G) (h4 : Cond.code Lib.Math.max.name Lib.Math.max.code 2 (some .int) ∈ G) (hR : 1 ≤ R.frames ∧ (rest.map fun v => v.category).sum + 13 ≤ R.locals ∧ cells ≤ R.cells ∧ slots ≤ R.slots) {x y : Int32} (d : decode cc pc = .ok (.invokestatic index, 3))
    (k : vv p l e R s m args below meth c D cl A nL cells slots Q (pc + 3) (lv) (.int (if x < y then y else x) :: rest) (ws)) : vv p l e R s m args below meth c D cl A nL cells slots Q (pc) (lv) (.int y :: .int x :: rest) (ws) :=
  fun H locs ls hl hP hD hS => va_mmax C.1 C.2.1 (C.2.2.1.trans hl.1.symm) C.2.2.2.1 (C.2.2.2.2.1 _ h1) (C.2.2.2.2.1 _ h2) (C.2.2.2.2.1 _ h3) (C.2.2.2.2.1 _ h4) hR.1 hR.2.1 hR.2.2.1 hR.2.2.2 d (k H locs ls hl hP hD hS)
theorem r_loc {lv' : List (Nat × Value)} (ks : List Nat) (h : lv_pick lv ks = lv') (k : vv p l e R s m args below meth c D cl A nL cells slots Q (pc) (lv') (rest) (ws)) : vv p l e R s m args below meth c D cl A nL cells slots Q (pc) (lv) (rest) (ws) :=
  fun H locs ls hl hP hD hS => k H locs ls (lv_sub hl ks h) hP hD hS
theorem r_ws {ws' : va_W} (h : ws = ws') (k : vv p l e R s m args below meth c D cl A nL cells slots Q (pc) (lv) (rest) (ws')) : vv p l e R s m args below meth c D cl A nL cells slots Q (pc) (lv) (rest) (ws) := h ▸ k
theorem r_sub {ws' : va_W} (is : List Nat) (h1 : is.filterMap (fun i => ws[i]?) = ws') (h2 : va_nd is = true) (h3 : is.map (fun i => ws[i]?) = ws'.map some) (k : vv p l e R s m args below meth c D cl A nL cells slots Q (pc) (lv) (rest) (ws')) : vv p l e R s m args below meth c D cl A nL cells slots Q (pc) (lv) (rest) (ws) :=
  fun H locs ls hl hP hD hS => k H locs ls hl (hP.sub is h1) (hD.sub is h2 h3) hS
theorem r_widen {k1 n1 : Nat} (h1 : cells ≤ k1) (h2 : slots ≤ n1) (k : vv p l e R s m args below meth c D cl A nL k1 n1 Q (pc) (lv) (rest) (ws)) : vv p l e R s m args below meth c D cl A nL cells slots Q (pc) (lv) (rest) (ws) :=
  fun H locs ls hl hP hD hS => W.widen h1 h2 (k H locs ls hl hP hD hS)
theorem r_new (C : cx p s m args meth c D cl tys A G own cc nL) {Cn : String} {T : u_T} {N ci index : Nat} (hin : ∀ w ∈ u_ws Cn T N, w ∈ G) (ty : Nat → FieldType) (hty : ∀ k, k < N → parseFieldDescriptor (T k).2.2.1 = some (ty k)) (hcl : Cond.classLink own index Cn ∈ G) (hinst : Cond.instantiable Cn N ∈ G) (hini : Cond.initialized Cn ∈ G) (hc : cl[ci]? = some (Cn, T, N)) {fs : List Value} (hfs : ∀ j, j < N → defaultValue (ty j) = vp_V fs j) (hcells : cells + 1 ≤ R.cells) (hslots : slots + N ≤ R.slots) (d : decode cc pc = .ok (.new index, 3))
    (k : ∀ q : Nat, vv p l e R s m args below meth c D cl A nL (cells + 1) (slots + N) Q (pc + 3) (lv) (.ref q :: rest) (ws ++ [(q, .inr (ci, fs))])) : vv p l e R s m args below meth c D cl A nL cells slots Q (pc) (lv) (rest) (ws) :=
  fun H locs ls hl hP hD hS => va_new C.1 C.2.1 C.2.2.2.2.1 hin ty hty C.2.2.2.1 (C.2.2.2.2.1 _ hcl) (C.2.2.2.2.1 _ hinst) (C.2.2.2.2.1 _ hini) C.2.2.2.2.2.1 hP hD hS C.2.2.2.2.2.2.1 hc hfs hcells hslots d (fun q H1 hP1 hD1 hS1 => k q H1 locs ls hl hP1 hD1 hS1)
theorem r_newa (C : cx p s m args meth c D cl tys A G own cc nL) {atype : ArrayType} {ty : FieldType} (harr : Cond.arrayClass (newarray.typeOf atype) ∈ G) (hty : newarray.typeOf atype = ty) (t0 : Nat) {cA : ClassId} (ht : tys[t0]? = some (cA, ty)) (hpr : ∀ (U : State) (q : ClassId), va_RA U q ty → U.vm.findClass ("[" ++ ty.toString) = some q)
    {n : Int32} {N' : Nat} {a0 : vp_A} (ha : ∀ q : ClassId, vp_cell q a0 = arrV q N' (fun _ => defaultValue ty)) (hn : ¬ n < 0) (hN : n.toNatClampNeg = N') (hbytes : N' * componentBytes ty ≤ 536870912) (hcells : cells + 1 ≤ R.cells) (hslots : slots + N' ≤ R.slots) (d : decode cc pc = .ok (.newarray atype, 2))
    (k : ∀ q : Nat, vv p l e R s m args below meth c D cl A nL (cells + 1) (slots + N') Q (pc + 2) (lv) (.ref q :: rest) (ws ++ [(q, .inl (cA, a0))])) : vv p l e R s m args below meth c D cl A nL cells slots Q (pc) (lv) (.int n :: rest) (ws) := by
  intro H locs ls hl hP hD hS
  subst hty
  have hK := C.2.2.2.2.2.1
  refine va_newaK C.1 C.2.1 (C.2.2.2.2.1 _ harr) rfl d rfl hn hN hbytes hcells hslots rfl fun H1 cA1 e1 z1 o1 hAr hNm => ?_
  have hcA : cA1 = cA := Option.some.inj (hNm.symm.trans (hpr _ _ (hK.2 t0 _ ht).2))
  subst hcA
  have hk : ∀ (j : Nat) (x : Nat × va_E), ws[j]? = some x → H1[x.1]? = H[x.1]? := fun j x hx => o1 x.1 ((hP j x hx).lt)
  refine k H.size H1 locs ls hl ((hP.kept hk).app (fun j x hx => ?_)) (hD.push hP rfl (C.2.2.2.2.2.2.1 _ hS.1)) ⟨Nat.le_trans hS.1 (by omega), fun x h1 h2 => (o1 x (Nat.lt_of_lt_of_le h1 hS.1)).trans (hS.2.1 x h1 h2), hS.2.2⟩
  have hz : j < 1 := (List.getElem?_eq_some_iff.mp hx).1
  rw [show j = 0 by omega] at hx
  cases hx
  show H1[H.size]? = some (vp_cell _ _)
  rw [ha]
  exact e1
theorem r_objInit (C : cx p s m args meth c D cl tys A G own cc nL) {index a : Nat} (h1 : Cond.methodLink own index Lib.objectInit ∈ G) (h2 : Cond.instanceMethod Lib.objectInit ∈ G) (h3 : Cond.code Lib.objectInit ⟨#[0xb1]⟩ 1 none ∈ G) (hR : 1 ≤ R.frames ∧ (rest.map fun v => v.category).sum + 12 ≤ R.locals) (d : decode cc pc = .ok (.invokespecial index, 3))
    (k : vv p l e R s m args below meth c D cl A nL cells slots Q (pc + 3) (lv) (rest) (ws)) : vv p l e R s m args below meth c D cl A nL cells slots Q (pc) (lv) (.ref a :: rest) (ws) :=
  fun H locs ls hl hP hD hS => W.objInit C.1 C.2.1 C.2.2.2.1 (C.2.2.2.2.1 _ h1) (C.2.2.2.2.1 _ h2) (C.2.2.2.2.1 _ h3) rfl (hl.1.trans C.2.2.1.symm) rfl d hR.1 (by show 2 * 0 + _ + 12 ≤ _; have := hR.2; omega) (W.eq (g2 := F0 m (pc + 3) ls rest) rfl (k H locs ls hl hP hD hS))
theorem pcI_blind {as : List Value} (hE : stb A E) : FrameBlind (pcI E D cl tys A as ws) := fun a U g mk q => by
  obtain ⟨h0, h1, h2, h3, h4, h5⟩ := q
  exact ⟨h0, h1, h2, va_K.moved (u := U) (U := U.calling g mk a) (Vm.Alike.refl U.vm) h3, h4, hE U (U.calling g mk a) U.heap (State.WarmedH.refl U) (Nat.le_refl _) (fun _ _ _ => rfl) h5⟩
theorem pcI_at {as : List Value} {H : Heap} {locs : List Loc} (hE : stb A E) (C : cx p s m args meth c D cl tys A G own cc nL) (hX : E s s.heap) (hP : va_P D cl ws H) (hD : va_D A ws) (hS : va_S A s.heap H locs) (U : State) (hU : U.heap = H) (hW : s.WarmedH U.vm) : pcI E D cl tys A as ws as.toArray U := by
  subst hU
  exact ⟨rfl, hP, hD, va_K.moved hW.alike C.2.2.2.2.2.1, fun q h => C.2.2.2.2.2.2.1 q (Nat.le_trans hS.1 h), hE s U U.heap hW hS.1 hS.2.1 hX⟩
theorem good_tab {y : MethodName} {bytes : ByteArray} {maxL : Nat} {ret : Option FieldType} (hg : ∀ w ∈ G, goodWord w = true) (hc : Cond.code y bytes maxL ret ∈ G) : GoodIn G (Cond.code y bytes maxL ret :: G) := fun w hw => by
  rcases List.mem_cons.mp hw with rfl | h
  · exact ⟨hc, good_of_word (hg _ hc)⟩
  · exact ⟨h, good_of_word (hg _ h)⟩
theorem r_after {H : Heap} {locs : List Loc} {rm : Room} {r : Option Value} {ws' : va_W} {a : Array Value} {st0 st1 : List Value} (hst : r.toList ++ rest = st1) {ls : Array Slot} (hl : lv_has ls nL lv) (hS : va_S A s.heap H locs)
    (hr : va_Run p l e R s m args below meth c H locs cells slots rm.cells rm.slots (F0 m pc ls st0) rest (qcI D cl A r ws' a) A)
    (k : vv p l e R s m args below meth c D cl A nL (cells + rm.cells) (slots + rm.slots) Q (pc + 3) (lv) (st1) (ws')) : W p l e R s m args below meth c H locs cells slots Q (F0 m pc ls st0) := by
  intro T hT X
  obtain ⟨v, st₀, t, T', L, h0, X', hL, e1, e2, ⟨⟨ho, hP', hD'⟩, hz, hk⟩, st⟩ := hr T hT X
  cases ho
  subst hst
  rw [h0] at hz hk
  obtain ⟨t2, a1, b1⟩ := k T'.heap (locs ++ L) ls hl (by rw [e1]; exact hP') hD'
    ⟨Nat.le_trans hS.1 (by rw [e1]; exact hz), fun q h1 h2 => by rw [e1, hk q (Nat.lt_of_lt_of_le h1 hS.1) h2]; exact hS.2.1 q h1 h2, fun q hq => by
      rcases List.mem_append.mp hq with h | h
      · exact hS.2.2 q h
      · exact hL q h⟩ T' rfl X'
  exact ⟨t2, st t2 a1, b1⟩
theorem r_callV (hE : stb A E) (hg : ∀ w ∈ G, goodWord w = true) (C : cx p s m args meth c D cl tys A G own cc nL) (hX : E s s.heap) {y : MethodName} {bytes : ByteArray} {maxL index b : Nat} {ret : Option FieldType} {rm : Room} {As : List Value} {r : Option Value} {ws' : va_W} (hM : cm l E D cl tys A G y bytes maxL ret rm (.ref b :: As) ws r ws')
    (h1 : Cond.methodLink own index y ∈ G) (h2 : Cond.instanceMethod y ∈ G) (h3 : Cond.selects y.cls y y ∈ G) (h4 : Cond.initialized y.cls ∈ G) (h5 : Cond.code y bytes maxL ret ∈ G)
    (hd : y.cls ≠ "java/lang/invoke/MethodHandle" ∧ y.cls ≠ "java/lang/invoke/VarHandle" ∧ (parseMethodDescriptor y.desc).map (fun d => d.parameters.length) = some As.length)
    (q0 : Nat) {ci N : Nat} {fs : List Value} {T : u_T} (he : ws[q0]? = some (b, .inr (ci, fs))) (hcl : cl[ci]? = some (y.cls, T, N))
    (hR : (rm.frames + 1 ≤ R.frames ∧ 8 + (maxL + 11) + rm.locals ≤ R.locals) ∧ cells + rm.cells ≤ R.cells ∧ slots + rm.slots ≤ R.slots) (hsum : (rest.map fun v => v.category).sum ≤ 8)
    {st0 st1 : List Value} (hst0 : st0 = As.reverse ++ .ref b :: rest) (hst1 : r.toList ++ rest = st1) (d : decode cc pc = .ok (.invokevirtual index, 3))
    (k : vv p l e R s m args below meth c D cl A nL (cells + rm.cells) (slots + rm.slots) Q (pc + 3) (lv) (st1) (ws')) : vv p l e R s m args below meth c D cl A nL cells slots Q (pc) (lv) (st0) (ws) := by
  intro H locs ls hl hP hD hS
  refine r_after hst1 hl hS (va_runV (As := As) (rest := rest) ⟨C.1, C.2.1, C.2.2.1, C.2.2.2.1, C.2.2.2.2.1⟩ hM ⟨callB_of As.length C.2.2.2.2.1 (good_tab hg h5) rfl rfl rfl (C.2.2.2.2.1 _ h4) (C.2.2.2.2.1 _ h1) hd hR.1, C.2.2.2.2.1 _ h2, C.2.2.2.2.1 _ h3⟩ ⟨pcI_blind hE, ?_, fun U hU hW => pcI_at hE C hX hP hD hS U hU hW⟩ rfl rfl hl.1 hst0 (lv_room hsum) d hR.2) k
  exact va_recv C.2.2.2.2.2.1 hP hcl he
theorem r_callS (hE : stb A E) (hg : ∀ w ∈ G, goodWord w = true) (C : cx p s m args meth c D cl tys A G own cc nL) (hX : E s s.heap) {y : MethodName} {bytes : ByteArray} {maxL index : Nat} {ret : Option FieldType} {rm : Room} {As : List Value} {r : Option Value} {ws' : va_W} (hM : cm l E D cl tys A G y bytes maxL ret rm As ws r ws')
    (h1 : Cond.methodLink own index y ∈ G) (h2 : Cond.static y ∈ G) (h4 : Cond.initialized y.cls ∈ G) (h5 : Cond.code y bytes maxL ret ∈ G)
    (hd : y.cls ≠ "java/lang/invoke/MethodHandle" ∧ y.cls ≠ "java/lang/invoke/VarHandle" ∧ (parseMethodDescriptor y.desc).map (fun d => d.parameters.length) = some As.length)
    (hR : (rm.frames + 1 ≤ R.frames ∧ 8 + (maxL + 11) + rm.locals ≤ R.locals) ∧ cells + rm.cells ≤ R.cells ∧ slots + rm.slots ≤ R.slots) (hsum : (rest.map fun v => v.category).sum ≤ 8)
    {st0 st1 : List Value} (hst0 : st0 = As.reverse ++ rest) (hst1 : r.toList ++ rest = st1) (d : decode cc pc = .ok (.invokestatic index, 3))
    (k : vv p l e R s m args below meth c D cl A nL (cells + rm.cells) (slots + rm.slots) Q (pc + 3) (lv) (st1) (ws')) : vv p l e R s m args below meth c D cl A nL cells slots Q (pc) (lv) (st0) (ws) := by
  intro H locs ls hl hP hD hS
  exact r_after hst1 hl hS (va_runS (As := As) (rest := rest) ⟨C.1, C.2.1, C.2.2.1, C.2.2.2.1, C.2.2.2.2.1⟩ hM ⟨callB_of As.length C.2.2.2.2.1 (good_tab hg h5) rfl rfl rfl (C.2.2.2.2.1 _ h4) (C.2.2.2.2.1 _ h1) hd hR.1, C.2.2.2.2.1 _ h2⟩ ⟨pcI_blind hE, fun U hU hW => pcI_at hE C hX hP hD hS U hU hW⟩ rfl rfl hl.1 hst0 (lv_room hsum) d hR.2) k
theorem r_callI (hE : stb A E) (hg : ∀ w ∈ G, goodWord w = true) (C : cx p s m args meth c D cl tys A G own cc nL) (hX : E s s.heap) {y : MethodName} {bytes : ByteArray} {maxL index b : Nat} {rm : Room} {As : List Value} {ws' : va_W} (hM : cm l E D cl tys A G y bytes maxL none rm (.ref b :: As) ws none ws') (hnm : y.name = "<init>")
    (h1 : Cond.methodLink own index y ∈ G) (h2 : Cond.instanceMethod y ∈ G) (h4 : Cond.initialized y.cls ∈ G) (h5 : Cond.code y bytes maxL none ∈ G)
    (hd : y.cls ≠ "java/lang/invoke/MethodHandle" ∧ y.cls ≠ "java/lang/invoke/VarHandle" ∧ (parseMethodDescriptor y.desc).map (fun d => d.parameters.length) = some As.length)
    (hR : (rm.frames + 1 ≤ R.frames ∧ 8 + (maxL + 11) + rm.locals ≤ R.locals) ∧ cells + rm.cells ≤ R.cells ∧ slots + rm.slots ≤ R.slots) (hsum : (rest.map fun v => v.category).sum ≤ 8)
    {st0 : List Value} (hst0 : st0 = As.reverse ++ .ref b :: rest) (d : decode cc pc = .ok (.invokespecial index, 3))
    (k : vv p l e R s m args below meth c D cl A nL (cells + rm.cells) (slots + rm.slots) Q (pc + 3) (lv) (rest) (ws')) : vv p l e R s m args below meth c D cl A nL cells slots Q (pc) (lv) (st0) (ws) := by
  intro H locs ls hl hP hD hS
  exact r_after (r := none) rfl hl hS (va_runI (As := As) (rest := rest) ⟨C.1, C.2.1, C.2.2.1, C.2.2.2.1, C.2.2.2.2.1⟩ hM ⟨callB_of As.length C.2.2.2.2.1 (good_tab hg h5) rfl rfl rfl (C.2.2.2.2.1 _ h4) (C.2.2.2.2.1 _ h1) hd hR.1, hnm, C.2.2.2.2.1 _ h2⟩ ⟨pcI_blind hE, fun U hU hW => pcI_at hE C hX hP hD hS U hU hW⟩ rfl rfl hl.1 hst0 (lv_room hsum) d hR.2) k
/-- the ends -/
theorem r_iret (C : cx p s m args meth c D cl tys A G own cc nL) {r : Option Value} {ws' : va_W} {v : Int32} {ty : FieldType} (hr : meth.sig.returnType = some ty) (hn : narrow ty (.int v) = .int v) (hv : r = some (.int v)) (hws : ws' = ws) (d : decode cc pc = .ok (.ireturn, 1)) : vv p l e R s m args below meth c D cl A nL cells slots (MQ below (qcI D cl A r ws') args s cells slots A) (pc) (lv) ([.int v]) (ws) := by
  intro H locs ls hl hP hD hS
  subst hv; subst hws
  exact W.zret C.1 C.2.1 hr hn (fun t ht hW => ⟨⟨rfl, by rw [ht]; exact hP, hD⟩, hS.F ht⟩) hS.2.2 d C.2.2.2.2.2.2.2
theorem r_vret (C : cx p s m args meth c D cl tys A G own cc nL) {r : Option Value} {ws' : va_W} (hr : meth.sig.returnType = none) (hv : r = none) (hws : ws' = ws) (d : decode cc pc = .ok (.return_, 1)) : vv p l e R s m args below meth c D cl A nL cells slots (MQ below (qcI D cl A r ws') args s cells slots A) (pc) (lv) ([]) (ws) := by
  intro H locs ls hl hP hD hS
  subst hv; subst hws
  exact W.vret C.1 C.2.1 hr (fun t ht hW => ⟨⟨rfl, by rw [ht]; exact hP, hD⟩, hS.F ht⟩) hS.2.2 d C.2.2.2.2.2.2.2
end RW
theorem r_met {l : Launch} {E : State → Heap → Prop} {D : va_G} {cl : List vw_C} {tys : List (ClassId × FieldType)} {A : Nat → Prop} {G : List Cond} {y : MethodName} {bytes : ByteArray} {maxL : Nat} {ret : Option FieldType} {rm : Room} {as : List Value} {ws : va_W} {r : Option Value} {ws' : va_W}
    {own : String} (ho : y.cls = own) (hy : plainName own = true) (hlen : (lg_sl as).length ≤ maxL) {lv : List (Nat × Value)} (hlv : lv_args 0 as = lv)
    (body : ∀ (p : Program) (e : Env) (s : State) (m : MethodId) (args : Array Value) (below : List Frame) (meth : Method) (c : Code), cx p s m args meth c D cl tys A G own bytes maxL → meth.sig.returnType = ret → meth.name = y.name → E s s.heap →
      vv p l e rm s m args below meth c D cl A maxL 0 0 (MQ below (qcI D cl A r ws') args s rm.cells rm.slots A) 0 lv [] ws) : cm l E D cl tys A G y bytes maxL ret rm as ws r ws' := by
  subst hlv; subst ho
  refine Met.ofW (cc := bytes) (maxL := maxL) (ret := ret) hy rfl ?_
  intro p e s m args below meth c s₁ B hml hv
  obtain ⟨rfl, hP, hD, hK, hA, hX⟩ := hv
  have hts := atoms_spec (ws := Cond.code y bytes maxL ret :: G) B.pre
  rw [lg_entry_eq]
  exact body p e s m _ below meth c ⟨B.exec, B.bytes, hml, findClass_of_methodNamed B.named, fun w h => hts w (List.mem_cons_of_mem _ h), hK, hA, B.notSynchronized⟩ B.returns (name_of_methodNamed B.named B.method).1 hX _ [] _ (lv_entry as hlen) hP hD va_S.rf
