def lw_Q (_ : Array Value) (s : State) (o : Outcome) (t : State) : Prop := o = .returned (some (.int 1)) ∧ Framed s o t [] 1067 9128
def lw_Z (below : List Frame) (a : Array Value) (s : State) : State → Prop := fun t => ∃ o, t.status = .running ∧ Ended t below o ∧ lw_Q a s o t
theorem X_lat {b L : Nat} {xs : Nat → Int32} {u0 U : State} {H : Heap} (h : lat u0 U H) (hb : b < u0.heap.size) (hX : va_X b L xs u0 u0.heap) : va_X b L xs U H := by
  obtain ⟨scr, h1, h2, h3⟩ := hX
  exact ⟨scr, by rw [h.2.2 b hb]; exact h1, State.isArrayOf_alike h.1.alike h2, h3⟩
section RL
variable {p : Program} {l : Launch} {e : Env} {R : Room} {s : State} {m : MethodId} {args : Array Value} {below : List Frame} {meth : Method} {c : Code} {cells slots : Nat} {Q : State → Prop}
variable {D : va_G} {cl : List vw_C} {tys : List (ClassId × FieldType)} {A : Nat → Prop} {G : List Cond} {E : State → Heap → Prop} {own : String} {cc : ByteArray} {nL pc : Nat} {lv : List (Nat × Value)} {rest : List Value} {ws : va_W}
theorem r_lcmp (C : cx p s m args meth c D cl tys A G own cc nL) {x y : Int64} (d : decode cc pc = .ok (.lcmp, 1))
    (k : vv p l e R s m args below meth c D cl A nL cells slots Q (pc + 1) (lv) (.int (lg_cmp x y) :: rest) (ws)) : vv p l e R s m args below meth c D cl A nL cells slots Q (pc) (lv) (.long y :: .long x :: rest) (ws) :=
  fun H locs ls hl hP hD hS => W.lcmp C.1 C.2.1 d (k H locs ls hl hP hD hS)
theorem r_sld (C : cx p s m args meth c D cl tys A G own cc nL) {b L : Nat} {xs : Nat → Int32} (hX : va_X b L xs s s.heap) (hbl : b < s.heap.size) (hbA : ¬ A b) {i : Int32} (hin : ¬ (i < 0 ∨ L ≤ i.toNatClampNeg)) (d : decode cc pc = .ok (.iaload, 1))
    (k : vv p l e R s m args below meth c D cl A nL cells slots Q (pc + 1) (lv) (.int (xs i.toNatClampNeg) :: rest) (ws)) : vv p l e R s m args below meth c D cl A nL cells slots Q (pc) (lv) (.int i :: .ref b :: rest) (ws) :=
  fun H locs ls hl hP hD hS => va_sld C.1 C.2.1 hX hbl hbA hS hin d (k H locs ls hl hP hD hS)
theorem r_slen (C : cx p s m args meth c D cl tys A G own cc nL) {b L : Nat} {xs : Nat → Int32} (hX : va_X b L xs s s.heap) (hbl : b < s.heap.size) (hbA : ¬ A b) (d : decode cc pc = .ok (.arraylength, 1))
    (k : vv p l e R s m args below meth c D cl A nL cells slots Q (pc + 1) (lv) (.int (Int32.ofNat L) :: rest) (ws)) : vv p l e R s m args below meth c D cl A nL cells slots Q (pc) (lv) (.ref b :: rest) (ws) :=
  fun H locs ls hl hP hD hS => va_slen C.1 C.2.1 hX hbl hbA hS d (k H locs ls hl hP hD hS)
/-- the law's end -/
theorem r_lend (C : cx p s m args meth c D cl tys A G own cc nL) (hA0 : ∀ q, A q → s.heap.size ≤ q) (hr : meth.sig.returnType = ret) (hc : cells ≤ 1067) (hs : slots ≤ 9128) (d : decode cc pc = .ok (.ireturn, 1)) : vv p l e R s m args below meth c D cl A nL cells slots (lw_Z below args s) (pc) (lv) ([.int 1]) (ws) := by
  intro H locs ls hl hP hD hS T hT X
  obtain ⟨fs, hret, hrun, hended, hW, hframe⟩ := X.leave (v := some (.int 1)) (hlocks := C.2.2.2.2.2.2.2) (fun h => by rw [hr] at h; cases h)
  have hmeth' : T.vm.method? m = some meth := X.method'
  have hx := C.1
  have hb := C.2.1
  refine ⟨T.setFrames fs, ?_, .returned (some (.int 1)), hrun, hended, rfl, ⟨_, rfl⟩, hW, hframe.weaken (fun y hy hy2 => absurd hy2 (Nat.not_lt.mpr (hA0 _ (hS.2.2 y hy)))) hc hs⟩
  jvm_step X.here [X.here.top, hx, hb, d, hmeth', hr, ret, narrow_b1]
  (try refine ⟨rfl, ?_⟩); (try refine ⟨rfl, ?_⟩)
  first | (intro acts; rw [hret _ acts rfl rfl rfl]) | rw [hret _ _ rfl rfl rfl]
  exact Steps.refl _
end RL
