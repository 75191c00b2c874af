/-- one row of a table, its class linked or not yet -/
theorem row_ask {Q : Handler → Pre} {E9 : CtlPost} {e : Env} {dd : Bool} {acts : List Action} {u : State} {f : JFrame} {a : Addr} {x : ExceptionTableEntry} {t : List ExceptionTableEntry} {k : ClassId} {cell : Cell} (hx : covers x f.pc = true) (h0 : x.catchType ≠ 0)
    (hl : u.vm.ClassLinks e.platform f.method.cls x.catchType k) (hcell : u.heap[a]? = some cell) (hobj : ∀ k, cell.vm ≠ .statics k) (h1 : ∃ z, u.vm.classes[cell.cls]? = some z) (h2 : ∃ z, u.vm.classes[k]? = some z) :
    wp (findHandler.go f a (x :: t)) Q E9 e dd acts u ↔ if u.vm.assignable cell.cls k = true then Q (.found x.handlerPc) dd acts (u.setVm (u.vm.noted f.method.cls x.catchType (.cls k))) else wp (findHandler.go f a t) Q E9 e dd acts (u.setVm (u.vm.noted f.method.cls x.catchType (.cls k))) := by
  have hl1 : u.vm.Alike (u.vm.noted f.method.cls x.catchType (.cls k)) := (Vm.Alike.refl u.vm).noted _ _ _
  obtain ⟨z1, hz1⟩ := h1
  obtain ⟨z2, hz2⟩ := h2
  obtain ⟨y1, hy1, -⟩ := hl1.2.2 _ _ hz1
  obtain ⟨y2, hy2, -⟩ := hl1.2.2 _ _ hz2
  obtain ⟨hans, htab⟩ := (resolveClass_links e.toSetting hl).op (op := VmOp.resolveClass f.method.cls x.catchType) rfl
  have has := hl1.assignable cell.cls k
  simp only [covers] at hx
  cases hf : u.vm.assignable cell.cls k <;> rw [hf] at has <;> simp [findHandler.go, hx, h0, hans, htab, hcell, hobj, hy1, hy2, has, VmOp.dirties, VmOp.acts]
theorem caught_go {p : Program} {l : Launch} {e : Env} {R : Room} {s : State} {m : MethodId} {args : Array Value} {below : List Frame} {meth : Method} {c : Code} {cells slots : Nat} {T target : State} {locs : List Loc} {x : Addr} {pc tgt : Nat} {ls : Array Slot} {st : List Value} {vm1 : Vm} (X : Stand p l e R s m args below meth c T locs cells slots)
    (hfind : ∀ (Q : Handler → Pre) (E9 : CtlPost) (dd : Bool) (acts : List Action), wp (findHandler (F0 m pc ls st) x) Q E9 e dd acts ((T.setTop (F0 m pc ls st)).pushFrame (.throwing x)) ↔ Q (.found tgt) dd acts (((T.setTop (F0 m pc ls st)).pushFrame (.throwing x)).setVm vm1))
    (hrest : Steps p.tables e below ((T.setVm vm1).setTop (F0 m tgt ls [.ref x])) target) : Steps p.tables e below ((T.setTop (F0 m pc ls st)).pushFrame (.throwing x)) target := by
  have hat : At T (F0 m pc ls st).method c below := X.here
  obtain ⟨hgo, hw⟩ := hat.throwing x
  obtain ⟨g0, hg0⟩ := X.frames_eq
  have key : (stepThread p.tables e ((T.setTop (F0 m pc ls st)).pushFrame (.throwing x))).1 = (T.setVm vm1).setTop (F0 m tgt ls [.ref x]) := by
    rw [stepThread_throwing (frames_entered hat.top _)]
    simp only [stepThrowing, searchFrame, vmDo]
    generalize hres : Sem.go _ e false [] ((T.setTop (F0 m pc ls st)).pushFrame (.throwing x)) = res
    obtain ⟨as, rfl, -⟩ := Sem.eq_ok_of hres (a := Handler.found tgt) (s' := ((T.setTop (F0 m pc ls st)).pushFrame (.throwing x)).setVm vm1) (acts' := []) (by simp [hfind _ _ _ _])
    show (((T.setTop (F0 m pc ls st)).pushFrame (.throwing x)).setVm vm1).setFrames (.java (F0 m tgt ls [.ref x]) :: T.frames.tail) = (T.setVm vm1).setTop (F0 m tgt ls [.ref x])
    have hg1 : (T.setVm vm1).frames = .java g0 :: below := hg0
    have e1 : ((T.setTop (F0 m pc ls st)).pushFrame (.throwing x)).setVm vm1 = ((T.setVm vm1).setTop (F0 m pc ls st)).pushFrame (.throwing x) := by
      rw [State.setTop_of_frames _ hg0, State.setTop_of_frames _ hg1, State.pushFrame, State.pushFrame]
      rfl
    rw [e1, State.pushFrame, State.setFrames_setFrames, State.setTop_of_frames _ hg1, State.setTop_of_frames _ hg1, State.setFrames_setFrames, hg0]
    rfl
  refine Steps.head hgo hw ?_
  rw [key]
  exact hrest
section RC
variable {p : Program} {l : Launch} {e : Env} {R : Room} {s : State} {m : MethodId} {args : Array Value} {below : List Frame} {meth : Method} {c : Code} {cells slots : Nat} {Q : State → Prop}
variable {D : va_G} {cl : List vw_C} {tys : List (ClassId × FieldType)} {A : Nat → Prop} {G : List Cond} {E : State → Heap → Prop} {own : String} {cc : ByteArray} {nL pc : Nat} {lv : List (Nat × Value)} {rest : List Value} {ws : va_W}
/-- caught by the only row that is asked -/
theorem r_catch1 {E1 : String} (C : cx p s m args meth c D cl tys A G own cc nL) {x : ExceptionTableEntry} {suf : List ExceptionTableEntry} {nm : String} (htab : c.exceptionTable.toList = x :: suf) (hx : covers x pc = true) (h0 : x.catchType ≠ 0) (hlink : Cond.classLink own x.catchType nm ∈ G) (hcast : va_Nw (.castable E1 nm) s)
    (k : ∀ q9 : Nat, vv p l e R s m args below meth c D cl A nL cells slots Q (x.handlerPc) (lv) ([.ref q9]) (ws)) : vvx p l e R s m args below meth c D cl A nL cells slots Q (pc) (lv) (rest) (ws) E1 := by
  intro T locs ls q9 ce hl hP hD hS h1 h2 h3 X
  have hpl : e.platform.magicAccessors = ({} : Platform).magicAccessors := by rw [X.admits.platform]
  obtain ⟨c3, c4, hc3, hc4, hasg⟩ := Cond.castable_spec hcast
  cases Option.some.inj (hc3.symm.trans h3)
  obtain ⟨c5, hc5, hcl5⟩ := Cond.classLink_spec C.2.2.2.1 (C.2.2.2.2.1 _ hlink) e.platform hpl
  cases Option.some.inj (hc4.symm.trans hc5)
  obtain ⟨dk, _, _, kt, hd, _, _, _, _, hkt, _, hop⟩ := hcl5.here
  have hW1 : s.WarmedH (T.vm.noted m.cls x.catchType (.cls c4)) := X.warmed.noted hd hop (State.rightAt_cls hcl5)
  obtain ⟨kE, hkE, -⟩ := Vm.findClass_spec h3
  obtain ⟨k1, hk1, -⟩ := X.warmed.alike.2.2 _ _ hkE
  obtain ⟨k2, hk2, -⟩ := X.warmed.alike.2.2 _ _ hkt
  have hvm : ((T.setTop (F0 m pc ls rest)).pushFrame (.throwing q9)).vm = T.vm := Stand.throwing_vm _ _ _
  have hhp : ((T.setTop (F0 m pc ls rest)).pushFrame (.throwing q9)).heap = T.heap := Stand.throwing_heap _ _ _
  obtain ⟨t, g1, g2⟩ := k q9 T.heap locs ls hl hP hD hS (T.setVm (T.vm.noted m.cls x.catchType (.cls c4))) rfl (X.noted hW1)
  refine ⟨t, caught_go X (vm1 := T.vm.noted m.cls x.catchType (.cls c4)) (fun Q E9 dd acts => ?_) g1, g2⟩
  rw [W.findHandler_eq (meth := meth) (code := c) (by rw [hvm]; exact X.method') X.code, htab,
    row_ask (k := c4) (cell := ce) hx h0 (by rw [hvm]; exact X.warmed.classLinks hcl5) (by rw [hhp]; exact h1) (fun z hz => by rw [h2] at hz; cases hz) ⟨k1, by rw [hvm]; exact hk1⟩ ⟨k2, by rw [hvm]; exact hk2⟩,
    if_pos (by rw [hvm, X.warmed.alike.assignable]; exact hasg), hvm]
/-- the first row is asked and doesn't take it, the second does -/
theorem r_catch2 {E1 : String} (C : cx p s m args meth c D cl tys A G own cc nL) {x y : ExceptionTableEntry} {suf : List ExceptionTableEntry} {nm n1 : String} (htab : c.exceptionTable.toList = y :: x :: suf) (hy : covers y pc = true) (hy0 : y.catchType ≠ 0) (hylink : Cond.classLink own y.catchType n1 ∈ G) (hno : va_Nc E1 n1 s)
    (hx : covers x pc = true) (h0 : x.catchType ≠ 0) (hlink : Cond.classLink own x.catchType nm ∈ G) (hcast : va_Nw (.castable E1 nm) s)
    (k : ∀ q9 : Nat, vv p l e R s m args below meth c D cl A nL cells slots Q (x.handlerPc) (lv) ([.ref q9]) (ws)) : vvx p l e R s m args below meth c D cl A nL cells slots Q (pc) (lv) (rest) (ws) E1 := by
  intro T locs ls q9 ce hl hP hD hS h1 h2 h3 X
  have hpl : e.platform.magicAccessors = ({} : Platform).magicAccessors := by rw [X.admits.platform]
  obtain ⟨c3, c4, hc3, hc4, hasg⟩ := Cond.castable_spec hcast
  cases Option.some.inj (hc3.symm.trans h3)
  obtain ⟨c5, hc5, hcl5⟩ := Cond.classLink_spec C.2.2.2.1 (C.2.2.2.2.1 _ hlink) e.platform hpl
  cases Option.some.inj (hc4.symm.trans hc5)
  obtain ⟨a8, b8, q1, q2, q3⟩ := hno
  cases Option.some.inj (q1.symm.trans h3)
  obtain ⟨c6, hc6, hcl6⟩ := Cond.classLink_spec C.2.2.2.1 (C.2.2.2.2.1 _ hylink) e.platform hpl
  cases Option.some.inj (q2.symm.trans hc6)
  obtain ⟨dk, _, _, kt, hd, _, _, _, _, hkt, _, hop⟩ := hcl5.here
  obtain ⟨dk', _, _, kt', hd', _, _, _, _, hkt', _, hop'⟩ := hcl6.here
  have hW0 : s.WarmedH (T.vm.noted m.cls y.catchType (.cls b8)) := X.warmed.noted hd' hop' (State.rightAt_cls hcl6)
  have hW1 : s.WarmedH ((T.vm.noted m.cls y.catchType (.cls b8)).noted m.cls x.catchType (.cls c4)) := hW0.noted hd hop (State.rightAt_cls hcl5)
  obtain ⟨kE, hkE, -⟩ := Vm.findClass_spec h3
  obtain ⟨k1, hk1, -⟩ := X.warmed.alike.2.2 _ _ hkE
  obtain ⟨k2, hk2, -⟩ := X.warmed.alike.2.2 _ _ hkt'
  obtain ⟨k3, hk3, -⟩ := hW0.alike.2.2 _ _ hkE
  obtain ⟨k4, hk4, -⟩ := hW0.alike.2.2 _ _ hkt
  have hvm : ((T.setTop (F0 m pc ls rest)).pushFrame (.throwing q9)).vm = T.vm := Stand.throwing_vm _ _ _
  have hhp : ((T.setTop (F0 m pc ls rest)).pushFrame (.throwing q9)).heap = T.heap := Stand.throwing_heap _ _ _
  obtain ⟨t, g1, g2⟩ := k q9 T.heap locs ls hl hP hD hS (T.setVm ((T.vm.noted m.cls y.catchType (.cls b8)).noted m.cls x.catchType (.cls c4))) rfl (X.noted hW1)
  refine ⟨t, caught_go X (vm1 := (T.vm.noted m.cls y.catchType (.cls b8)).noted m.cls x.catchType (.cls c4)) (fun Q E9 dd acts => ?_) g1, g2⟩
  rw [W.findHandler_eq (meth := meth) (code := c) (by rw [hvm]; exact X.method') X.code, htab,
    row_ask (k := b8) (cell := ce) hy hy0 (by rw [hvm]; exact X.warmed.classLinks hcl6) (by rw [hhp]; exact h1) (fun z hz => by rw [h2] at hz; cases hz) ⟨k1, by rw [hvm]; exact hk1⟩ ⟨k2, by rw [hvm]; exact hk2⟩,
    if_neg (by rw [hvm, X.warmed.alike.assignable, q3]; decide), hvm,
    row_ask (k := c4) (cell := ce) hx h0 (hW0.classLinks hcl5) (by show _ = some ce; rw [State.heap_setVm, hhp]; exact h1) (fun z hz => by rw [h2] at hz; cases hz) ⟨k3, hk3⟩ ⟨k4, hk4⟩,
    if_pos (by show Vm.assignable (T.vm.noted m.cls y.catchType (.cls b8)) _ _ = true; rw [hW0.alike.assignable]; exact hasg)]
  rfl
end RC
