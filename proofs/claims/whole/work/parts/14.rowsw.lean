/-- the contract of a method with a table of its own -/
def cmw (l : Launch) (E : State → Heap → Prop) (D : va_G) (cl : List vw_C) (tys : List (ClassId × FieldType)) (A : Nat → Prop) (G : List Cond) (y : MethodName) (bytes : ByteArray) (maxL : Nat) (ret : Option FieldType) (hh : List (Nat × Nat × Nat × Nat)) (rm : Room) (as : List Value) (ws : va_W) (r : Option Value) (ws' : va_W) : Prop :=
  Met l y (Cond.codeWith y bytes maxL ret hh :: G) rm (pcI E D cl tys A as ws) (qcI D cl A r ws') rm.cells rm.slots A
theorem r_metw {l : Launch} {E : State → Heap → Prop} {D : va_G} {cl : List vw_C} {tys : List (ClassId × FieldType)} {A : Nat → Prop} {G : List Cond} {y : MethodName} {bytes : ByteArray} {maxL : Nat} {ret : Option FieldType} {hh : List (Nat × Nat × Nat × Nat)} {rm : Room} {as : List Value} {ws : va_W} {r : Option Value} {ws' : va_W}
    {own : String} (ho : y.cls = own) (hy : plainName own = true) (hlen : (lg_sl as).length ≤ maxL) {lv : List (Nat × Value)} (hlv : lv_args 0 as = lv)
    (body : ∀ (p : Program) (e : Env) (s : State) (m : MethodId) (args : Array Value) (below : List Frame) (meth : Method) (c : Code), cx p s m args meth c D cl tys A G own bytes maxL → meth.sig.returnType = ret → c.exceptionTable.toList = tableOf hh → E s s.heap →
      vv p l e rm s m args below meth c D cl A maxL 0 0 (MQ below (qcI D cl A r ws') args s rm.cells rm.slots A) 0 lv [] ws) : cmw l E D cl tys A G y bytes maxL ret hh rm as ws r ws' := by
  subst hlv; subst ho
  refine va_MetW (cc := bytes) (maxL := maxL) (ret := ret) (hh := hh) hy rfl ?_
  intro p e s m args below meth c s₁ B hml hv
  obtain ⟨rfl, hP, hD, hK, hA, hX⟩ := hv
  have hts := atoms_spec (ws := Cond.codeWith y bytes maxL ret hh :: G) B.pre
  have htab : c.exceptionTable.toList = tableOf hh := by
    obtain ⟨m9, meth9, c9, k1, k2, k3, -, -, k6, -⟩ := Cond.codeWith_spec (hts _ List.mem_cons_self)
    cases Option.some.inj (k1.symm.trans B.named)
    cases Option.some.inj (k2.symm.trans B.method)
    cases Option.some.inj (k3.symm.trans (Stand.of_body B).code)
    rw [← k6, table_eq]
  rw [lg_entry_eq]
  exact body p e s m _ below meth c ⟨B.exec, B.bytes, hml, findClass_of_methodNamed B.named, fun w h => hts w (List.mem_cons_of_mem _ h), hK, hA, B.notSynchronized⟩ B.returns htab hX _ [] _ (lv_entry as hlen) hP hD va_S.rf
section RS
variable {p : Program} {l : Launch} {e : Env} {R : Room} {s : State} {m : MethodId} {args : Array Value} {below : List Frame} {meth : Method} {c : Code} {cells slots : Nat} {Q : State → Prop}
variable {D : va_G} {cl : List vw_C} {tys : List (ClassId × FieldType)} {A : Nat → Prop} {G : List Cond} {E : State → Heap → Prop} {own : String} {cc : ByteArray} {nL pc : Nat} {lv : List (Nat × Value)} {rest : List Value} {ws : va_W}
theorem r_callSw (hE : stb A E) (hg : ∀ w ∈ G, goodWord w = true) (C : cx p s m args meth c D cl tys A G own cc nL) (hX : E s s.heap) {y : MethodName} {bytes : ByteArray} {maxL index : Nat} {ret : Option FieldType} {hh : List (Nat × Nat × Nat × Nat)} {rm : Room} {As : List Value} {r : Option Value} {ws' : va_W} (hM : cmw l E D cl tys A G y bytes maxL ret hh rm As ws r ws')
    (h1 : Cond.methodLink own index y ∈ G) (h2 : Cond.static y ∈ G) (h4 : Cond.initialized y.cls ∈ G) (h5 : Cond.codeWith y bytes maxL ret hh ∈ G)
    (hd : y.cls ≠ "java/lang/invoke/MethodHandle" ∧ y.cls ≠ "java/lang/invoke/VarHandle" ∧ (parseMethodDescriptor y.desc).map (fun d => d.parameters.length) = some As.length)
    (hR : (rm.frames + 1 ≤ R.frames ∧ 8 + (maxL + 11) + rm.locals ≤ R.locals) ∧ cells + rm.cells ≤ R.cells ∧ slots + rm.slots ≤ R.slots) (hsum : (rest.map fun v => v.category).sum ≤ 8)
    {st0 st1 : List Value} (hst0 : st0 = As.reverse ++ rest) (hst1 : r.toList ++ rest = st1) (d : decode cc pc = .ok (.invokestatic index, 3))
    (k : vv p l e R s m args below meth c D cl A nL (cells + rm.cells) (slots + rm.slots) Q (pc + 3) (lv) (st1) (ws')) : vv p l e R s m args below meth c D cl A nL cells slots Q (pc) (lv) (st0) (ws) := by
  intro H locs ls hl hP hD hS
  have hts := C.2.2.2.2.1
  have hgw : GoodIn G (Cond.codeWith y bytes maxL ret hh :: G) := fun w hw => by
    rcases List.mem_cons.mp hw with rfl | h
    · exact ⟨h5, good_of_word (hg _ h5)⟩
    · exact ⟨h, good_of_word (hg _ h)⟩
  have hB : Back l R p e below s args y 3 8 (PreOf R rm.cells rm.slots (pcI E D cl tys A As ws)) (PostOf (qcI D cl A r ws') rm.cells rm.slots A) :=
    va_backW (hh := hh) (bytes := bytes) (maxL := maxL) (ret := ret) hM (pcI_blind hE) rfl rfl hR.1.1 hR.1.2 (pay_in hts hgw) List.mem_cons_self (fun a' U hW => word_at hW (good_of_word (hg _ h4)) (hts _ h4))
  refine r_after (rm := rm) (r := r) (ws' := ws') (a := As.toArray) hst1 hl hS ?_ k
  intro T hT X
  obtain ⟨mk, mY, cY, hnY, hmY, -, -, -, -, -, -, hsY⟩ := Cond.codeWith_spec (hts _ h5)
  obtain ⟨kP, hkP, -⟩ := className_of_methodNamed hnY
  obtain ⟨vm1, X1, go1⟩ := X.invokestatic C.1 C.2.2.2.1 (hts _ h1) hnY hmY (Cond.static_spec hnY hmY (hts _ h2)) hkP (Cond.initialized_spec (findClass_of_methodNamed hnY) hkP (hts _ h4)) ⟨hd.1, hd.2.1⟩ (g := F0 m pc ls st0) rfl (argsL := As) (rest := rest)
    (by
      have h9 := hd.2.2
      rw [hsY] at h9
      exact (Option.some.inj h9).symm) hst0 (by rw [C.2.1]; exact d)
  obtain ⟨v, ⟨U1, l2, c2, s2⟩, X2, ⟨g1, mk1, t, L, e1, e2, hq, k1, hL, k2, k3⟩, st1⟩ := hB m meth c ⟨T.setVm vm1, locs, cells, slots⟩ (F0 m pc ls rest) (.invokestatic index) mk As.toArray X1 rfl (hl.1.trans C.2.2.1.symm) (by rw [C.2.1]; exact d) (lv_room hsum) (X1.named hnY)
    ⟨hR.2.1, hR.2.2, pcI_at hE C hX hP hD hS (T.setVm vm1) hT X1.warmed⟩
  dsimp only [Pt.U, Pt.locs, Pt.cells, Pt.slots] at X2 e1 e2 k1 k2 k3 st1
  subst k1; subst k2; subst k3
  exact ⟨v, (T.setVm vm1).calling g1 mk1 As.toArray, t, U1, L, hT, X2, hL, e1, e2, hq, fun target h => go1 target fun acts => by rw [doInvoke_state]; exact st1.trans h⟩
end RS
