/-- (U, H) comes behind the start u0: the tables are warmer, no old cell has changed -/
def lat (u0 : State) (U : State) (H : Heap) : Prop := u0.WarmedH U.vm ∧ u0.heap.size ≤ H.size ∧ ∀ q : Nat, q < u0.heap.size → H[q]? = u0.heap[q]?
theorem lat_stb {u0 : State} {A : Nat → Prop} (hA : ∀ q, A q → u0.heap.size ≤ q) : stb A (lat u0) := fun u U H hW hz hq h =>
  ⟨State.WarmedH.trans h.1 hW, Nat.le_trans h.2.1 hz, fun q h1 => (hq q (Nat.lt_of_lt_of_le h1 h.2.1) (fun h2 => Nat.not_le_of_lt h1 (hA q h2))).trans (h.2.2 q h1)⟩
/-- what a method that returns or throws has done: r says which -/
def qx {β : Type} (en : β → Option Value) (D : va_G) (cl : List vw_C) (A : Nat → Prop) (mc ms : Nat) (r : String ⊕ β) (ws : va_W) : Array Value → State → Outcome → State → Prop := fun _ st o t =>
  (match r with
    | .inr b => o = .returned (en b)
    | .inl E1 => ∃ (x : Addr) (ce : Cell), o = .threw x ∧ t.heap[x]? = some ce ∧ ce.vm = .none ∧ st.vm.findClass E1 = some ce.cls) ∧
  (va_P D cl ws t.heap ∧ va_D A ws) ∧ va_F A st t ∧ ∃ L, (st.WarmedH t.vm ∧ st.sameButNew ({ t with vm := st.vm } : State) L mc ms) ∧ ∀ z ∈ L, A z.base
def cmx {β : Type} (en : β → Option Value) (l : Launch) (E : State → Heap → Prop) (D : va_G) (cl : List vw_C) (tys : List (ClassId × FieldType)) (A : Nat → Prop) (G : List Cond) (y : MethodName) (bytes : ByteArray) (maxL : Nat) (ret : Option FieldType) (rm : Room) (as : List Value) (ws : va_W) (r : String ⊕ β) (ws' : va_W) : Prop :=
  MetFree l y (headSpec (Cond.code y bytes maxL ret :: G) rm) (pcI E D cl tys A as ws) (fun _ _ _ _ _ => True) (qx en D cl A rm.cells rm.slots r ws')
/-- what such a body owes at its end -/
def mqx (below : List Frame) (Qx : Array Value → State → Outcome → State → Prop) (a : Array Value) (s : State) : State → Prop := fun t => ∃ o, t.status = .running ∧ Ended t below o ∧ Qx a s o t
theorem cm_of_cmx {β : Type} {en : β → Option Value} {l : Launch} {E : State → Heap → Prop} {D : va_G} {cl : List vw_C} {tys : List (ClassId × FieldType)} {A : Nat → Prop} {G : List Cond} {y : MethodName} {bytes : ByteArray} {maxL : Nat} {ret : Option FieldType} {rm : Room} {as : List Value} {ws : va_W} {r : String ⊕ β} {ws' : va_W}
    (h : cmx en l E D cl tys A G y bytes maxL ret rm as ws r ws') {b : β} (hb : r = .inr b) : cm l E D cl tys A G y bytes maxL ret rm as ws (en b) ws' := by
  subst hb
  intro p e ha hc hk s m args below hf happ hP hT
  obtain ⟨n, o, h1, h2, h3, ho, hw, hF, L, ⟨hW, hsm⟩, hL⟩ := h p e ha hc hk s m args below hf happ hP hT
  exact ⟨n, o, h1, h2, h3, ⟨⟨ho, hw⟩, hF⟩, L, ⟨⟨_, ho⟩, hW, hsm⟩, hL⟩
def sm {α β : Type} (a : String ⊕ α) (f : String → β) (g : α → β) : β := match a with
  | .inl e => f e
  | .inr v => g v
theorem sm_l {α β : Type} {a : String ⊕ α} {f : String → β} {g : α → β} {r : β} {e : String} (ha : a = .inl e) (h : sm a f g = r) : f e = r := by subst ha; exact h
theorem sm_r {α β : Type} {a : String ⊕ α} {f : String → β} {g : α → β} {r : β} {v : α} (ha : a = .inr v) (h : sm a f g = r) : g v = r := by subst ha; exact h
theorem sm_c {α : Type} (a : String ⊕ α) : (∃ e, a = .inl e) ∨ ∃ v, a = .inr v := by
  cases a with
  | inl e => exact Or.inl ⟨e, rfl⟩
  | inr v => exact Or.inr ⟨v, rfl⟩
def enI : Int32 → Option Value := fun v => some (.int v)
def enV : Unit → Option Value := fun _ => none
section RX
variable {p : Program} {l : Launch} {e : Env} {R : Room} {s : State} {m : MethodId} {args : Array Value} {below : List Frame} {meth : Method} {c : Code} {cells slots : Nat} {Q : State → Prop}
variable {D : va_G} {cl : List vw_C} {tys : List (ClassId × FieldType)} {A : Nat → Prop} {G : List Cond} {E : State → Heap → Prop} {own : String} {cc : ByteArray} {nL pc : Nat} {lv : List (Nat × Value)} {rest : List Value} {ws : va_W}
/-- the walk where an E1 has been thrown at pc -/
def vvx (p : Program) (l : Launch) (e : Env) (R : Room) (s : State) (m : MethodId) (args : Array Value) (below : List Frame) (meth : Method) (c : Code) (D : va_G) (cl : List vw_C) (A : Nat → Prop) (nL cells slots : Nat) (Q : State → Prop) (pc : Nat) (lv : List (Nat × Value)) (st : List Value) (ws : va_W) (E1 : String) : Prop :=
  ∀ (T : State) (locs : List Loc) (ls : Array Slot) (x : Addr) (ce : Cell), lv_has ls nL lv → va_P D cl ws T.heap → va_D A ws → va_S A s.heap T.heap locs → T.heap[x]? = some ce → ce.vm = .none → s.vm.findClass E1 = some ce.cls →
    Stand p l e R s m args below meth c T locs cells slots → ∃ t, Steps p.tables e below ((T.setTop (F0 m pc ls st)).pushFrame (.throwing x)) t ∧ Q t
theorem r_iretx (C : cx p s m args meth c D cl tys A G own cc nL) {β : Type} {en : β → Option Value} {r : String ⊕ β} {ws' : va_W} {v : Int32} {ty : FieldType} {mc ms : Nat} (hc : cells ≤ mc) (hs : slots ≤ ms) (hr : meth.sig.returnType = some ty) (hn : narrow ty (.int v) = .int v) (b : β) (hv : r = .inr b) (he : en b = some (.int v)) (hws : ws' = ws) (d : decode cc pc = .ok (.ireturn, 1)) : vv p l e R s m args below meth c D cl A nL cells slots (mqx below (qx en D cl A mc ms r ws') args s) (pc) (lv) ([.int v]) (ws) := by
  intro H locs ls hl hP hD hS T hT X
  subst hws; subst hv
  obtain ⟨t, a1, o, b1, b2, ⟨b3, b4⟩, L, ⟨-, b5, b6⟩, b7⟩ := W.widen hc hs (W.zret (Qc := qcI D cl A (some (.int v)) ws') (free := A) C.1 C.2.1 hr hn (fun t ht hW => ⟨⟨rfl, by rw [ht]; exact hP, hD⟩, hS.F ht⟩) hS.2.2 d C.2.2.2.2.2.2.2) T hT X
  exact ⟨t, a1, o, b1, b2, b3.1.trans (by rw [he]), b3.2, b4, L, ⟨b5, b6⟩, b7⟩
theorem r_vretx (C : cx p s m args meth c D cl tys A G own cc nL) {β : Type} {en : β → Option Value} {r : String ⊕ β} {ws' : va_W} {mc ms : Nat} (hc : cells ≤ mc) (hs : slots ≤ ms) (hr : meth.sig.returnType = none) (b : β) (hv : r = .inr b) (he : en b = none) (hws : ws' = ws) (d : decode cc pc = .ok (.return_, 1)) : vv p l e R s m args below meth c D cl A nL cells slots (mqx below (qx en D cl A mc ms r ws') args s) (pc) (lv) ([]) (ws) := by
  intro H locs ls hl hP hD hS T hT X
  subst hws; subst hv
  obtain ⟨t, a1, o, b1, b2, ⟨b3, b4⟩, L, ⟨-, b5, b6⟩, b7⟩ := W.widen hc hs (W.vret (Qc := qcI D cl A none ws') (free := A) C.1 C.2.1 hr (fun t ht hW => ⟨⟨rfl, by rw [ht]; exact hP, hD⟩, hS.F ht⟩) hS.2.2 d C.2.2.2.2.2.2.2) T hT X
  exact ⟨t, a1, o, b1, b2, b3.1.trans (by rw [he]), b3.2, b4, L, ⟨b5, b6⟩, b7⟩
/-- it isn't caught here -/
theorem r_outx {β : Type} {en : β → Option Value} {r : String ⊕ β} {ws' : va_W} {mc ms : Nat} {E1 : String} (C : cx p s m args meth c D cl tys A G own cc nL) (hno : ∀ x ∈ c.exceptionTable.toList, False) (hc : cells ≤ mc) (hs : slots ≤ ms) (hv : r = .inl E1) (hws : ws' = ws) : vvx p l e R s m args below meth c D cl A nL cells slots (mqx below (qx en D cl A mc ms r ws') args s) (pc) (lv) (rest) (ws) E1 := by
  intro T locs ls x ce hl hP hD hS h1 h2 h3 X
  subst hws; subst hv
  obtain ⟨st1, hrun, hend, hW, hsm⟩ := X.leaveThrown x (g := F0 m pc ls rest) rfl rfl rfl (fun y hy => (hno y hy).elim) C.2.2.2.2.2.2.2
  exact ⟨_, st1, .threw x, hrun, hend, ⟨x, ce, rfl, h1, h2, h3⟩, ⟨hP, hD⟩, hS.F rfl, locs, ⟨hW, hsm.mono hc hs⟩, hS.2.2⟩
/-- a call that throws -/
theorem r_callVt (hE : stb A E) (hg : ∀ w ∈ G, goodWord w = true) (C : cx p s m args meth c D cl tys A G own cc nL) (hX : E s s.heap) {y : MethodName} {bytes : ByteArray} {maxL index b : Nat} {ret : Option FieldType} {rm : Room} {As : List Value} {β : Type} {en : β → Option Value} {r : String ⊕ β} {ws' : va_W} {E1 : String} (hM : cmx en l E D cl tys A G y bytes maxL ret rm (.ref b :: As) ws r ws') (hr : r = .inl E1)
    (h1 : Cond.methodLink own index y ∈ G) (h2 : Cond.instanceMethod y ∈ G) (h3 : Cond.selects y.cls y y ∈ G) (h4 : Cond.initialized y.cls ∈ G) (h5 : Cond.code y bytes maxL ret ∈ G)
    (hd : y.cls ≠ "java/lang/invoke/MethodHandle" ∧ y.cls ≠ "java/lang/invoke/VarHandle" ∧ (parseMethodDescriptor y.desc).map (fun d => d.parameters.length) = some As.length)
    (q0 : Nat) {ci N : Nat} {fs : List Value} {T : u_T} (he : ws[q0]? = some (b, .inr (ci, fs))) (hcl : cl[ci]? = some (y.cls, T, N))
    (hR : (rm.frames + 1 ≤ R.frames ∧ 8 + (maxL + 11) + rm.locals ≤ R.locals) ∧ cells + rm.cells ≤ R.cells ∧ slots + rm.slots ≤ R.slots) (hsum : (rest.map fun v => v.category).sum ≤ 8)
    {st0 : List Value} (hst0 : st0 = As.reverse ++ .ref b :: rest) (d : decode cc pc = .ok (.invokevirtual index, 3))
    (k : vvx p l e R s m args below meth c D cl A nL (cells + rm.cells) (slots + rm.slots) Q (pc) (lv) (rest) (ws') E1) : vv p l e R s m args below meth c D cl A nL cells slots Q (pc) (lv) (st0) (ws) := by
  subst hr
  intro H locs ls hl hP hD hS T0 hT X
  obtain ⟨cellB, hcB, hoB, hclB⟩ := va_recv C.2.2.2.2.2.1 hP hcl he
  have hts := C.2.2.2.2.1
  obtain ⟨mk, mY, hnY, hmY, hstY, habY⟩ := Cond.instanceMethod_spec (hts _ h2)
  obtain ⟨mY', cY, hmY', hcY, -, hlY, -, -, -, hsY⟩ := Cond.code_spec hnY (hts _ h5)
  cases hmY.symm.trans hmY'
  obtain ⟨c2, r2, m2, s1, s2, s3, s4, kP, hkP, hkPi⟩ := Cond.selects_spec (hts _ h3)
  cases hclB.symm.trans s1
  cases (State.methodFound?_of_named hnY ⟨hd.1, hd.2.1⟩).symm.trans s2
  cases hnY.symm.trans s3
  have hlen : As.length = mY.sig.parameters.length := by
    have h9 := hd.2.2
    rw [hsY] at h9
    exact (Option.some.inj h9).symm
  obtain ⟨vm1, X1, go1⟩ := X.invokevirtual C.1 C.2.2.2.1 (hts _ h1) hnY hmY hstY hkP hkPi ⟨hd.1, hd.2.1⟩ (a := b) (cell := cellB) (by rw [hT]; exact hcB)
    (fun z h => by rw [h] at hoB; cases hoB) (by rw [Launch.admits_selectMethod X.admits]; exact s4) hmY habY hkP hkPi (g := F0 m pc ls st0) rfl (argsL := As) (rest := rest) hlen hst0 (by rw [C.2.1]; exact d)
  have hd' : decode c.code (F0 m pc ls rest).pc = .ok (.invokevirtual index, 3) := by rw [C.2.1]; exact d
  have hg9 : GoodIn G (Cond.code y bytes maxL ret :: G) := good_tab hg h5
  have hpre : (headSpec (Cond.code y bytes maxL ret :: G) rm).pre.before (Value.ref b :: As).toArray (T0.setVm vm1) = true := atoms_intro fun w hw => pay_in hts hg9 w hw _ _ X1.warmed
  have hini := Cond.initialized_spec (findClass_of_methodNamed (X1.named hnY)) (show (T0.setVm vm1).vm.classes[mk.cls]? = some _ from (X1.warmed.alike.2.2 _ _ hkP).choose_spec.1) (word_at (a' := (Value.ref b :: As).toArray) X1.warmed (good_of_word (hg _ h4)) (hts _ h4))
  have hroom := X1.room_calling (g := F0 m pc ls rest) (m' := mk) (args' := (Value.ref b :: As).toArray) (R' := rm) (hl.1.trans C.2.2.1.symm) (show (T0.setVm vm1).vm.method? mk = some mY by rw [X1.warmed.alike.method?]; exact hmY) hcY hR.1.1 (by
    have h9 : 2 * (F0 m pc ls rest).monitorRoom + ((F0 m pc ls rest).stack.map fun v => v.category).sum ≤ 8 := lv_room hsum
    have h8 := hR.1.2
    rw [hlY]; omega) hR.2.1 hR.2.2
  have happ := Spec.appliesLoose_calling (S := headSpec (Cond.code y bytes maxL ret :: G) rm) (args := (Value.ref b :: As).toArray) (g := F0 m pc ls rest) X1.here hd' (X1.named hnY) (X1.warmed.alike.2.2 _ _ hkP).choose_spec.1 hini hroom hpre
  have hPc := pcI_blind hE (Value.ref b :: As).toArray (T0.setVm vm1) (F0 m pc ls rest) mk (pcI_at (as := Value.ref b :: As) hE C hX hP hD hS (T0.setVm vm1) hT X1.warmed)
  obtain ⟨gt, hgt⟩ := X1.frames_eq
  have hfr : ((T0.setVm vm1).setTop (F0 m pc ls rest)).frames = [.java (F0 m pc ls rest)] ++ below := by
    rw [State.frames_setTop _ hgt]
    rfl
  obtain ⟨o, u, st1, -, hend, ho, hw, hF, L, ⟨hW, hsm⟩, hL⟩ := Steps.callFree hM p X.admits X.cas X.clock (acts := []) hfr happ hPc trivial
  obtain ⟨x, ce, rfl, hce, hcv, hcc⟩ := ho
  rw [hfr] at hend
  obtain ⟨T2, X2, hW2, hs2, hu⟩ := X1.outOfThrown (g := F0 m pc ls rest) rfl hend hW hsm
  have hh : T2.heap = u.heap := by rw [hu, Stand.throwing_heap]
  obtain ⟨hz, hk⟩ := hF
  have hz' : H.size ≤ T2.heap.size := by
    rw [hh, ← hT]
    exact hz
  have hk' : ∀ q : Nat, q < H.size → ¬ A q → T2.heap[q]? = H[q]? := fun q h6 h7 => by
    rw [hh, ← hT]
    exact hk q (by rw [← hT] at h6; exact h6) h7
  obtain ⟨t, g1, g2⟩ := k T2 (locs ++ L) ls x ce hl (by rw [hh]; exact hw.1) hw.2
    ⟨Nat.le_trans hS.1 hz', fun q h6 h7 => (hk' q (Nat.lt_of_lt_of_le h6 hS.1) h7).trans (hS.2.1 q h6 h7), fun q hq => (List.mem_append.mp hq).elim (hS.2.2 q) (hL q)⟩
    (by rw [hh]; exact hce) hcv (by
      have h6 : (T0.setVm vm1).vm.findClass E1 = some ce.cls := hcc
      rw [X1.warmed.alike.findClass] at h6
      exact h6) X2
  refine ⟨t, go1 t (fun acts => ?_), g2⟩
  rw [doInvoke_state]
  rw [hu] at st1
  exact st1.trans g1
end RX
theorem r_metx {l : Launch} {E : State → Heap → Prop} {D : va_G} {cl : List vw_C} {tys : List (ClassId × FieldType)} {A : Nat → Prop} {G : List Cond} {y : MethodName} {bytes : ByteArray} {maxL : Nat} {ret : Option FieldType} {rm : Room} {as : List Value} {ws : va_W} {β : Type} {en : β → Option Value} {r : String ⊕ β} {ws' : va_W}
    {own : String} (ho : y.cls = own) (hy : plainName own = true) (hlen : (lg_sl as).length ≤ maxL) {lv : List (Nat × Value)} (hlv : lv_args 0 as = lv)
    (body : ∀ (p : Program) (e : Env) (s : State) (m : MethodId) (args : Array Value) (below : List Frame) (meth : Method) (c : Code), cx p s m args meth c D cl tys A G own bytes maxL → meth.sig.returnType = ret → (∀ x ∈ c.exceptionTable.toList, False) → E s s.heap →
      vv p l e rm s m args below meth c D cl A maxL 0 0 (mqx below (qx en D cl A rm.cells rm.slots r ws') args s) 0 lv [] ws) : cmx en l E D cl tys A G y bytes maxL ret rm as ws r ws' := by
  subst hlv; subst ho
  refine MetFree.of_bodyS (code := bytes) (maxLocals := maxL) (ret := ret) hy ?_ ?_
  · intro args s m h hn
    obtain ⟨meth, c, h1, h2, h3, h4, h5, h6, -, -⟩ := Cond.code_spec hn (atoms_spec (ws := Cond.code y bytes maxL ret :: G) h _ List.mem_cons_self)
    exact ⟨meth, c, h1, h2, h3, h4, h5, h6⟩
  · intro p e s m args below meth c s₁ B hml hv _
    obtain ⟨rfl, hP, hD, hK, hA, hX⟩ := hv
    have hts := atoms_spec (ws := Cond.code y bytes maxL ret :: G) B.pre
    have hno : ∀ x ∈ c.exceptionTable.toList, False := by
      have h9 := B.noHandlers (hts _ List.mem_cons_self)
      intro x hx
      rw [Array.isEmpty_iff.mp h9] at hx
      cases hx
    have hh : s₁.heap = s.heap := by rw [B.state]; rfl
    have Y := body p e s m _ below meth c ⟨B.exec, B.bytes, hml, findClass_of_methodNamed B.named, fun w h => hts w (List.mem_cons_of_mem _ h), hK, hA, B.notSynchronized⟩ B.returns hno hX s.heap [] _ (lv_entry as hlen) hP hD va_S.rf
    rw [← lg_entry_eq] at Y
    obtain ⟨t, a1, o, b1, b2, b3⟩ := Y s₁ hh (Stand.of_body B)
    exact ⟨t, o, a1, b1, b2, b3⟩
