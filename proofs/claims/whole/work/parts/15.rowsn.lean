/-- the words of a throw whose class passes its text on by the index ix -/
def thC (own : String) (ic : Nat) (k0 up : String) (names : List String) (ix : Nat) (bs : ByteArray) : List Cond :=
  (Bundle.throwableAtoms ++ Bundle.throwableSAtoms) ++ ((Bundle.passSAtoms k0 up ix bs ++ Bundle.chainSAtoms up names) ++
  [.methodLink own ic (Bundle.initS k0), .instantiable k0 6, .selects k0 Bundle.tFill0 Bundle.tFill0, .selects k0 Bundle.tFill Bundle.tFill,
   .lays k0 Bundle.tN "cause" "Ljava/lang/Throwable;", .lays k0 Bundle.tN "stackTrace" Bundle.steD, .lays k0 Bundle.tN "suppressedExceptions" Bundle.listD, .lays k0 Bundle.tN "detailMessage" "Ljava/lang/String;",
   .isRef (.static Bundle.tN "UNASSIGNED_STACK" Bundle.steD), .isRef (.static Bundle.tN "SUPPRESSED_SENTINEL" Bundle.listD),
   .fieldLink Bundle.tN 198 Bundle.tN "backtrace" "Ljava/lang/Object;", .lays Bundle.tN Bundle.tN "backtrace" "Ljava/lang/Object;", .lays k0 Bundle.tN "backtrace" "Ljava/lang/Object;"])
section RN
variable {p : Program} {l : Launch} {e : Env} {R : Room} {s : State} {m : MethodId} {args : Array Value} {below : List Frame} {meth : Method} {c : Code} {cells slots : Nat} {Q : State → Prop}
variable {D : va_G} {cl : List vw_C} {tys : List (ClassId × FieldType)} {A : Nat → Prop} {G : List Cond} {E : State → Heap → Prop} {own : String} {cc : ByteArray} {nL pc : Nat} {lv : List (Nat × Value)} {rest : List Value} {ws : va_W}
set_option maxHeartbeats 1000000 in
theorem th_ctor {T : State} (X : Stand p l e R s m args below meth c T [] cells slots) (hexec : p.tables.exec = Jvm.exec) (htr : e.platform.stackTraces = false) {k0 up : String} {names : List String} {ic ix : Nat} {bs : ByteArray}
    (hown : s.vm.findClass own = some m.cls) (f0 : Bundle.fit k0 = true) (f1 : Bundle.fit up = true) (f2 : ∀ n ∈ names, Bundle.fit n = true)
    (b0 : decode bs 0 = .ok (.aload_n 0, 1)) (b1 : decode bs 1 = .ok (.aload_n 1, 1)) (b2 : decode bs 2 = .ok (.invokespecial ix, 3)) (b5 : decode bs 5 = .ok (.return_, 1))
    (hw : ∀ w ∈ thC own ic k0 up names ix bs, w.before args s = true)
    {a : Addr} {ci : ClassId} {k : Class} (hci : s.vm.findClass k0 = some ci) (hk : s.vm.classes[ci]? = some k) (hcell : T.heap[a]? = some (freshCell ci k)) (hnew : s.heap.size ≤ a)
    {v : Value} (hv : v.isRef = true) {g : JFrame} (hg : g.method = m) (hsz : g.locals.size = c.maxLocals) (g1 : g.locked = none) (g2 : g.entered = []) (hst : g.stack = v :: .ref a :: .ref a :: rest)
    (d6 : decode c.code g.pc = .ok (.invokespecial ic, 3)) (d9 : decode c.code (g.pc + 3) = .ok (.athrow, 1)) (hno : ∀ x ∈ c.exceptionTable.toList, covers x (g.pc + 3) = false)
    (r1 : names.length + 4 < R.frames) (r2 : 2 * g.monitorRoom + ((Value.ref a :: rest).map fun v => v.category).sum + (13 * (names.length + 2) + 42) ≤ R.locals) (hlk : meth.locks = false) :
    ∃ U : State, Steps p.tables e below (T.setTop g) U ∧ U.status = .running ∧ Ended U below (.threw a) ∧ s.WarmedH U.vm ∧ s.sameButNew ({ U with vm := s.vm } : State) [] cells slots ∧ ∃ ce, U.heap[a]? = some ce ∧ ce.vm = .none ∧ s.vm.findClass k0 = some ce.cls := by
  have q1 : e.platform.frameOwnsMonitors = true := by rw [X.admits.platform]
  have q2 : e.platform.finalization = false := by rw [X.admits.platform]
  have q3 : e.platform.magicAccessors = ({} : Platform).magicAccessors := by rw [X.admits.platform]
  have inA : ∀ w ∈ Bundle.throwableAtoms, w.before args s = true := fun w h => hw w (List.mem_append_left _ (List.mem_append_left _ h))
  have inB : ∀ w ∈ Bundle.throwableSAtoms, w.before args s = true := fun w h => hw w (List.mem_append_left _ (List.mem_append_right _ h))
  have inC : ∀ w ∈ Bundle.passSAtoms k0 up ix bs, w.before args s = true := fun w h => hw w (List.mem_append_right _ (List.mem_append_left _ (List.mem_append_left _ h)))
  have inD : ∀ w ∈ Bundle.chainSAtoms up names, w.before args s = true := fun w h => hw w (List.mem_append_right _ (List.mem_append_left _ (List.mem_append_right _ h)))
  have inE := fun w h => hw w (List.mem_append_right _ (List.mem_append_right _ h))
  rw [List.forall_mem_cons, List.forall_mem_cons, List.forall_mem_cons, List.forall_mem_cons, List.forall_mem_cons, List.forall_mem_cons, List.forall_mem_cons, List.forall_mem_cons, List.forall_mem_cons, List.forall_mem_cons, List.forall_mem_cons, List.forall_mem_cons, List.forall_mem_cons] at inE
  obtain ⟨e1, e2, e3, e4, e5, e6, e7, e8, e9, e10, e11, e12, e13, -⟩ := inE
  obtain ⟨Tc, Z0, L, -, Y⟩ := ThrowableC.of_atoms (args := args) q1 q2 q3 inA
  obtain ⟨Z, M, LZ, LM, hnZ⟩ := Init0T.ofS_atoms (args := args) q3 L Y inB
  obtain ⟨P2, Ps, hlen, L2, hL, hm2, hl2, hlk2⟩ := Bundle.chainS (args := args) q3 hnZ names up f1 f2 inD
  obtain ⟨P1, L1, hm1, hs1⟩ := PassC.ofS_atoms (args := args) (s := s) q3 (X := k0) (Y := up) (Bundle.fit_spec f0).1 (Bundle.fit_spec f1).2 b0 b1 b2 b5 inC
  have hf : s.vm.findClass k0 = some P1.m.cls := findClass_of_methodNamed hm1
  cases Option.some.inj (hci.symm.trans hf)
  obtain ⟨c1, k1, hc1, hk1, hord, -, -, -⟩ := Cond.instantiable_spec e2
  cases Option.some.inj (hc1.symm.trans hf)
  cases Option.some.inj (hk1.symm.trans hk)
  have sel : ∀ {y : MethodName} {mi : MethodId}, s.methodNamed? y = some mi → (y.cls ≠ "java/lang/invoke/MethodHandle" ∧ y.cls ≠ "java/lang/invoke/VarHandle") → (Cond.selects k0 y y).before args s = true → selectMethod e.platform s.vm P1.m.cls mi = .method mi := by
    intro y mi hy hn hq
    obtain ⟨c2, r2, m2, h1, h2, h3, h4, -⟩ := Cond.selects_spec hq
    cases Option.some.inj (h1.symm.trans hf)
    cases Option.some.inj (h2.symm.trans (State.methodFound?_of_named hy hn))
    cases Option.some.inj (h3.symm.trans hy)
    rw [Launch.admits_selectMethod X.admits]
    exact h4
  obtain ⟨cS, hcS, hiS⟩ := Y.statics
  obtain ⟨u1, hu1⟩ := Cond.staticRefV Y.unassigned L.unassignedStatic L.statics hcS hiS e9
  obtain ⟨u2, hu2⟩ := Cond.staticRefV Y.sentinel L.sentinelStatic L.statics hcS hiS e10
  obtain ⟨i1, i2, fB, hB1, hB2, hB3, hB4, -, hBn, hBt, hBf⟩ := Cond.ownField (t := .object "java/lang/Object") Y.found L.cls (by decide +kernel) e11 e12 e.platform q3
  obtain ⟨cS', hcS1, hcS2, -, hcS3⟩ := X.same.2.2.2.2.2 Tc.aS cS hcS
  have hcS4 : T.heap[Tc.aS]? = some cS' := hcS1
  have hun : cS'.vm ≠ .unknown := by
    rw [hcS2]
    intro h9
    rw [show cS.vm = .unknown from h9] at hiS
    cases hiS
  have hneq : Tc.aS ≠ a := fun h9 => by
    have h8 := (Array.getElem?_eq_some_iff.mp hcS).1
    rw [h9] at h8
    exact Nat.not_le_of_lt h8 hnew
  obtain ⟨iM, hM⟩ := Y.msg
  obtain ⟨tC, dC, hdC, nC⟩ := Cond.laysAt hf hk Y.cause e5
  obtain ⟨tS, dS, hdS, nS⟩ := Cond.laysAt hf hk Y.stack e6
  obtain ⟨tP, dP, hdP, nP⟩ := Cond.laysAt hf hk Y.supp e7
  obtain ⟨tM, dM, hdM, nM⟩ := Cond.laysAt hf hk hM e8
  obtain ⟨tB, dB, hdB, nB⟩ := Cond.laysAt hf hk hBf e13
  have w1 := Cond.laysApart hdB hdC nB nC (by rw [hBn, Y.causeName]; decide)
  have w2 := Cond.laysApart hdB hdS nB nS (by rw [hBn, Y.stackName]; decide)
  have w3 := Cond.laysApart hdB hdP nB nP (by rw [hBn, Y.suppName]; decide)
  have hskip : SkipFacts Tc e.platform s (fun u => u) u1 ((preparedCellV Tc.toThrowableT (freshCell P1.m.cls k) a u1 u2).withEntry T.cur) := by
    refine ⟨{ ci198 := i1, i198 := i2, fBack := fB }, ⟨hB1, hB2, hB3, hB4⟩, ?_, fun _ _ => rfl⟩
    have h9 := fresh_default (c := P1.m.cls) tB
    rw [hBt] at h9
    simpa [preparedCellV, Cell.setSlot, Cell.withEntry, Array.getElem?_setIfInBounds, w1, w2, w3, w1.symm, w2.symm, w3.symm, defaultValue] using h9
  obtain ⟨ti, mC, cC, kC, vm1, hnC, -, -, -, -, -, -, -, hW1, go1⟩ := Steps.initColdS (tb := p.tables) (e := e) (below := below) (s := s) (U := T) X.here hexec X.warmed q3 hown (t := Bundle.initS k0) rfl rfl (Bundle.fit_spec f0).2
    e1 (inC _ (List.mem_cons_self)) (bytes := bs) (maxL := 2) (inC _ (List.mem_cons_of_mem _ List.mem_cons_self)) (f := g) hg (a := a) (msg := v) (rest := .ref a :: rest) hst d6
  cases Option.some.inj (hnC.symm.trans hm1)
  obtain ⟨vm2, X2, go2⟩ := (X.noted hW1).ctorMessageOffV hexec (g := { g with stack := .ref a :: rest }) hg hsz Tc L Z LZ M LM (P1 :: P2 :: Ps)
    (List.forall_mem_cons.mpr ⟨L1, List.forall_mem_cons.mpr ⟨L2, hL⟩⟩) ⟨Option.some.inj (hs1.symm.trans hm2), hl2, hlk2⟩ (u0 := u1) (sen := u2) (self := a) hv (cell := freshCell P1.m.cls k) (cellS := cS')
    hcell (fun _ => by simp) (by simp) rfl rfl (sel Y.fill0 (by decide) e3) (sel Y.fill (by decide) e4) hcS4 hneq hun (by rw [hcS3 _ (fun h => nomatch h)]; exact hu1) (by rw [hcS3 _ (fun h => nomatch h)]; exact hu2)
    (Takes.of_laid hk hord tC (by rw [Y.causeType]; rfl)) (Takes.of_laid hk hord tS (by rw [Y.stackType]; exact fits_refV_array _ u1)) (Takes.of_laid hk hord tP (by rw [Y.suppType]; exact fits_refV_object _ u2))
    (Takes.of_laid hk hord tM (by rw [Y.msgType]; exact fits_refV_object _ ⟨v, hv⟩)) Y.objLocals hskip htr [] d6
    (by simp only [List.length_cons, hlen]; omega) (by simp only [List.length_cons, hlen]; exact r2)
  obtain ⟨h1, h2, h3, h4, h5⟩ := X2.athrowLeaves hexec (g := { g with stack := .ref a :: rest, pc := g.pc + 3 }) hg g1 g2 hno (a := a) (rest := rest) rfl d9 hlk
  have hlt : a < ((T.setVm vm1).setVm vm2).heap.size := (Array.getElem?_eq_some_iff.mp hcell).1
  refine ⟨_, go1 _ (fun acts => ?_), h2, h3, h4, h5.weaken (fun y hy hy2 => ?_) (Nat.le_refl _) (Nat.le_refl _), _, heapAt_setCell_self (s := (T.setVm vm1).setVm vm2) (plainBareV Tc.toThrowableT (freshCell P1.m.cls k) a u1 u2 v) hlt, rfl, hf⟩
  · rw [doInvoke_state]
    exact go2 _ h1
  · rw [List.nil_append] at hy
    have h9 : y.base = a := by
      simp only [List.mem_cons, List.not_mem_nil, or_false] at hy
      rcases hy with rfl | rfl | rfl | rfl | rfl <;> rfl
    rw [h9] at hy2
    exact absurd hy2 (Nat.not_lt.mpr hnew)
/-- 'throw new E1("text")', in a method without a table -/
theorem r_thrown {u0 : State} (h0 : tw u0) (hA0 : ∀ q, A q → u0.heap.size ≤ q) (hX : lat u0 s s.heap) (hlT : l.stackTraces = false) (hg : ∀ w ∈ G, goodWord w = true) (C : cx p s m args meth c D cl tys A G own cc nL) {β : Type} {en : β → Option Value} {r : String ⊕ β} {ws' : va_W} {mc ms : Nat} {E1 text up : String} {names : List String} {ik is ic ix : Nat} {bs : ByteArray} (hcls : Bundle.fit E1 = true) (hup : Bundle.fit up = true) (hnames : ∀ n ∈ names, Bundle.fit n = true) (b0 : decode bs 0 = .ok (.aload_n 0, 1)) (b1 : decode bs 1 = .ok (.aload_n 1, 1)) (b2 : decode bs 2 = .ok (.invokespecial ix, 3)) (b5 : decode bs 5 = .ok (.return_, 1))
    (hk : Cond.classLink own ik E1 ∈ G) (hini : Cond.initialized E1 ∈ G) (hstr : Cond.stringRef own is text ∈ lw_tbl) (hat : ∀ w ∈ thC own ic E1 up names ix bs, w ∈ G ∨ w ∈ thW ∨ w ∈ thH) (hno : ∀ x ∈ c.exceptionTable.toList, False)
    (d0 : decode cc pc = .ok (.new ik, 3)) (d3 : decode cc (pc + 3) = .ok (.dup, 1)) (d4 : decode cc (pc + 4) = .ok (.ldc is, 2)) (d6 : decode cc (pc + 6) = .ok (.invokespecial ic, 3)) (d9 : decode cc (pc + 9) = .ok (.athrow, 1))
    (hR : names.length + 4 < R.frames ∧ (rest.map fun v => v.category).sum + (13 * (names.length + 2) + 43) ≤ R.locals ∧ cells + 1 ≤ R.cells ∧ slots + 6 ≤ R.slots) (hc : cells + 1 ≤ mc) (hs : slots + 6 ≤ ms) (hv : r = .inl E1) (hws : ws' = ws) : vv p l e R s m args below meth c D cl A nL cells slots (mqx below (qx en D cl A mc ms r ws') args s) (pc) (lv) (rest) (ws) := by
  intro H locs ls hlv hP hD hS T hT X
  subst hws; subst hv
  obtain ⟨a0, ht0, hh0, -⟩ := id h0
  have htr : e.platform.stackTraces = false := by rw [X.admits.platform]; exact hlT
  have Y := st_again X (R1 := { frames := R.frames, locals := R.locals, cells := 1, slots := 6 }) (Nat.le_refl _) (Nat.le_refl _) hR.2.2.1 hR.2.2.2
  generalize hu : (T.setVm s.vm).setFrames (.invoking m args :: below) = u at Y
  have hvm : u.vm = s.vm := by rw [← hu]; rfl
  have hhp : u.heap = H := by rw [← hu]; exact hT
  have hWu : s.WarmedH u.vm := by rw [hvm]; exact State.WarmedH.refl s
  have hLu : lat u0 u u.heap := ⟨by rw [hvm]; exact hX.1, by rw [hhp]; exact Nat.le_trans hX.2.1 hS.1, fun q h => by
    rw [hhp, hS.2.1 q (Nat.lt_of_lt_of_le h hX.2.1) ?_]
    · exact hX.2.2 q h
    · exact fun h9 => Nat.not_le_of_lt h (hA0 q h9)⟩
  have hw : ∀ w ∈ thC own ic E1 up names ix bs, w.before args u = true := fun w h => (hat w h).elim (fun h => word_at hWu (good_of_word (hg w h)) (C.2.2.2.2.1 w h)) (fun h => h.elim (fun h => thW_at hLu.1 (fun w h => ht0 w (thW_in w h)) w h) (fun h => thH_at h0 hLu w h))
  have hown1 : u.vm.findClass own = some m.cls := by rw [hvm]; exact C.2.2.2.1
  have hk1 := word_at (a' := args) hWu (good_of_word (hg _ hk)) (C.2.2.2.2.1 _ hk)
  have hini1 := word_at (a' := args) hWu (good_of_word (hg _ hini)) (C.2.2.2.2.1 _ hini)
  obtain ⟨-, -, -, sa, -, -, -, -, -, hev0⟩ := Cond.stringRef_spec (show u0.vm.findClass own = some m.cls by rw [← hLu.1.alike.findClass]; exact hown1) (ht0 _ hstr)
  have hvk : vk_R own is text sa u := vk_R.warm hLu.1 (vk_R.of (ht0 _ hstr) hev0)
  obtain ⟨vm1, cX, kX, hfX, hkX, -, -, X1, st1⟩ := Y.newCold C.1 (own := own) (C := E1) (index := ik) (n := 6) hown1 hk1 (hw (.instantiable E1 6) (List.mem_append_right _ (List.mem_append_right _ (List.mem_cons_of_mem _ List.mem_cons_self)))) hini1
    (g := F0 m pc ls rest) rfl (by rw [C.2.1]; exact d0) (Nat.le_refl _) (Nat.le_refl _)
  generalize hT1 : (T.setVm vm1).pushCell { cls := cX, slots := kX.instanceTypes.map defaultValue, vm := .none } = T1 at X1 st1
  have hsize1 : T1.heap.size = T.heap.size + 1 := by rw [← hT1]; exact State.heap_size_pushCell _ _
  have hcellA : T1.heap[T.heap.size]? = some (freshCell cX kX) := by rw [← hT1]; exact State.heap_pushCell_size _ _
  have d3' : decode c.code (pc + 3) = .ok (.dup, 1) := by rw [C.2.1]; exact d3
  have d4' : decode c.code (pc + 4) = .ok (.ldc is, 2) := by rw [C.2.1]; exact d4
  have hcat : (Value.ref T.heap.size).category = 1 := rfl
  obtain ⟨U, hsteps, hrun, hend, hW, hsame, ce, hce, hO, hO2⟩ := th_ctor X1 C.1 htr (own := own) (k0 := E1) (names := names) (ic := ic) hown1 hcls hup hnames b0 b1 b2 b5 hw hfX hkX hcellA (by rw [hhp, hT]; exact Nat.le_refl _) (v := .ref sa) rfl
    (g := { method := m, pc := pc + 6, locals := ls, stack := .ref sa :: .ref T.heap.size :: .ref T.heap.size :: rest, locked := none }) rfl (hlv.1.trans C.2.2.1.symm) rfl rfl (rest := rest) rfl
    (by rw [C.2.1]; exact d6) (by rw [C.2.1]; exact d9) (fun x hx => (hno x hx).elim) hR.1 (by
      have h9 := hR.2.1
      simp only [List.map_cons, List.sum_cons, hcat]
      have h8 : JFrame.monitorRoom { method := m, pc := pc + 6, locals := ls, stack := .ref sa :: .ref T.heap.size :: .ref T.heap.size :: rest, locked := none } = 0 := rfl
      omega) C.2.2.2.2.2.2.2
  have hkeep : ∀ q : Nat, q < H.size → U.heap[q]? = H[q]? := fun q h => by
    have h9 := same_keep hsame (q := q) (by rw [hhp]; exact h)
    rw [hhp] at h9
    exact h9
  have hgrow : H.size ≤ U.heap.size := by
    have h9 : u.heap.size ≤ U.heap.size := hsame.2.1
    rw [hhp] at h9
    exact h9
  have hall : s.sameButNew ({ U with vm := s.vm } : State) locs mc ms := by
    rw [hvm] at hsame
    rw [← hu] at hsame
    obtain ⟨e1, e2⟩ := hsame
    rw [State.setFrames_setFrames] at e1
    have h2 : (T.setVm s.vm).sameButNew ({ U with vm := s.vm } : State) [] (0 + 1) (0 + 6) := ⟨e1, e2⟩
    have h3 := X.same.trans h2
    rw [List.append_nil] at h3
    exact h3.mono hc hs
  refine ⟨U, st1 _ ?_, .threw T.heap.size, hrun, hend, ⟨T.heap.size, ce, rfl, hce, hO, ?_⟩, ⟨hP.kept (fun k q hq => hkeep q.1 (hP k q hq).lt), hD⟩, ⟨Nat.le_trans hS.1 hgrow, fun q h1 h2 => (hkeep q (Nat.lt_of_lt_of_le h1 hS.1)).trans (hS.2.1 q h1 h2)⟩, locs, ⟨State.WarmedH.trans hWu hW, hall⟩, hS.2.2⟩
  · show Steps p.tables e below (T1.setTop { method := m, pc := pc + 3, locals := ls, stack := .ref T.heap.size :: rest, locked := none }) _
    jvm_step X1.here [X1.here.top, C.1, d3', Value.category]
    exact X1.ldcString C.1 (own := own) (text := text) (index := is) (a := sa) hown1 hvk.1 hvk.2
      (g := { method := m, pc := pc + 4, locals := ls, stack := .ref T.heap.size :: .ref T.heap.size :: rest, locked := none }) rfl d4' _ hsteps
  · have h9 := hO2
    rw [hvm] at h9
    exact h9
end RN
