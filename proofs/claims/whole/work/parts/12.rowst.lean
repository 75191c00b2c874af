/-- the words of a throw that no list of good words has, but for the heap's own -/
def thW : List Cond := [.castable "java/lang/IllegalArgumentException" "java/lang/IllegalArgumentException", .castable "java/lang/IllegalStateException" "java/lang/IllegalStateException", .castable "java/util/NoSuchElementException" "java/util/NoSuchElementException",
  .declares (Bundle.initS "java/lang/RuntimeException"), .declares (Bundle.initS "java/lang/Exception"), .declares (Bundle.initS Bundle.tN)]
def thH : List Cond := [.laysStatic Bundle.tN "UNASSIGNED_STACK" Bundle.steD, .laysStatic Bundle.tN "SUPPRESSED_SENTINEL" Bundle.listD, .isRef (.static Bundle.tN "UNASSIGNED_STACK" Bundle.steD), .isRef (.static Bundle.tN "SUPPRESSED_SENTINEL" Bundle.listD)]
def thN : List Cond := [.not (.castable "java/lang/IllegalArgumentException" "java/util/NoSuchElementException"), .not (.castable "java/lang/IllegalStateException" "java/util/NoSuchElementException")]
/-- what the start says of throwing -/
def tw (u0 : State) : Prop := ∃ a0 : Array Value, (∀ w ∈ lw_tbl, w.before a0 u0 = true) ∧ (∀ w ∈ thH, w.before a0 u0 = true) ∧ ∀ w ∈ thN, w.before a0 u0 = true
theorem thW_in : ∀ w ∈ thW, w ∈ lw_tbl := by decide +kernel
theorem thW_at {u0 U : State} {a0 a1 : Array Value} (hW : u0.WarmedH U.vm) (h : ∀ w ∈ thW, w.before a0 u0 = true) : ∀ w ∈ thW, w.before a1 U = true := by
  intro w hw
  have h0 := h w hw
  simp only [thW, List.mem_cons, List.not_mem_nil, or_false] at hw
  rcases hw with rfl | rfl | rfl | rfl | rfl | rfl
  · exact va_Nw.use rfl (va_Nw.warmC hW (va_Nw.of rfl h0))
  · exact va_Nw.use rfl (va_Nw.warmC hW (va_Nw.of rfl h0))
  · exact va_Nw.use rfl (va_Nw.warmC hW (va_Nw.of rfl h0))
  · exact va_Nw.use rfl (va_Nw.warmD hW (va_Nw.of rfl h0))
  · exact va_Nw.use rfl (va_Nw.warmD hW (va_Nw.of rfl h0))
  · exact va_Nw.use rfl (va_Nw.warmD hW (va_Nw.of rfl h0))
theorem lay_at {u0 U : State} {a0 a1 : Array Value} {C n d : String} (hL : lat u0 U U.heap) (h : (Cond.laysStatic C n d).before a0 u0 = true) : (Cond.laysStatic C n d).before a1 U = true := by
  obtain ⟨c, k, i, f, a, cell, h1, h2, h3, h4, h5, h6, h7, h8, h9⟩ := Cond.laysStatic_spec h
  obtain ⟨k', hk', he⟩ := State.fieldFound?_setVm hL.1.alike h2
  have hlt : a < u0.heap.size := (Array.getElem?_eq_some_iff.mp h5).1
  exact Cond.laysStatic_of (by rw [hL.1.alike.findClass]; exact h1) hk' h3 (by rw [he]; exact h4) (by rw [hL.2.2 a hlt]; exact h5) h6 h7 h8 (by rw [he]; exact h9)
theorem ref_at {u0 U : State} {a0 a1 : Array Value} {C n d : String} (hL : lat u0 U U.heap) (hl : (Cond.laysStatic C n d).before a0 u0 = true) (hi : (Cond.initialized C).before a0 u0 = true) (h : (Cond.isRef (.static C n d)).before a0 u0 = true) : (Cond.isRef (.static C n d)).before a1 U = true := by
  have key : ∀ v : Value, va_Z C n d v (fun _ => False) U U.heap → v.isRef = true → (Cond.isRef (.static C n d)).before a1 U = true := by
    intro v hz hv
    obtain ⟨cf, kf, fi, f, a, cell, h1, h2, h3, h4, h5, h6, h7, -⟩ := hz
    have he : (Term.static C n d).eval a1 U none [] U = some v := by simp [Term.eval, State.fieldNamed?, h1, h2, h4, h5, h6, h7]
    simp only [Cond.before, Cond.holds, Cond.value, he]
    cases v <;> simp_all [Value.isRef]
  have h1 : va_Zq C n d (fun _ => False) u0 u0.heap := va_Zqof hl hi h (fun _ _ h => h)
  have h2 : va_Zq C n d (fun _ => False) U U.heap := va_Zq.moved hL.1.alike (va_Zq.kept h1 (fun a ha _ => hL.2.2 a ha))
  rcases h2 with h3 | ⟨t, h3⟩
  · exact key _ h3 rfl
  · exact key _ h3 rfl
theorem thH_at {u0 U : State} {a1 : Array Value} (h0 : tw u0) (hL : lat u0 U U.heap) : ∀ w ∈ thH, w.before a1 U = true := by
  obtain ⟨a0, ht, hh, -⟩ := h0
  have hi : (Cond.initialized Bundle.tN).before a0 u0 = true := ht _ (by decide +kernel)
  intro w hw
  have h9 := hh w hw
  simp only [thH, List.mem_cons, List.not_mem_nil, or_false] at hw
  rcases hw with rfl | rfl | rfl | rfl
  · exact lay_at hL h9
  · exact lay_at hL h9
  · exact ref_at hL (hh _ (by decide)) hi h9
  · exact ref_at hL (hh _ (by decide)) hi h9
theorem tw_cast {u0 U : State} (h0 : tw u0) (hL : lat u0 U U.heap) {E1 : String} (h : Cond.castable E1 E1 ∈ thW) : va_Nw (.castable E1 E1) U := by
  obtain ⟨a0, ht, -, -⟩ := h0
  exact thW_at hL.1 (fun w h => ht w (thW_in w h)) _ h
theorem tw_not {u0 U : State} (h0 : tw u0) (hL : lat u0 U U.heap) {E1 n1 : String} (h : Cond.not (.castable E1 n1) ∈ thN) : va_Nc E1 n1 U := by
  obtain ⟨a0, -, -, hn⟩ := h0
  exact va_Nc.moved hL.1.alike (va_Nc.of (hn _ h))
section RT
variable {p : Program} {l : Launch} {e : Env} {R : Room} {s : State} {m : MethodId} {args : Array Value} {below : List Frame} {meth : Method} {c : Code} {cells slots : Nat} {Q : State → Prop}
variable {D : va_G} {cl : List vw_C} {tys : List (ClassId × FieldType)} {A : Nat → Prop} {G : List Cond} {E : State → Heap → Prop} {own : String} {cc : ByteArray} {nL pc : Nat} {lv : List (Nat × Value)} {rest : List Value} {ws : va_W}
theorem same_keep {u U : State} {k n : Nat} (h : u.sameButNew ({ U with vm := u.vm } : State) [] k n) {q : Nat} (hq : q < u.heap.size) : U.heap[q]? = u.heap[q]? := by
  obtain ⟨c9, e1, e2, -, e4⟩ := h.2.2.2.2.2 q _ (Array.getElem?_eq_getElem hq)
  have hs : c9.slots = (u.heap[q]).slots := Array.ext_getElem? fun i => e4 i (fun h => nomatch h)
  rw [hs] at e2
  have e5 : U.heap[q]? = some c9 := e1
  rw [e5, e2, Array.getElem?_eq_getElem hq]
/-- the walk's place, taken as a start of its own -/
theorem st_again {T : State} {locs : List Loc} (X : Stand p l e R s m args below meth c T locs cells slots) {R1 : Room} (hf : R1.frames ≤ R.frames) (hl : R1.locals ≤ R.locals) (hc : cells + R1.cells ≤ R.cells) (hs : slots + R1.slots ≤ R.slots) :
    Stand p l e R1 ((T.setVm s.vm).setFrames (.invoking m args :: below)) m args below meth c T [] 0 0 := by
  obtain ⟨g0, hg0⟩ := X.frames_eq
  have hcur : (T.setVm s.vm).cur < (T.setVm s.vm).threads.size := State.cur_lt_of_frames hg0
  have hF : ((T.setVm s.vm).setFrames (.invoking m args :: below)).frames = .invoking m args :: below := State.frames_setFrames _ hcur
  obtain ⟨th, hth, -⟩ := State.frames_cons hg0
  have hlim : e.platform.stackLimits ((T.setVm s.vm).setFrames (.invoking m args :: below)).me = e.platform.stackLimits s.me := by
    rw [State.stackLimits_setFrames]
    exact X.limits
  have hby : ((T.setVm s.vm).setFrames (.invoking m args :: below)).me.stackBytes = s.me.stackBytes := by
    rw [State.stackBytes_setFrames]
    exact X.bytes
  have hloc : ((T.setVm s.vm).setFrames (.invoking m args :: below)).localsInUse = s.localsInUse := by
    rw [State.localsInUse_invoking hF (meth := meth) (c := c) X.method X.code, State.localsInUse_invoking X.frames X.method X.code]
  have hroom : ((T.setVm s.vm).setFrames (.invoking m args :: below)).hasRoom e.platform R1 = true := by
    have h := X.room
    have hsz := X.heapSize
    have hus := X.used
    have hlen : s.frames.length = (Frame.invoking m args :: below).length := by rw [X.frames]
    simp only [State.hasRoom, Bool.and_eq_true, decide_eq_true_eq] at h ⊢
    rw [hF, hloc, hlim, hby]
    rw [hlen] at h
    obtain ⟨⟨⟨⟨k1, k2, k3, k4, k5, k6⟩, k7⟩, k8⟩, -⟩ := h
    have k9 : ((T.setVm s.vm).setFrames (.invoking m args :: below)).slotsTrue = true := X.book
    refine ⟨⟨⟨⟨by omega, by omega, by omega, by omega, by omega, k6⟩, ?_⟩, ?_⟩, k9⟩
    · show T.heap.size + R1.cells ≤ _
      omega
    · show T.slotsUsed + R1.slots ≤ _
      omega
  have hdrop : ((T.heap.toList.drop T.heap.size).map (·.slots.size)).sum = 0 := by
    rw [List.drop_eq_nil_of_le (Nat.le_of_eq Array.length_toList)]
    rfl
  exact ⟨X.admits, X.cas, X.clock, hF, hroom, X.hears, X.method, X.code, X.here, X.tail, X.warmed, by rw [hlim]; exact X.limits, by rw [hby]; exact X.bytes,
    ⟨by
      show T.setVm s.vm = { ((T.setVm s.vm).setFrames (.invoking m args :: below)).setFrames (T.setVm s.vm).frames with heap := T.heap, slotsUsed := T.slotsUsed }
      rw [State.setFrames_setFrames, State.setFrames_self (s := T.setVm s.vm) hth]
      rfl, Nat.le_refl _, Nat.le_refl _, by
      show T.slotsUsed = T.slotsUsed + ((T.heap.toList.drop T.heap.size).map (·.slots.size)).sum
      rw [hdrop]; rfl, by
      show ((T.heap.toList.drop T.heap.size).map (·.slots.size)).sum ≤ 0
      rw [hdrop]; exact Nat.le_refl _, fun a c9 h9 => ⟨c9, h9, rfl, rfl, fun _ _ => rfl⟩⟩⟩
/-- 'throw new E1("text")', in a method without a table -/
theorem r_throw {u0 : State} (h0 : tw u0) (hA0 : ∀ q, A q → u0.heap.size ≤ q) (hX : lat u0 s s.heap) (hlT : l.stackTraces = false) (hg : ∀ w ∈ G, goodWord w = true) (C : cx p s m args meth c D cl tys A G own cc nL) {β : Type} {en : β → Option Value} {r : String ⊕ β} {ws' : va_W} {mc ms : Nat} {E1 text : String} {names : List String} {ik is ic : Nat} (hcls : Bundle.fit E1 = true) (hnames : ∀ n ∈ names, Bundle.fit n = true)
    (hk : Cond.classLink own ik E1 ∈ G) (hini : Cond.initialized E1 ∈ G) (hstr : Cond.stringRef own is text ∈ lw_tbl) (hat : ∀ w ∈ Bundle.ownAtoms own ic E1 names, w ∈ G ∨ w ∈ thW ∨ w ∈ thH) (hno : ∀ x ∈ c.exceptionTable.toList, False)
    (d0 : decode cc pc = .ok (.new ik, 3)) (d3 : decode cc (pc + 3) = .ok (.dup, 1)) (d4 : decode cc (pc + 4) = .ok (.ldc is, 2)) (d6 : decode cc (pc + 6) = .ok (.invokespecial ic, 3)) (d9 : decode cc (pc + 9) = .ok (.athrow, 1))
    (hR : names.length + 3 < R.frames ∧ (rest.map fun v => v.category).sum + (13 * (names.length + 1) + 43) ≤ R.locals ∧ cells + 1 ≤ R.cells ∧ slots + 6 ≤ R.slots) (hc : cells + 1 ≤ mc) (hs : slots + 6 ≤ ms) (hv : r = .inl E1) (hws : ws' = ws) : vv p l e R s m args below meth c D cl A nL cells slots (mqx below (qx en D cl A mc ms r ws') args s) (pc) (lv) (rest) (ws) := by
  intro H locs ls hlv hP hD hS T hT X
  subst hws; subst hv
  obtain ⟨a0, ht0, hh0, -⟩ := id h0
  have htr : e.platform.stackTraces = false := by rw [X.admits.platform]; exact hlT
  have Y := st_again X (R1 := { frames := R.frames, locals := R.locals, cells := 1, slots := 6 }) (Nat.le_refl _) (Nat.le_refl _) hR.2.2.1 hR.2.2.2
  generalize hu : (T.setVm s.vm).setFrames (.invoking m args :: below) = u at Y
  have hvm : u.vm = s.vm := by rw [← hu]; rfl
  have hhp : u.heap = H := by rw [← hu]; exact hT
  have hWu : s.WarmedH u.vm := by rw [hvm]; exact State.WarmedH.refl s
  have hLu : lat u0 u u.heap := ⟨by rw [hvm]; exact hX.1, by rw [hhp]; exact Nat.le_trans hX.2.1 hS.1, fun q h => by
    rw [hhp, hS.2.1 q (Nat.lt_of_lt_of_le h hX.2.1) ?_]
    · exact hX.2.2 q h
    · exact fun h9 => Nat.not_le_of_lt h (hA0 q h9)⟩
  have hw : ∀ w ∈ Bundle.ownAtoms own ic E1 names, w.before args u = true := fun w h => (hat w h).elim (fun h => word_at hWu (good_of_word (hg w h)) (C.2.2.2.2.1 w h)) (fun h => h.elim (fun h => thW_at hLu.1 (fun w h => ht0 w (thW_in w h)) w h) (fun h => thH_at h0 hLu w h))
  have hown1 : u.vm.findClass own = some m.cls := by rw [hvm]; exact C.2.2.2.1
  have hk1 := word_at (a' := args) hWu (good_of_word (hg _ hk)) (C.2.2.2.2.1 _ hk)
  have hini1 := word_at (a' := args) hWu (good_of_word (hg _ hini)) (C.2.2.2.2.1 _ hini)
  obtain ⟨-, -, -, sa, -, -, -, -, -, hev0⟩ := Cond.stringRef_spec (show u0.vm.findClass own = some m.cls by rw [← hLu.1.alike.findClass]; exact hown1) (ht0 _ hstr)
  have hvk : vk_R own is text sa u := vk_R.warm hLu.1 (vk_R.of (ht0 _ hstr) hev0)
  obtain ⟨vm1, cX, kX, hfX, hkX, -, -, X1, st1⟩ := Y.newCold C.1 (own := own) (C := E1) (index := ik) (n := 6) hown1 hk1 (hw (.instantiable E1 6) (by simp [Bundle.ownAtoms])) hini1
    (g := F0 m pc ls rest) rfl (by rw [C.2.1]; exact d0) (Nat.le_refl _) (Nat.le_refl _)
  generalize hT1 : (T.setVm vm1).pushCell { cls := cX, slots := kX.instanceTypes.map defaultValue, vm := .none } = T1 at X1 st1
  have hsize1 : T1.heap.size = T.heap.size + 1 := by rw [← hT1]; exact State.heap_size_pushCell _ _
  have hcellA : T1.heap[T.heap.size]? = some (freshCell cX kX) := by rw [← hT1]; exact State.heap_pushCell_size _ _
  have d3' : decode c.code (pc + 3) = .ok (.dup, 1) := by rw [C.2.1]; exact d3
  have d4' : decode c.code (pc + 4) = .ok (.ldc is, 2) := by rw [C.2.1]; exact d4
  have hcat : (Value.ref T.heap.size).category = 1 := rfl
  obtain ⟨U, hsteps, hrun, hend, hW, hsame, ce, hce, hO⟩ := X1.ctorThrowS C.1 htr (own := own) (cls := E1) (names := names) (ic := ic) hown1 hcls hnames hw (fun x hx => nomatch hx) hfX hkX hcellA (by rw [hhp, hT]; exact Nat.le_refl _) (msg := .ref sa) rfl
    (g := { method := m, pc := pc + 6, locals := ls, stack := .ref sa :: .ref T.heap.size :: .ref T.heap.size :: rest, locked := none }) rfl (hlv.1.trans C.2.2.1.symm) rfl rfl (rest := rest) rfl
    (by rw [C.2.1]; exact d6) (by rw [C.2.1]; exact d9) (fun x hx => (hno x hx).elim) hR.1 (by
      have h9 := hR.2.1
      simp only [List.map_cons, List.sum_cons, hcat]
      omega) C.2.2.2.2.2.2.2
  have hkeep : ∀ q : Nat, q < H.size → U.heap[q]? = H[q]? := fun q h => by
    have h9 := same_keep hsame (q := q) (by rw [hhp]; exact h)
    rw [hhp] at h9
    exact h9
  have hgrow : H.size ≤ U.heap.size := by
    have h9 : u.heap.size ≤ U.heap.size := hsame.2.1
    rw [hhp] at h9
    exact h9
  have hall : s.sameButNew ({ U with vm := s.vm } : State) locs mc ms := by
    rw [hvm] at hsame
    rw [← hu] at hsame
    obtain ⟨e1, e2⟩ := hsame
    rw [State.setFrames_setFrames] at e1
    have h2 : (T.setVm s.vm).sameButNew ({ U with vm := s.vm } : State) [] (0 + 1) (0 + 6) := ⟨e1, e2⟩
    have h3 := X.same.trans h2
    rw [List.append_nil] at h3
    exact h3.mono hc hs
  refine ⟨U, st1 _ ?_, .threw T.heap.size, hrun, hend, ⟨T.heap.size, ce, rfl, hce, hO.vm, ?_⟩, ⟨hP.kept (fun k q hq => hkeep q.1 (hP k q hq).lt), hD⟩, ⟨Nat.le_trans hS.1 hgrow, fun q h1 h2 => (hkeep q (Nat.lt_of_lt_of_le h1 hS.1)).trans (hS.2.1 q h1 h2)⟩, locs, ⟨State.WarmedH.trans hWu hW, hall⟩, hS.2.2⟩
  · show Steps p.tables e below (T1.setTop { method := m, pc := pc + 3, locals := ls, stack := .ref T.heap.size :: rest, locked := none }) _
    jvm_step X1.here [X1.here.top, C.1, d3', Value.category]
    exact X1.ldcString C.1 (own := own) (text := text) (index := is) (a := sa) hown1 hvk.1 hvk.2
      (g := { method := m, pc := pc + 4, locals := ls, stack := .ref T.heap.size :: .ref T.heap.size :: rest, locked := none }) rfl d4' _ hsteps
  · have h9 := hO.cls
    rw [hvm] at h9
    exact h9
end RT
