theorem P_mem {D : va_G} {cl : List vw_C} {ws ws' : va_W} {H : Heap} (h : va_P D cl ws H) (hm : ∀ q, q ∈ ws' → q ∈ ws) : va_P D cl ws' H := fun k q hk => by
  obtain ⟨i, hi⟩ := List.getElem?_of_mem (hm q (List.mem_of_getElem? hk))
  exact h i q hi
theorem D_nodup {A : Nat → Prop} {ws : va_W} : va_D A ws ↔ (ws.map (·.1)).Nodup ∧ ∀ q ∈ ws, A q.1 := by
  constructor
  · intro h
    refine ⟨?_, fun q hq => ?_⟩
    · rw [List.nodup_iff_pairwise_ne, List.pairwise_iff_getElem]
      intro i j hi hj hij he
      rw [List.length_map] at hi hj
      rw [List.getElem_map, List.getElem_map] at he
      exact absurd (h.1 i j _ _ (List.getElem?_eq_getElem hi) (List.getElem?_eq_getElem hj) he) (Nat.ne_of_lt hij)
    · obtain ⟨i, hi⟩ := List.getElem?_of_mem hq
      exact h.2 i q hi
  · rintro ⟨h1, h2⟩
    refine ⟨fun i j p q hi hj he => ?_, fun k q hk => h2 q (List.mem_of_getElem? hk)⟩
    obtain ⟨hi1, hi2⟩ := List.getElem?_eq_some_iff.mp hi
    obtain ⟨hj1, hj2⟩ := List.getElem?_eq_some_iff.mp hj
    rw [List.nodup_iff_pairwise_ne, List.pairwise_iff_getElem] at h1
    rcases Nat.lt_trichotomy i j with hij | hij | hij
    · exact absurd (by rw [List.getElem_map, List.getElem_map, hi2, hj2]; exact he) (h1 i j (by rw [List.length_map]; exact hi1) (by rw [List.length_map]; exact hj1) hij)
    · exact hij
    · exact absurd (by rw [List.getElem_map, List.getElem_map, hi2, hj2]; exact he.symm) (h1 j i (by rw [List.length_map]; exact hj1) (by rw [List.length_map]; exact hi1) hij)
theorem D_perm {A : Nat → Prop} {ws ws' : va_W} (hp : ws.Perm ws') (h : va_D A ws) : va_D A ws' := by
  rw [D_nodup] at h ⊢
  exact ⟨(hp.map _).nodup_iff.mp h.1, fun q hq => h.2 q (hp.mem_iff.mpr hq)⟩
/-- the end's world is one of a kind -/
def qcG (D : va_G) (cl : List vw_C) (A : Nat → Prop) (r : Option Value) (PW : va_W → Prop) : Array Value → State → Outcome → State → Prop := fun _ st o t => (∃ ws, PW ws ∧ o = .returned r ∧ va_P D cl ws t.heap ∧ va_D A ws) ∧ va_F A st t
def cmg (l : Launch) (E : State → Heap → Prop) (D : va_G) (cl : List vw_C) (tys : List (ClassId × FieldType)) (A : Nat → Prop) (G : List Cond) (y : MethodName) (bytes : ByteArray) (maxL : Nat) (ret : Option FieldType) (rm : Room) (as : List Value) (ws : va_W) (r : Option Value) (PW : va_W → Prop) : Prop :=
  Met l y (Cond.code y bytes maxL ret :: G) rm (pcI E D cl tys A as ws) (qcG D cl A r PW) rm.cells rm.slots A
section RG
variable {p : Program} {l : Launch} {e : Env} {R : Room} {s : State} {m : MethodId} {args : Array Value} {below : List Frame} {meth : Method} {c : Code} {cells slots : Nat} {Q : State → Prop}
variable {D : va_G} {cl : List vw_C} {tys : List (ClassId × FieldType)} {A : Nat → Prop} {G : List Cond} {E : State → Heap → Prop} {own : String} {cc : ByteArray} {nL pc : Nat} {lv : List (Nat × Value)} {rest : List Value} {ws : va_W}
theorem r_perm {ws' : va_W} (hp : ws.Perm ws') (k : vv p l e R s m args below meth c D cl A nL cells slots Q (pc) (lv) (rest) (ws')) : vv p l e R s m args below meth c D cl A nL cells slots Q (pc) (lv) (rest) (ws) :=
  fun H locs ls hl hP hD hS => k H locs ls hl (P_mem hP fun _ h => hp.mem_iff.mpr h) (D_perm hp hD) hS
theorem r_newF (C : cx p s m args meth c D cl tys A G own cc nL) {Cn : String} {T : u_T} {N ci index : Nat} (hin : ∀ w ∈ u_ws Cn T N, w ∈ G) (ty : Nat → FieldType) (hty : ∀ k, k < N → parseFieldDescriptor (T k).2.2.1 = some (ty k)) (hcl : Cond.classLink own index Cn ∈ G) (hinst : Cond.instantiable Cn N ∈ G) (hini : Cond.initialized Cn ∈ G) (hc : cl[ci]? = some (Cn, T, N)) {fs : List Value} (hfs : ∀ j, j < N → defaultValue (ty j) = vp_V fs j) (hcells : cells + 1 ≤ R.cells) (hslots : slots + N ≤ R.slots) (d : decode cc pc = .ok (.new index, 3))
    (k : ∀ q : Nat, vv p l e R s m args below meth c D cl A nL (cells + 1) (slots + N) Q (pc + 3) (lv) (.ref q :: rest) ((q, .inr (ci, fs)) :: ws)) : vv p l e R s m args below meth c D cl A nL cells slots Q (pc) (lv) (rest) (ws) :=
  r_new C hin ty hty hcl hinst hini hc hfs hcells hslots d fun q => r_perm (List.perm_append_singleton _ _) (k q)
theorem r_newaF (C : cx p s m args meth c D cl tys A G own cc nL) {atype : ArrayType} {ty : FieldType} (harr : Cond.arrayClass (newarray.typeOf atype) ∈ G) (hty : newarray.typeOf atype = ty) (t0 : Nat) {cA : ClassId} (ht : tys[t0]? = some (cA, ty)) (hpr : ∀ (U : State) (q : ClassId), va_RA U q ty → U.vm.findClass ("[" ++ ty.toString) = some q)
    {n : Int32} {N' : Nat} {a0 : vp_A} (ha : ∀ q : ClassId, vp_cell q a0 = arrV q N' (fun _ => defaultValue ty)) (hn : ¬ n < 0) (hN : n.toNatClampNeg = N') (hbytes : N' * componentBytes ty ≤ 536870912) (hcells : cells + 1 ≤ R.cells) (hslots : slots + N' ≤ R.slots) (d : decode cc pc = .ok (.newarray atype, 2))
    (k : ∀ q : Nat, vv p l e R s m args below meth c D cl A nL (cells + 1) (slots + N') Q (pc + 2) (lv) (.ref q :: rest) ((q, .inl (cA, a0)) :: ws)) : vv p l e R s m args below meth c D cl A nL cells slots Q (pc) (lv) (.int n :: rest) (ws) :=
  r_newa C harr hty t0 ht hpr ha hn hN hbytes hcells hslots d fun q => r_perm (List.perm_append_singleton _ _) (k q)
theorem r_callG (hE : stb A E) (hg : ∀ w ∈ G, goodWord w = true) (C : cx p s m args meth c D cl tys A G own cc nL) (hX : E s s.heap) {y : MethodName} {bytes : ByteArray} {maxL index b : Nat} {rm : Room} {As : List Value} {PW : va_W → Prop} (hM : cmg l E D cl tys A G y bytes maxL none rm (.ref b :: As) ws none PW) (hnm : y.name = "<init>")
    (h1 : Cond.methodLink own index y ∈ G) (h2 : Cond.instanceMethod y ∈ G) (h4 : Cond.initialized y.cls ∈ G) (h5 : Cond.code y bytes maxL none ∈ G)
    (hd : y.cls ≠ "java/lang/invoke/MethodHandle" ∧ y.cls ≠ "java/lang/invoke/VarHandle" ∧ (parseMethodDescriptor y.desc).map (fun d => d.parameters.length) = some As.length)
    (hR : (rm.frames + 1 ≤ R.frames ∧ 8 + (maxL + 11) + rm.locals ≤ R.locals) ∧ cells + rm.cells ≤ R.cells ∧ slots + rm.slots ≤ R.slots) (hsum : (rest.map fun v => v.category).sum ≤ 8)
    {st0 : List Value} (hst0 : st0 = As.reverse ++ .ref b :: rest) (d : decode cc pc = .ok (.invokespecial index, 3))
    (k : ∀ ws', PW ws' → vv p l e R s m args below meth c D cl A nL (cells + rm.cells) (slots + rm.slots) Q (pc + 3) (lv) (rest) (ws')) : vv p l e R s m args below meth c D cl A nL cells slots Q (pc) (lv) (st0) (ws) := by
  intro H locs ls hl hP hD hS T hT X
  have hr := va_runI (mc := rm.cells) (ms := rm.slots) (free := A) (Qc := qcG D cl A none PW) (H := H) (locs := locs) (cells := cells) (slots := slots) (meth := meth) (below := below) (e := e) (g := F0 m pc ls st0) (As := As) (rest := rest) ⟨C.1, C.2.1, C.2.2.1, C.2.2.2.1, C.2.2.2.2.1⟩ hM ⟨callB_of As.length C.2.2.2.2.1 (good_tab hg h5) rfl rfl rfl (C.2.2.2.2.1 _ h4) (C.2.2.2.2.1 _ h1) hd hR.1, hnm, C.2.2.2.2.1 _ h2⟩ ⟨pcI_blind hE, fun U hU hW => pcI_at hE C hX hP hD hS U hU hW⟩ rfl rfl hl.1 hst0 (lv_room hsum) d hR.2
  obtain ⟨v, st₀, t, T', L, h0, X', hL, e1, e2, ⟨⟨ws', hpw, ho, hP', hD'⟩, hz, hk⟩, st⟩ := hr T hT X
  cases ho
  rw [h0] at hz hk
  obtain ⟨t2, a1, b1⟩ := k ws' hpw T'.heap (locs ++ L) ls hl (by rw [e1]; exact hP') hD'
    ⟨Nat.le_trans hS.1 (by rw [e1]; exact hz), fun q h1 h2 => by rw [e1, hk q (Nat.lt_of_lt_of_le h1 hS.1) h2]; exact hS.2.1 q h1 h2, fun q hq => by
      rcases List.mem_append.mp hq with h | h
      · exact hS.2.2 q h
      · exact hL q h⟩ T' rfl X'
  exact ⟨t2, st t2 a1, b1⟩
theorem r_vretG (C : cx p s m args meth c D cl tys A G own cc nL) {PW : va_W → Prop} (hr : meth.sig.returnType = none) (hws : PW ws) (d : decode cc pc = .ok (.return_, 1)) : vv p l e R s m args below meth c D cl A nL cells slots (MQ below (qcG D cl A none PW) args s cells slots A) (pc) (lv) ([]) (ws) := by
  intro H locs ls hl hP hD hS
  exact W.vret C.1 C.2.1 hr (fun t ht hW => ⟨⟨ws, hws, rfl, by rw [ht]; exact hP, hD⟩, hS.F ht⟩) hS.2.2 d C.2.2.2.2.2.2.2
end RG
theorem r_metg {l : Launch} {E : State → Heap → Prop} {D : va_G} {cl : List vw_C} {tys : List (ClassId × FieldType)} {A : Nat → Prop} {G : List Cond} {y : MethodName} {bytes : ByteArray} {maxL : Nat} {ret : Option FieldType} {rm : Room} {as : List Value} {ws : va_W} {r : Option Value} {PW : va_W → Prop}
    {own : String} (ho : y.cls = own) (hy : plainName own = true) (hlen : (lg_sl as).length ≤ maxL) {lv : List (Nat × Value)} (hlv : lv_args 0 as = lv)
    (body : ∀ (p : Program) (e : Env) (s : State) (m : MethodId) (args : Array Value) (below : List Frame) (meth : Method) (c : Code), cx p s m args meth c D cl tys A G own bytes maxL → meth.sig.returnType = ret → meth.name = y.name → E s s.heap →
      vv p l e rm s m args below meth c D cl A maxL 0 0 (MQ below (qcG D cl A r PW) args s rm.cells rm.slots A) 0 lv [] ws) : cmg l E D cl tys A G y bytes maxL ret rm as ws r PW := by
  subst hlv; subst ho
  refine Met.ofW (cc := bytes) (maxL := maxL) (ret := ret) hy rfl ?_
  intro p e s m args below meth c s₁ B hml hv
  obtain ⟨rfl, hP, hD, hK, hA, hX⟩ := hv
  have hts := atoms_spec (ws := Cond.code y bytes maxL ret :: G) B.pre
  rw [lg_entry_eq]
  exact body p e s m _ below meth c ⟨B.exec, B.bytes, hml, findClass_of_methodNamed B.named, fun w h => hts w (List.mem_cons_of_mem _ h), hK, hA, B.notSynchronized⟩ B.returns (name_of_methodNamed B.named B.method).1 hX _ [] _ (lv_entry as hlen) hP hD va_S.rf
