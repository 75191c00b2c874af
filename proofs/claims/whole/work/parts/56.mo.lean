def jn_Mo_isAlike_21 (z : Unit) : Option (Int32) :=
  some (0)
def bd_Mo_isAlike_25 (md : MD) (mr : MR) (kx : Int32 → Option (Int32)) (rec : Int32 → Option (Int32)) (z : Int32) : Option (Int32) :=
  (if md.2.1 ≤ z then kx z else (if (((1 : Int32) + z) < 0 ∨ 200 ≤ ((1 : Int32) + z).toNatClampNeg) then none else (if (z < 0 ∨ 8 ≤ z.toNatClampNeg) then none else (if mr.2 ((1 : Int32) + z).toNatClampNeg = md.2.2.2.2.1 z.toNatClampNeg then rec (z + 1) else some (0)))))
def bd_Mo_isAlike_82 (md : MD) (mr : MR) (kx : Int32 × Int32 → Option (Int32)) (rec : Int32 × Int32 → Option (Int32)) (z : Int32 × Int32) : Option (Int32) :=
  (if md.2.2.1 ≤ z.2 then kx (z.1, z.2) else (if (((z.1 + (1 : Int32)) + z.2) < 0 ∨ 200 ≤ ((z.1 + (1 : Int32)) + z.2).toNatClampNeg) then none else (if (z.2 < 0 ∨ 8 ≤ z.2.toNatClampNeg) then none else (if mr.2 ((z.1 + (1 : Int32)) + z.2).toNatClampNeg = md.2.2.2.2.2.1 z.2.toNatClampNeg then rec (z.1, z.2 + 1) else some (0)))))
def jn_Mo_isAlike_246 (md : MD) (kx : Int32 × Int32 → Option (Int32)) (rec : Int32 × Int32 → Option (Int32)) (z : Int32 × Int32 × Int32) : Option (Int32) :=
  (if (z.2.1 < 0 ∨ 24 ≤ z.2.1.toNatClampNeg) then none else (if z.2.2 = md.2.2.2.2.2.2.2.2.2.2 z.2.1.toNatClampNeg then rec (z.1 + 5, z.2.1 + 1) else some (0)))
def jn_Mo_isAlike_220 (md : MD) (mr : MR) (kx : Int32 × Int32 → Option (Int32)) (rec : Int32 × Int32 → Option (Int32)) (z : Int32 × Int32 × Int32) : Option (Int32) :=
  (if (z.2.1 < 0 ∨ 24 ≤ z.2.1.toNatClampNeg) then none else (if z.2.2 = md.2.2.2.2.2.2.2.2.2.1 z.2.1.toNatClampNeg then (if ((z.1 + (4 : Int32)) < 0 ∨ 200 ≤ (z.1 + (4 : Int32)).toNatClampNeg) then none else (if mr.2 (z.1 + (4 : Int32)).toNatClampNeg = 1 then (jn_Mo_isAlike_246 md kx rec (z.1, z.2.1, 1)) else (jn_Mo_isAlike_246 md kx rec (z.1, z.2.1, 0)))) else some (0)))
def bd_Mo_isAlike_146 (md : MD) (mr : MR) (kx : Int32 × Int32 → Option (Int32)) (rec : Int32 × Int32 → Option (Int32)) (z : Int32 × Int32) : Option (Int32) :=
  (if md.2.2.2.1 ≤ z.2 then kx (z.1, z.2) else (if (z.1 < 0 ∨ 200 ≤ z.1.toNatClampNeg) then none else (if (z.2 < 0 ∨ 24 ≤ z.2.toNatClampNeg) then none else (if mr.2 z.1.toNatClampNeg = md.2.2.2.2.2.2.1 z.2.toNatClampNeg then (if ((z.1 + (1 : Int32)) < 0 ∨ 200 ≤ (z.1 + (1 : Int32)).toNatClampNeg) then none else (if (z.2 < 0 ∨ 24 ≤ z.2.toNatClampNeg) then none else (if mr.2 (z.1 + (1 : Int32)).toNatClampNeg = md.2.2.2.2.2.2.2.1 z.2.toNatClampNeg then (if ((z.1 + (2 : Int32)) < 0 ∨ 200 ≤ (z.1 + (2 : Int32)).toNatClampNeg) then none else (if (z.2 < 0 ∨ 24 ≤ z.2.toNatClampNeg) then none else (if mr.2 (z.1 + (2 : Int32)).toNatClampNeg = md.2.2.2.2.2.2.2.2.1 z.2.toNatClampNeg then (if ((z.1 + (3 : Int32)) < 0 ∨ 200 ≤ (z.1 + (3 : Int32)).toNatClampNeg) then none else (if mr.2 (z.1 + (3 : Int32)).toNatClampNeg = 1 then (jn_Mo_isAlike_220 md mr kx rec (z.1, z.2, 1)) else (jn_Mo_isAlike_220 md mr kx rec (z.1, z.2, 0)))) else some (0)))) else some (0)))) else some (0)))))
def f_Mo_isAlike (mz : Int32) (md : MD) (mr : MR) : Option (Int32) :=
  (if mz = (-1) then (jn_Mo_isAlike_21 ()) else (if ((0 : Int32) < 0 ∨ 200 ≤ (0 : Int32).toNatClampNeg) then none else (if mr.2 (0 : Int32).toNatClampNeg = md.2.1 then (itn (bd_Mo_isAlike_25 md mr (fun z819 => (if ((md.2.1 + (1 : Int32)) < 0 ∨ 200 ≤ (md.2.1 + (1 : Int32)).toNatClampNeg) then none else (if mr.2 (md.2.1 + (1 : Int32)).toNatClampNeg = md.2.2.1 then (itn (bd_Mo_isAlike_82 md mr (fun z828 => (if ((z828.1 + (md.2.2.1 + (1 : Int32))) < 0 ∨ 200 ≤ (z828.1 + (md.2.2.1 + (1 : Int32))).toNatClampNeg) then none else (if mr.2 (z828.1 + (md.2.2.1 + (1 : Int32))).toNatClampNeg = md.2.2.2.1 then (itn (bd_Mo_isAlike_146 md mr (fun z865 => some (1))) 70 ((z828.1 + (md.2.2.1 + (1 : Int32))) + 1, 0)) else some (0))))) 70 (md.2.1 + (1 : Int32), 0)) else some (0))))) 70 (0)) else (jn_Mo_isAlike_21 ()))))
abbrev rm_Mo_isAlike : Room := { frames := 0, cells := 0, slots := 0, locals := 0 }
theorem hd_Mo_isAlike : y_Mo_isAlike.cls ≠ "java/lang/invoke/MethodHandle" ∧ y_Mo_isAlike.cls ≠ "java/lang/invoke/VarHandle" ∧ (parseMethodDescriptor y_Mo_isAlike.desc).map (fun d => d.parameters.length) = some 0 := by decide +kernel
set_option maxHeartbeats 4000000 in
set_option maxRecDepth 100000 in
theorem vj_Mo_isAlike_21_M {l : Launch} {E : State → Heap → Prop} {D : va_G} {A : Nat → Prop} {cI cZ cJ : ClassId} (hE : stb A E) {ad : Nat → Nat} {mk : Int32} {mu : Int64} {mz : Int32} {mw : Int32} {mo : (Nat → Int32)} {md : MD} {mr : MR} {mp : MP} {rest : va_W} {p : Program} {e : Env} {sg : State} {m : MethodId} {args : Array Value} {below : List Frame} {meth : Method} {c : Code} (C : cx p sg m args meth c D clsA (TY cI cZ cJ) A GG R_Mo b_Mo_isAlike 3) (hr : meth.sig.returnType = (some .boolean)) (hX : E sg sg.heap) {q : Int32} :
    ∀ z : Unit, jn_Mo_isAlike_21 z = some q → vv p l e rm_Mo_isAlike sg m args below meth c D clsA A 3 0 0 (MQ below (qcI D clsA A (some (.int q)) (WM ad cI cZ mk mu mz mw mo md mr mp rest)) args sg rm_Mo_isAlike.cells rm_Mo_isAlike.slots A) 21 [(0, .ref (ad 11))] [] (WM ad cI cZ mk mu mz mw mo md mr mp rest) := by
  have _ := hE
  intro zv0 h
  have _ := h
  unfold jn_Mo_isAlike_21 at h
  (try dsimp only at h)
  show vv p l e rm_Mo_isAlike sg m args below meth c D clsA A 3 0 0 (MQ below (qcI D clsA A (some (.int q)) (WM ad cI cZ mk mu mz mw mo md mr mp rest)) args sg rm_Mo_isAlike.cells rm_Mo_isAlike.slots A) 21 [(0, .ref (ad 11))] [] (WM ad cI cZ mk mu mz mw mo md mr mp rest)
  refine r_iconst (pc := 21) (v := 0) C d_Mo_isAlike_21 (by decide) ?_
  cases h
  exact r_iret (pc := 22) C hr rfl rfl rfl d_Mo_isAlike_22
set_option maxHeartbeats 4000000 in
set_option maxRecDepth 100000 in
theorem vl_Mo_isAlike_25_M {l : Launch} {E : State → Heap → Prop} {D : va_G} {A : Nat → Prop} {cI cZ cJ : ClassId} (hE : stb A E) {ad : Nat → Nat} {mk : Int32} {mu : Int64} {mz : Int32} {mw : Int32} {mo : (Nat → Int32)} {md : MD} {mr : MR} {mp : MP} {rest : va_W} {p : Program} {e : Env} {sg : State} {m : MethodId} {args : Array Value} {below : List Frame} {meth : Method} {c : Code} (C : cx p sg m args meth c D clsA (TY cI cZ cJ) A GG R_Mo b_Mo_isAlike 3) (hr : meth.sig.returnType = (some .boolean)) (hX : E sg sg.heap) {q : Int32} {kx : Int32 → Option (Int32)} (K : ∀ z : Int32, kx z = some q → vv p l e rm_Mo_isAlike sg m args below meth c D clsA A 3 0 0 (MQ below (qcI D clsA A (some (.int q)) (WM ad cI cZ mk mu mz mw mo md mr mp rest)) args sg rm_Mo_isAlike.cells rm_Mo_isAlike.slots A) 58 [(0, .ref (ad 11)), (1, .int z)] [] (WM ad cI cZ mk mu mz mw mo md mr mp rest)) :
    ∀ (n : Nat) (z : Int32), itn (bd_Mo_isAlike_25 md mr kx) n z = some q → vv p l e rm_Mo_isAlike sg m args below meth c D clsA A 3 0 0 (MQ below (qcI D clsA A (some (.int q)) (WM ad cI cZ mk mu mz mw mo md mr mp rest)) args sg rm_Mo_isAlike.cells rm_Mo_isAlike.slots A) 25 [(0, .ref (ad 11)), (1, .int z)] [] (WM ad cI cZ mk mu mz mw mo md mr mp rest) := by
  have _ := hE
  intro n
  induction n with
  | zero => intro z h; cases h
  | succ n ih =>
    intro zv0 h
    have _ := h
    replace h : bd_Mo_isAlike_25 md mr kx (itn (bd_Mo_isAlike_25 md mr kx) n) zv0 = some q := h
    unfold bd_Mo_isAlike_25 at h
    (try dsimp only at h)
    show vv p l e rm_Mo_isAlike sg m args below meth c D clsA A 3 0 0 (MQ below (qcI D clsA A (some (.int q)) (WM ad cI cZ mk mu mz mw mo md mr mp rest)) args sg rm_Mo_isAlike.cells rm_Mo_isAlike.slots A) 25 [(0, .ref (ad 11)), (1, .int zv0)] [] (WM ad cI cZ mk mu mz mw mo md mr mp rest)
    refine r_iload_n (pc := 25) C d_Mo_isAlike_25 rfl 1 rfl ?_
    refine r_aload_n (pc := 26) C d_Mo_isAlike_26 rfl 0 rfl ?_
    refine r_get (pc := 27) (v := .int md.2.1) C hin_Mo 11 rfl rfl 6 (by decide) mm_16 rfl rfl d_Mo_isAlike_27 ?_
    refine r_icmp_ge (pc := 30) (tgt := 58) C d_Mo_isAlike_30 (by decide) (fun c818 => ?_) (fun c818 => ?_)
    · replace h := ip c818 h
      refine r_loc (lv' := [(0, .ref (ad 11)), (1, .int zv0)]) [0, 1] rfl ?_
      exact K zv0 h
    · replace h := iN c818 h
      refine r_aload_n (pc := 33) C d_Mo_isAlike_33 rfl 0 rfl ?_
      refine r_get (pc := 34) (v := .ref (ad 2)) C hin_Mo 11 rfl rfl 17 (by decide) mm_6 rfl rfl d_Mo_isAlike_34 ?_
      refine r_iconst (pc := 37) (v := 1) C d_Mo_isAlike_37 (by decide) ?_
      refine r_iload_n (pc := 38) C d_Mo_isAlike_38 rfl 1 rfl ?_
      refine r_iadd (pc := 39) C d_Mo_isAlike_39 ?_
      obtain ⟨hi817, h⟩ := ign h
      refine r_iald (pc := 40) C 2 0 rfl rfl hi817 d_Mo_isAlike_40 ?_
      refine r_aload_n (pc := 41) C d_Mo_isAlike_41 rfl 0 rfl ?_
      refine r_get (pc := 42) (v := .ref (ad 9)) C hin_Mo 11 rfl rfl 7 (by decide) mm_17 rfl rfl d_Mo_isAlike_42 ?_
      refine r_iload_n (pc := 45) C d_Mo_isAlike_45 rfl 1 rfl ?_
      obtain ⟨hi816, h⟩ := ign h
      refine r_iald (pc := 46) C 9 0 rfl rfl hi816 d_Mo_isAlike_46 ?_
      refine r_icmp_eq (pc := 47) (tgt := 52) C d_Mo_isAlike_47 (by decide) (fun c815 => ?_) (fun c815 => ?_)
      · replace h := ip c815 h
        refine r_iincK (pc := 52) (w0 := 1) (lv' := [(1, .int (zv0 + 1)), (0, .ref (ad 11))]) C d_Mo_isAlike_52 (by decide) 1 rfl (by decide) rfl ?_
        refine r_goto (pc := 55) (tgt := 25) C d_Mo_isAlike_55 (by decide) ?_
        refine r_loc (lv' := [(0, .ref (ad 11)), (1, .int (zv0 + 1))]) [1, 0] rfl ?_
        exact ih (zv0 + 1) h
      · replace h := iN c815 h
        refine r_iconst (pc := 50) (v := 0) C d_Mo_isAlike_50 (by decide) ?_
        cases h
        exact r_iret (pc := 51) C hr rfl rfl rfl d_Mo_isAlike_51
set_option maxHeartbeats 4000000 in
set_option maxRecDepth 100000 in
theorem vl_Mo_isAlike_82_M {l : Launch} {E : State → Heap → Prop} {D : va_G} {A : Nat → Prop} {cI cZ cJ : ClassId} (hE : stb A E) {ad : Nat → Nat} {mk : Int32} {mu : Int64} {mz : Int32} {mw : Int32} {mo : (Nat → Int32)} {md : MD} {mr : MR} {mp : MP} {rest : va_W} {p : Program} {e : Env} {sg : State} {m : MethodId} {args : Array Value} {below : List Frame} {meth : Method} {c : Code} (C : cx p sg m args meth c D clsA (TY cI cZ cJ) A GG R_Mo b_Mo_isAlike 3) (hr : meth.sig.returnType = (some .boolean)) (hX : E sg sg.heap) {q : Int32} {kx : Int32 × Int32 → Option (Int32)} (K : ∀ z : Int32 × Int32, kx z = some q → vv p l e rm_Mo_isAlike sg m args below meth c D clsA A 3 0 0 (MQ below (qcI D clsA A (some (.int q)) (WM ad cI cZ mk mu mz mw mo md mr mp rest)) args sg rm_Mo_isAlike.cells rm_Mo_isAlike.slots A) 117 [(0, .ref (ad 11)), (1, .int z.1), (2, .int z.2)] [] (WM ad cI cZ mk mu mz mw mo md mr mp rest)) :
    ∀ (n : Nat) (z : Int32 × Int32), itn (bd_Mo_isAlike_82 md mr kx) n z = some q → vv p l e rm_Mo_isAlike sg m args below meth c D clsA A 3 0 0 (MQ below (qcI D clsA A (some (.int q)) (WM ad cI cZ mk mu mz mw mo md mr mp rest)) args sg rm_Mo_isAlike.cells rm_Mo_isAlike.slots A) 82 [(0, .ref (ad 11)), (1, .int z.1), (2, .int z.2)] [] (WM ad cI cZ mk mu mz mw mo md mr mp rest) := by
  have _ := hE
  intro n
  induction n with
  | zero => intro z h; cases h
  | succ n ih =>
    intro z h
    obtain ⟨zv0, zv1⟩ := z
    replace h : bd_Mo_isAlike_82 md mr kx (itn (bd_Mo_isAlike_82 md mr kx) n) (zv0, zv1) = some q := h
    unfold bd_Mo_isAlike_82 at h
    (try dsimp only at h)
    show vv p l e rm_Mo_isAlike sg m args below meth c D clsA A 3 0 0 (MQ below (qcI D clsA A (some (.int q)) (WM ad cI cZ mk mu mz mw mo md mr mp rest)) args sg rm_Mo_isAlike.cells rm_Mo_isAlike.slots A) 82 [(0, .ref (ad 11)), (1, .int zv0), (2, .int zv1)] [] (WM ad cI cZ mk mu mz mw mo md mr mp rest)
    refine r_iload_n (pc := 82) C d_Mo_isAlike_82 rfl 2 rfl ?_
    refine r_aload_n (pc := 83) C d_Mo_isAlike_83 rfl 0 rfl ?_
    refine r_get (pc := 84) (v := .int md.2.2.1) C hin_Mo 11 rfl rfl 8 (by decide) mm_18 rfl rfl d_Mo_isAlike_84 ?_
    refine r_icmp_ge (pc := 87) (tgt := 117) C d_Mo_isAlike_87 (by decide) (fun c827 => ?_) (fun c827 => ?_)
    · replace h := ip c827 h
      refine r_loc (lv' := [(0, .ref (ad 11)), (1, .int zv0), (2, .int zv1)]) [0, 1, 2] rfl ?_
      exact K (zv0, zv1) h
    · replace h := iN c827 h
      refine r_aload_n (pc := 90) C d_Mo_isAlike_90 rfl 0 rfl ?_
      refine r_get (pc := 91) (v := .ref (ad 2)) C hin_Mo 11 rfl rfl 17 (by decide) mm_6 rfl rfl d_Mo_isAlike_91 ?_
      refine r_iload_n (pc := 94) C d_Mo_isAlike_94 rfl 1 rfl ?_
      refine r_iconst (pc := 95) (v := 1) C d_Mo_isAlike_95 (by decide) ?_
      refine r_iadd (pc := 96) C d_Mo_isAlike_96 ?_
      refine r_iload_n (pc := 97) C d_Mo_isAlike_97 rfl 2 rfl ?_
      refine r_iadd (pc := 98) C d_Mo_isAlike_98 ?_
      obtain ⟨hi826, h⟩ := ign h
      refine r_iald (pc := 99) C 2 0 rfl rfl hi826 d_Mo_isAlike_99 ?_
      refine r_aload_n (pc := 100) C d_Mo_isAlike_100 rfl 0 rfl ?_
      refine r_get (pc := 101) (v := .ref (ad 8)) C hin_Mo 11 rfl rfl 9 (by decide) mm_19 rfl rfl d_Mo_isAlike_101 ?_
      refine r_iload_n (pc := 104) C d_Mo_isAlike_104 rfl 2 rfl ?_
      obtain ⟨hi825, h⟩ := ign h
      refine r_iald (pc := 105) C 8 0 rfl rfl hi825 d_Mo_isAlike_105 ?_
      refine r_icmp_eq (pc := 106) (tgt := 111) C d_Mo_isAlike_106 (by decide) (fun c824 => ?_) (fun c824 => ?_)
      · replace h := ip c824 h
        refine r_iincK (pc := 111) (w0 := 1) (lv' := [(2, .int (zv1 + 1)), (0, .ref (ad 11)), (1, .int zv0)]) C d_Mo_isAlike_111 (by decide) 2 rfl (by decide) rfl ?_
        refine r_goto (pc := 114) (tgt := 82) C d_Mo_isAlike_114 (by decide) ?_
        refine r_loc (lv' := [(0, .ref (ad 11)), (1, .int zv0), (2, .int (zv1 + 1))]) [1, 2, 0] rfl ?_
        exact ih (zv0, zv1 + 1) h
      · replace h := iN c824 h
        refine r_iconst (pc := 109) (v := 0) C d_Mo_isAlike_109 (by decide) ?_
        cases h
        exact r_iret (pc := 110) C hr rfl rfl rfl d_Mo_isAlike_110
set_option maxHeartbeats 4000000 in
set_option maxRecDepth 100000 in
theorem vj_Mo_isAlike_246_M {l : Launch} {E : State → Heap → Prop} {D : va_G} {A : Nat → Prop} {cI cZ cJ : ClassId} (hE : stb A E) {ad : Nat → Nat} {mk : Int32} {mu : Int64} {mz : Int32} {mw : Int32} {mo : (Nat → Int32)} {md : MD} {mr : MR} {mp : MP} {rest : va_W} {p : Program} {e : Env} {sg : State} {m : MethodId} {args : Array Value} {below : List Frame} {meth : Method} {c : Code} (C : cx p sg m args meth c D clsA (TY cI cZ cJ) A GG R_Mo b_Mo_isAlike 3) (hr : meth.sig.returnType = (some .boolean)) (hX : E sg sg.heap) {q : Int32} {kx rec : Int32 × Int32 → Option (Int32)} (K : ∀ z : Int32 × Int32, kx z = some q → vv p l e rm_Mo_isAlike sg m args below meth c D clsA A 3 0 0 (MQ below (qcI D clsA A (some (.int q)) (WM ad cI cZ mk mu mz mw mo md mr mp rest)) args sg rm_Mo_isAlike.cells rm_Mo_isAlike.slots A) 266 [(0, .ref (ad 11)), (1, .int z.1), (2, .int z.2)] [] (WM ad cI cZ mk mu mz mw mo md mr mp rest)) (ih : ∀ z : Int32 × Int32, rec z = some q → vv p l e rm_Mo_isAlike sg m args below meth c D clsA A 3 0 0 (MQ below (qcI D clsA A (some (.int q)) (WM ad cI cZ mk mu mz mw mo md mr mp rest)) args sg rm_Mo_isAlike.cells rm_Mo_isAlike.slots A) 146 [(0, .ref (ad 11)), (1, .int z.1), (2, .int z.2)] [] (WM ad cI cZ mk mu mz mw mo md mr mp rest)) :
    ∀ z : Int32 × Int32 × Int32, jn_Mo_isAlike_246 md kx rec z = some q → vv p l e rm_Mo_isAlike sg m args below meth c D clsA A 3 0 0 (MQ below (qcI D clsA A (some (.int q)) (WM ad cI cZ mk mu mz mw mo md mr mp rest)) args sg rm_Mo_isAlike.cells rm_Mo_isAlike.slots A) 246 [(0, .ref (ad 11)), (1, .int z.1), (2, .int z.2.1)] [.int z.2.2] (WM ad cI cZ mk mu mz mw mo md mr mp rest) := by
  have _ := hE
  intro z h
  obtain ⟨zv0, zv1, zv2⟩ := z
  unfold jn_Mo_isAlike_246 at h
  (try dsimp only at h)
  show vv p l e rm_Mo_isAlike sg m args below meth c D clsA A 3 0 0 (MQ below (qcI D clsA A (some (.int q)) (WM ad cI cZ mk mu mz mw mo md mr mp rest)) args sg rm_Mo_isAlike.cells rm_Mo_isAlike.slots A) 246 [(0, .ref (ad 11)), (1, .int zv0), (2, .int zv1)] [.int zv2] (WM ad cI cZ mk mu mz mw mo md mr mp rest)
  refine r_aload_n (pc := 246) C d_Mo_isAlike_246 rfl 0 rfl ?_
  refine r_get (pc := 247) (v := .ref (ad 3)) C hin_Mo 11 rfl rfl 15 (by decide) mm_25 rfl rfl d_Mo_isAlike_247 ?_
  refine r_iload_n (pc := 250) C d_Mo_isAlike_250 rfl 2 rfl ?_
  obtain ⟨hi832, h⟩ := ign h
  refine r_zald (pc := 251) C 3 1 rfl rfl hi832 d_Mo_isAlike_251 ?_
  refine r_icmp_eq (pc := 252) (tgt := 257) C d_Mo_isAlike_252 (by decide) (fun c831 => ?_) (fun c831 => ?_)
  · replace h := ip c831 h
    refine r_iincK (pc := 257) (w0 := 5) (lv' := [(1, .int (zv0 + 5)), (0, .ref (ad 11)), (2, .int zv1)]) C d_Mo_isAlike_257 (by decide) 1 rfl (by decide) rfl ?_
    refine r_iincK (pc := 260) (w0 := 1) (lv' := [(2, .int (zv1 + 1)), (1, .int (zv0 + 5)), (0, .ref (ad 11))]) C d_Mo_isAlike_260 (by decide) 2 rfl (by decide) rfl ?_
    refine r_goto (pc := 263) (tgt := 146) C d_Mo_isAlike_263 (by decide) ?_
    refine r_loc (lv' := [(0, .ref (ad 11)), (1, .int (zv0 + 5)), (2, .int (zv1 + 1))]) [2, 1, 0] rfl ?_
    exact ih (zv0 + 5, zv1 + 1) h
  · replace h := iN c831 h
    refine r_iconst (pc := 255) (v := 0) C d_Mo_isAlike_255 (by decide) ?_
    cases h
    exact r_iret (pc := 256) C hr rfl rfl rfl d_Mo_isAlike_256
set_option maxHeartbeats 4000000 in
set_option maxRecDepth 100000 in
theorem vj_Mo_isAlike_220_M {l : Launch} {E : State → Heap → Prop} {D : va_G} {A : Nat → Prop} {cI cZ cJ : ClassId} (hE : stb A E) {ad : Nat → Nat} {mk : Int32} {mu : Int64} {mz : Int32} {mw : Int32} {mo : (Nat → Int32)} {md : MD} {mr : MR} {mp : MP} {rest : va_W} {p : Program} {e : Env} {sg : State} {m : MethodId} {args : Array Value} {below : List Frame} {meth : Method} {c : Code} (C : cx p sg m args meth c D clsA (TY cI cZ cJ) A GG R_Mo b_Mo_isAlike 3) (hr : meth.sig.returnType = (some .boolean)) (hX : E sg sg.heap) {q : Int32} {kx rec : Int32 × Int32 → Option (Int32)} (K : ∀ z : Int32 × Int32, kx z = some q → vv p l e rm_Mo_isAlike sg m args below meth c D clsA A 3 0 0 (MQ below (qcI D clsA A (some (.int q)) (WM ad cI cZ mk mu mz mw mo md mr mp rest)) args sg rm_Mo_isAlike.cells rm_Mo_isAlike.slots A) 266 [(0, .ref (ad 11)), (1, .int z.1), (2, .int z.2)] [] (WM ad cI cZ mk mu mz mw mo md mr mp rest)) (ih : ∀ z : Int32 × Int32, rec z = some q → vv p l e rm_Mo_isAlike sg m args below meth c D clsA A 3 0 0 (MQ below (qcI D clsA A (some (.int q)) (WM ad cI cZ mk mu mz mw mo md mr mp rest)) args sg rm_Mo_isAlike.cells rm_Mo_isAlike.slots A) 146 [(0, .ref (ad 11)), (1, .int z.1), (2, .int z.2)] [] (WM ad cI cZ mk mu mz mw mo md mr mp rest)) :
    ∀ z : Int32 × Int32 × Int32, jn_Mo_isAlike_220 md mr kx rec z = some q → vv p l e rm_Mo_isAlike sg m args below meth c D clsA A 3 0 0 (MQ below (qcI D clsA A (some (.int q)) (WM ad cI cZ mk mu mz mw mo md mr mp rest)) args sg rm_Mo_isAlike.cells rm_Mo_isAlike.slots A) 220 [(0, .ref (ad 11)), (1, .int z.1), (2, .int z.2.1)] [.int z.2.2] (WM ad cI cZ mk mu mz mw mo md mr mp rest) := by
  have _ := hE
  intro z h
  obtain ⟨zv0, zv1, zv2⟩ := z
  unfold jn_Mo_isAlike_220 at h
  (try dsimp only at h)
  show vv p l e rm_Mo_isAlike sg m args below meth c D clsA A 3 0 0 (MQ below (qcI D clsA A (some (.int q)) (WM ad cI cZ mk mu mz mw mo md mr mp rest)) args sg rm_Mo_isAlike.cells rm_Mo_isAlike.slots A) 220 [(0, .ref (ad 11)), (1, .int zv0), (2, .int zv1)] [.int zv2] (WM ad cI cZ mk mu mz mw mo md mr mp rest)
  refine r_aload_n (pc := 220) C d_Mo_isAlike_220 rfl 0 rfl ?_
  refine r_get (pc := 221) (v := .ref (ad 4)) C hin_Mo 11 rfl rfl 14 (by decide) mm_24 rfl rfl d_Mo_isAlike_221 ?_
  refine r_iload_n (pc := 224) C d_Mo_isAlike_224 rfl 2 rfl ?_
  obtain ⟨hi840, h⟩ := ign h
  refine r_zald (pc := 225) C 4 1 rfl rfl hi840 d_Mo_isAlike_225 ?_
  refine r_icmp_ne (pc := 226) (tgt := 255) C d_Mo_isAlike_226 (by decide) (fun c839 => ?_) (fun c839 => ?_)
  · replace h := iN c839 h
    refine r_iconst (pc := 255) (v := 0) C d_Mo_isAlike_255 (by decide) ?_
    cases h
    exact r_iret (pc := 256) C hr rfl rfl rfl d_Mo_isAlike_256
  · replace h := ip c839 h
    refine r_aload_n (pc := 229) C d_Mo_isAlike_229 rfl 0 rfl ?_
    refine r_get (pc := 230) (v := .ref (ad 2)) C hin_Mo 11 rfl rfl 17 (by decide) mm_6 rfl rfl d_Mo_isAlike_230 ?_
    refine r_iload_n (pc := 233) C d_Mo_isAlike_233 rfl 1 rfl ?_
    refine r_iconst (pc := 234) (v := 4) C d_Mo_isAlike_234 (by decide) ?_
    refine r_iadd (pc := 235) C d_Mo_isAlike_235 ?_
    obtain ⟨hi838, h⟩ := ign h
    refine r_iald (pc := 236) C 2 0 rfl rfl hi838 d_Mo_isAlike_236 ?_
    refine r_iconst (pc := 237) (v := 1) C d_Mo_isAlike_237 (by decide) ?_
    refine r_icmp_ne (pc := 238) (tgt := 245) C d_Mo_isAlike_238 (by decide) (fun c837 => ?_) (fun c837 => ?_)
    · replace h := iN c837 h
      refine r_iconst (pc := 245) (v := 0) C d_Mo_isAlike_245 (by decide) ?_
      refine r_loc (lv' := [(0, .ref (ad 11)), (1, .int zv0), (2, .int zv1)]) [0, 1, 2] rfl ?_
      exact vj_Mo_isAlike_246_M hE C hr hX K ih (zv0, zv1, 0) h
    · replace h := ip c837 h
      refine r_iconst (pc := 241) (v := 1) C d_Mo_isAlike_241 (by decide) ?_
      refine r_goto (pc := 242) (tgt := 246) C d_Mo_isAlike_242 (by decide) ?_
      refine r_loc (lv' := [(0, .ref (ad 11)), (1, .int zv0), (2, .int zv1)]) [0, 1, 2] rfl ?_
      exact vj_Mo_isAlike_246_M hE C hr hX K ih (zv0, zv1, 1) h
set_option maxHeartbeats 4000000 in
set_option maxRecDepth 100000 in
theorem vl_Mo_isAlike_146_M {l : Launch} {E : State → Heap → Prop} {D : va_G} {A : Nat → Prop} {cI cZ cJ : ClassId} (hE : stb A E) {ad : Nat → Nat} {mk : Int32} {mu : Int64} {mz : Int32} {mw : Int32} {mo : (Nat → Int32)} {md : MD} {mr : MR} {mp : MP} {rest : va_W} {p : Program} {e : Env} {sg : State} {m : MethodId} {args : Array Value} {below : List Frame} {meth : Method} {c : Code} (C : cx p sg m args meth c D clsA (TY cI cZ cJ) A GG R_Mo b_Mo_isAlike 3) (hr : meth.sig.returnType = (some .boolean)) (hX : E sg sg.heap) {q : Int32} {kx : Int32 × Int32 → Option (Int32)} (K : ∀ z : Int32 × Int32, kx z = some q → vv p l e rm_Mo_isAlike sg m args below meth c D clsA A 3 0 0 (MQ below (qcI D clsA A (some (.int q)) (WM ad cI cZ mk mu mz mw mo md mr mp rest)) args sg rm_Mo_isAlike.cells rm_Mo_isAlike.slots A) 266 [(0, .ref (ad 11)), (1, .int z.1), (2, .int z.2)] [] (WM ad cI cZ mk mu mz mw mo md mr mp rest)) :
    ∀ (n : Nat) (z : Int32 × Int32), itn (bd_Mo_isAlike_146 md mr kx) n z = some q → vv p l e rm_Mo_isAlike sg m args below meth c D clsA A 3 0 0 (MQ below (qcI D clsA A (some (.int q)) (WM ad cI cZ mk mu mz mw mo md mr mp rest)) args sg rm_Mo_isAlike.cells rm_Mo_isAlike.slots A) 146 [(0, .ref (ad 11)), (1, .int z.1), (2, .int z.2)] [] (WM ad cI cZ mk mu mz mw mo md mr mp rest) := by
  have _ := hE
  intro n
  induction n with
  | zero => intro z h; cases h
  | succ n ih =>
    intro z h
    obtain ⟨zv0, zv1⟩ := z
    replace h : bd_Mo_isAlike_146 md mr kx (itn (bd_Mo_isAlike_146 md mr kx) n) (zv0, zv1) = some q := h
    unfold bd_Mo_isAlike_146 at h
    (try dsimp only at h)
    show vv p l e rm_Mo_isAlike sg m args below meth c D clsA A 3 0 0 (MQ below (qcI D clsA A (some (.int q)) (WM ad cI cZ mk mu mz mw mo md mr mp rest)) args sg rm_Mo_isAlike.cells rm_Mo_isAlike.slots A) 146 [(0, .ref (ad 11)), (1, .int zv0), (2, .int zv1)] [] (WM ad cI cZ mk mu mz mw mo md mr mp rest)
    refine r_iload_n (pc := 146) C d_Mo_isAlike_146 rfl 2 rfl ?_
    refine r_aload_n (pc := 147) C d_Mo_isAlike_147 rfl 0 rfl ?_
    refine r_get (pc := 148) (v := .int md.2.2.2.1) C hin_Mo 11 rfl rfl 10 (by decide) mm_20 rfl rfl d_Mo_isAlike_148 ?_
    refine r_icmp_ge (pc := 151) (tgt := 266) C d_Mo_isAlike_151 (by decide) (fun c864 => ?_) (fun c864 => ?_)
    · replace h := ip c864 h
      refine r_loc (lv' := [(0, .ref (ad 11)), (1, .int zv0), (2, .int zv1)]) [0, 1, 2] rfl ?_
      exact K (zv0, zv1) h
    · replace h := iN c864 h
      refine r_aload_n (pc := 154) C d_Mo_isAlike_154 rfl 0 rfl ?_
      refine r_get (pc := 155) (v := .ref (ad 2)) C hin_Mo 11 rfl rfl 17 (by decide) mm_6 rfl rfl d_Mo_isAlike_155 ?_
      refine r_iload_n (pc := 158) C d_Mo_isAlike_158 rfl 1 rfl ?_
      obtain ⟨hi863, h⟩ := ign h
      refine r_iald (pc := 159) C 2 0 rfl rfl hi863 d_Mo_isAlike_159 ?_
      refine r_aload_n (pc := 160) C d_Mo_isAlike_160 rfl 0 rfl ?_
      refine r_get (pc := 161) (v := .ref (ad 7)) C hin_Mo 11 rfl rfl 11 (by decide) mm_21 rfl rfl d_Mo_isAlike_161 ?_
      refine r_iload_n (pc := 164) C d_Mo_isAlike_164 rfl 2 rfl ?_
      obtain ⟨hi862, h⟩ := ign h
      refine r_iald (pc := 165) C 7 0 rfl rfl hi862 d_Mo_isAlike_165 ?_
      refine r_icmp_ne (pc := 166) (tgt := 255) C d_Mo_isAlike_166 (by decide) (fun c861 => ?_) (fun c861 => ?_)
      · replace h := iN c861 h
        refine r_iconst (pc := 255) (v := 0) C d_Mo_isAlike_255 (by decide) ?_
        cases h
        exact r_iret (pc := 256) C hr rfl rfl rfl d_Mo_isAlike_256
      · replace h := ip c861 h
        refine r_aload_n (pc := 169) C d_Mo_isAlike_169 rfl 0 rfl ?_
        refine r_get (pc := 170) (v := .ref (ad 2)) C hin_Mo 11 rfl rfl 17 (by decide) mm_6 rfl rfl d_Mo_isAlike_170 ?_
        refine r_iload_n (pc := 173) C d_Mo_isAlike_173 rfl 1 rfl ?_
        refine r_iconst (pc := 174) (v := 1) C d_Mo_isAlike_174 (by decide) ?_
        refine r_iadd (pc := 175) C d_Mo_isAlike_175 ?_
        obtain ⟨hi860, h⟩ := ign h
        refine r_iald (pc := 176) C 2 0 rfl rfl hi860 d_Mo_isAlike_176 ?_
        refine r_aload_n (pc := 177) C d_Mo_isAlike_177 rfl 0 rfl ?_
        refine r_get (pc := 178) (v := .ref (ad 6)) C hin_Mo 11 rfl rfl 12 (by decide) mm_22 rfl rfl d_Mo_isAlike_178 ?_
        refine r_iload_n (pc := 181) C d_Mo_isAlike_181 rfl 2 rfl ?_
        obtain ⟨hi859, h⟩ := ign h
        refine r_iald (pc := 182) C 6 0 rfl rfl hi859 d_Mo_isAlike_182 ?_
        refine r_icmp_ne (pc := 183) (tgt := 255) C d_Mo_isAlike_183 (by decide) (fun c858 => ?_) (fun c858 => ?_)
        · replace h := iN c858 h
          refine r_iconst (pc := 255) (v := 0) C d_Mo_isAlike_255 (by decide) ?_
          cases h
          exact r_iret (pc := 256) C hr rfl rfl rfl d_Mo_isAlike_256
        · replace h := ip c858 h
          refine r_aload_n (pc := 186) C d_Mo_isAlike_186 rfl 0 rfl ?_
          refine r_get (pc := 187) (v := .ref (ad 2)) C hin_Mo 11 rfl rfl 17 (by decide) mm_6 rfl rfl d_Mo_isAlike_187 ?_
          refine r_iload_n (pc := 190) C d_Mo_isAlike_190 rfl 1 rfl ?_
          refine r_iconst (pc := 191) (v := 2) C d_Mo_isAlike_191 (by decide) ?_
          refine r_iadd (pc := 192) C d_Mo_isAlike_192 ?_
          obtain ⟨hi857, h⟩ := ign h
          refine r_iald (pc := 193) C 2 0 rfl rfl hi857 d_Mo_isAlike_193 ?_
          refine r_aload_n (pc := 194) C d_Mo_isAlike_194 rfl 0 rfl ?_
          refine r_get (pc := 195) (v := .ref (ad 5)) C hin_Mo 11 rfl rfl 13 (by decide) mm_23 rfl rfl d_Mo_isAlike_195 ?_
          refine r_iload_n (pc := 198) C d_Mo_isAlike_198 rfl 2 rfl ?_
          obtain ⟨hi856, h⟩ := ign h
          refine r_iald (pc := 199) C 5 0 rfl rfl hi856 d_Mo_isAlike_199 ?_
          refine r_icmp_ne (pc := 200) (tgt := 255) C d_Mo_isAlike_200 (by decide) (fun c855 => ?_) (fun c855 => ?_)
          · replace h := iN c855 h
            refine r_iconst (pc := 255) (v := 0) C d_Mo_isAlike_255 (by decide) ?_
            cases h
            exact r_iret (pc := 256) C hr rfl rfl rfl d_Mo_isAlike_256
          · replace h := ip c855 h
            refine r_aload_n (pc := 203) C d_Mo_isAlike_203 rfl 0 rfl ?_
            refine r_get (pc := 204) (v := .ref (ad 2)) C hin_Mo 11 rfl rfl 17 (by decide) mm_6 rfl rfl d_Mo_isAlike_204 ?_
            refine r_iload_n (pc := 207) C d_Mo_isAlike_207 rfl 1 rfl ?_
            refine r_iconst (pc := 208) (v := 3) C d_Mo_isAlike_208 (by decide) ?_
            refine r_iadd (pc := 209) C d_Mo_isAlike_209 ?_
            obtain ⟨hi854, h⟩ := ign h
            refine r_iald (pc := 210) C 2 0 rfl rfl hi854 d_Mo_isAlike_210 ?_
            refine r_iconst (pc := 211) (v := 1) C d_Mo_isAlike_211 (by decide) ?_
            refine r_icmp_ne (pc := 212) (tgt := 219) C d_Mo_isAlike_212 (by decide) (fun c853 => ?_) (fun c853 => ?_)
            · replace h := iN c853 h
              refine r_iconst (pc := 219) (v := 0) C d_Mo_isAlike_219 (by decide) ?_
              refine r_loc (lv' := [(0, .ref (ad 11)), (1, .int zv0), (2, .int zv1)]) [0, 1, 2] rfl ?_
              exact vj_Mo_isAlike_220_M hE C hr hX K ih (zv0, zv1, 0) h
            · replace h := ip c853 h
              refine r_iconst (pc := 215) (v := 1) C d_Mo_isAlike_215 (by decide) ?_
              refine r_goto (pc := 216) (tgt := 220) C d_Mo_isAlike_216 (by decide) ?_
              refine r_loc (lv' := [(0, .ref (ad 11)), (1, .int zv0), (2, .int zv1)]) [0, 1, 2] rfl ?_
              exact vj_Mo_isAlike_220_M hE C hr hX K ih (zv0, zv1, 1) h
set_option maxHeartbeats 4000000 in
set_option maxRecDepth 100000 in
theorem c_Mo_isAlike_M {l : Launch} {E : State → Heap → Prop} {D : va_G} {A : Nat → Prop} {cI cZ cJ : ClassId} (hE : stb A E) {ad : Nat → Nat} {mk : Int32} {mu : Int64} {mz : Int32} {mw : Int32} {mo : (Nat → Int32)} {md : MD} {mr : MR} {mp : MP} {rest : va_W} {q : Int32} (h : f_Mo_isAlike mz md mr = some q) : cm l E D clsA (TY cI cZ cJ) A GG y_Mo_isAlike b_Mo_isAlike 3 (some .boolean) rm_Mo_isAlike [.ref (ad 11)] (WM ad cI cZ mk mu mz mw mo md mr mp rest) (some (.int q)) (WM ad cI cZ mk mu mz mw mo md mr mp rest) := by
  refine r_met (own := R_Mo) rfl (by decide) (Nat.le_of_ble_eq_true rfl) rfl ?_
  intro p e sg m args below meth c C hr hnm hX
  unfold f_Mo_isAlike at h
  refine r_aload_n (pc := 0) C d_Mo_isAlike_0 rfl 0 rfl ?_
  refine r_get (pc := 1) (v := .int mz) C hin_Mo 11 rfl rfl 2 (by decide) mm_1 rfl rfl d_Mo_isAlike_1 ?_
  refine r_iconst (pc := 4) (v := (-1)) C d_Mo_isAlike_4 (by decide) ?_
  refine r_icmp_eq (pc := 5) (tgt := 21) C d_Mo_isAlike_5 (by decide) (fun c872 => ?_) (fun c872 => ?_)
  · replace h := ip c872 h
    refine r_loc (lv' := [(0, .ref (ad 11))]) [0] rfl ?_
    exact vj_Mo_isAlike_21_M hE C hr hX () h
  · replace h := iN c872 h
    refine r_aload_n (pc := 8) C d_Mo_isAlike_8 rfl 0 rfl ?_
    refine r_get (pc := 9) (v := .ref (ad 2)) C hin_Mo 11 rfl rfl 17 (by decide) mm_6 rfl rfl d_Mo_isAlike_9 ?_
    refine r_iconst (pc := 12) (v := 0) C d_Mo_isAlike_12 (by decide) ?_
    obtain ⟨hi871, h⟩ := ign h
    refine r_iald (pc := 13) C 2 0 rfl rfl hi871 d_Mo_isAlike_13 ?_
    refine r_aload_n (pc := 14) C d_Mo_isAlike_14 rfl 0 rfl ?_
    refine r_get (pc := 15) (v := .int md.2.1) C hin_Mo 11 rfl rfl 6 (by decide) mm_16 rfl rfl d_Mo_isAlike_15 ?_
    refine r_icmp_eq (pc := 18) (tgt := 23) C d_Mo_isAlike_18 (by decide) (fun c870 => ?_) (fun c870 => ?_)
    · replace h := ip c870 h
      refine r_iconst (pc := 23) (v := 0) C d_Mo_isAlike_23 (by decide) ?_
      refine r_istore_n (pc := 24) (lv' := [(1, .int (0)), (0, .ref (ad 11))]) C d_Mo_isAlike_24 rfl (by decide) rfl ?_
      refine r_loc (lv' := [(0, .ref (ad 11)), (1, .int (0))]) [1, 0] rfl ?_
      refine vl_Mo_isAlike_25_M hE C hr hX (fun z819 h => ?_) 70 (0) h
      refine r_aload_n (pc := 58) C d_Mo_isAlike_58 rfl 0 rfl ?_
      refine r_get (pc := 59) (v := .int md.2.1) C hin_Mo 11 rfl rfl 6 (by decide) mm_16 rfl rfl d_Mo_isAlike_59 ?_
      refine r_iconst (pc := 62) (v := 1) C d_Mo_isAlike_62 (by decide) ?_
      refine r_iadd (pc := 63) C d_Mo_isAlike_63 ?_
      refine r_istore_n (pc := 64) (lv' := [(1, .int (md.2.1 + (1 : Int32))), (0, .ref (ad 11))]) C d_Mo_isAlike_64 rfl (by decide) rfl ?_
      refine r_aload_n (pc := 65) C d_Mo_isAlike_65 rfl 1 rfl ?_
      refine r_get (pc := 66) (v := .ref (ad 2)) C hin_Mo 11 rfl rfl 17 (by decide) mm_6 rfl rfl d_Mo_isAlike_66 ?_
      refine r_iload_n (pc := 69) C d_Mo_isAlike_69 rfl 0 rfl ?_
      obtain ⟨hi869, h⟩ := ign h
      refine r_iald (pc := 70) C 2 0 rfl rfl hi869 d_Mo_isAlike_70 ?_
      refine r_aload_n (pc := 71) C d_Mo_isAlike_71 rfl 1 rfl ?_
      refine r_get (pc := 72) (v := .int md.2.2.1) C hin_Mo 11 rfl rfl 8 (by decide) mm_18 rfl rfl d_Mo_isAlike_72 ?_
      refine r_icmp_eq (pc := 75) (tgt := 80) C d_Mo_isAlike_75 (by decide) (fun c868 => ?_) (fun c868 => ?_)
      · replace h := ip c868 h
        refine r_iconst (pc := 80) (v := 0) C d_Mo_isAlike_80 (by decide) ?_
        refine r_istore_n (pc := 81) (lv' := [(2, .int (0)), (1, .int (md.2.1 + (1 : Int32))), (0, .ref (ad 11))]) C d_Mo_isAlike_81 rfl (by decide) rfl ?_
        refine r_loc (lv' := [(0, .ref (ad 11)), (1, .int (md.2.1 + (1 : Int32))), (2, .int (0))]) [2, 1, 0] rfl ?_
        refine vl_Mo_isAlike_82_M hE C hr hX (fun z828 h => ?_) 70 (md.2.1 + (1 : Int32), 0) h
        refine r_iload_n (pc := 117) C d_Mo_isAlike_117 rfl 1 rfl ?_
        refine r_aload_n (pc := 118) C d_Mo_isAlike_118 rfl 0 rfl ?_
        refine r_get (pc := 119) (v := .int md.2.2.1) C hin_Mo 11 rfl rfl 8 (by decide) mm_18 rfl rfl d_Mo_isAlike_119 ?_
        refine r_iconst (pc := 122) (v := 1) C d_Mo_isAlike_122 (by decide) ?_
        refine r_iadd (pc := 123) C d_Mo_isAlike_123 ?_
        refine r_iadd (pc := 124) C d_Mo_isAlike_124 ?_
        refine r_istore_n (pc := 125) (lv' := [(1, .int (z828.1 + (md.2.2.1 + (1 : Int32)))), (0, .ref (ad 11)), (2, .int z828.2)]) C d_Mo_isAlike_125 rfl (by decide) rfl ?_
        refine r_aload_n (pc := 126) C d_Mo_isAlike_126 rfl 1 rfl ?_
        refine r_get (pc := 127) (v := .ref (ad 2)) C hin_Mo 11 rfl rfl 17 (by decide) mm_6 rfl rfl d_Mo_isAlike_127 ?_
        refine r_iload_n (pc := 130) C d_Mo_isAlike_130 rfl 0 rfl ?_
        obtain ⟨hi867, h⟩ := ign h
        refine r_iald (pc := 131) C 2 0 rfl rfl hi867 d_Mo_isAlike_131 ?_
        refine r_aload_n (pc := 132) C d_Mo_isAlike_132 rfl 1 rfl ?_
        refine r_get (pc := 133) (v := .int md.2.2.2.1) C hin_Mo 11 rfl rfl 10 (by decide) mm_20 rfl rfl d_Mo_isAlike_133 ?_
        refine r_icmp_eq (pc := 136) (tgt := 141) C d_Mo_isAlike_136 (by decide) (fun c866 => ?_) (fun c866 => ?_)
        · replace h := ip c866 h
          refine r_iincK (pc := 141) (w0 := 1) (lv' := [(1, .int ((z828.1 + (md.2.2.1 + (1 : Int32))) + 1)), (0, .ref (ad 11)), (2, .int z828.2)]) C d_Mo_isAlike_141 (by decide) 0 rfl (by decide) rfl ?_
          refine r_iconst (pc := 144) (v := 0) C d_Mo_isAlike_144 (by decide) ?_
          refine r_istore_n (pc := 145) (lv' := [(2, .int (0)), (1, .int ((z828.1 + (md.2.2.1 + (1 : Int32))) + 1)), (0, .ref (ad 11))]) C d_Mo_isAlike_145 rfl (by decide) rfl ?_
          refine r_loc (lv' := [(0, .ref (ad 11)), (1, .int ((z828.1 + (md.2.2.1 + (1 : Int32))) + 1)), (2, .int (0))]) [2, 1, 0] rfl ?_
          refine vl_Mo_isAlike_146_M hE C hr hX (fun z865 h => ?_) 70 ((z828.1 + (md.2.2.1 + (1 : Int32))) + 1, 0) h
          refine r_iconst (pc := 266) (v := 1) C d_Mo_isAlike_266 (by decide) ?_
          cases h
          exact r_iret (pc := 267) C hr rfl rfl rfl d_Mo_isAlike_267
        · replace h := iN c866 h
          refine r_iconst (pc := 139) (v := 0) C d_Mo_isAlike_139 (by decide) ?_
          cases h
          exact r_iret (pc := 140) C hr rfl rfl rfl d_Mo_isAlike_140
      · replace h := iN c868 h
        refine r_iconst (pc := 78) (v := 0) C d_Mo_isAlike_78 (by decide) ?_
        cases h
        exact r_iret (pc := 79) C hr rfl rfl rfl d_Mo_isAlike_79
    · replace h := iN c870 h
      refine r_loc (lv' := [(0, .ref (ad 11))]) [0] rfl ?_
      exact vj_Mo_isAlike_21_M hE C hr hX () h
def jn_Mo_same_15 (mz : Int32) (md : MD) (z : Int64 × Int32 × Int32 × Int32 × Int64 × MR) : Option (Int32 × Int32 × Int64 × MR) :=
  (if z.2.2.1 ≤ 0 then Option.bind (f_Mo_drawRow z.1 z.2.2.2.2.2 z.2.1) (fun q882 => Option.bind (f_Mo_isAlike mz md q882.2) (fun q883 => (if q883 = 0 ∨ q883 = 1 then some (q883, z.2.2.1, z.2.2.2.2.1, q882.2) else none))) else some (0, z.2.2.1, z.2.2.2.2.1, z.2.2.2.2.2))
def f_Mo_same (mk : Int32) (mu : Int64) (mz : Int32) (md : MD) (mr : MR) (p0 : Int64) (p1 : Int32) : Option (Int32 × Int32 × Int64 × MR) :=
  Option.bind (f_Mo_in p1 (0) (5)) (fun q881 => (if q881 = 0 then (jn_Mo_same_15 mz md (p0, p1, 1, mk, mu, mr)) else (jn_Mo_same_15 mz md (p0, p1, 0, mk, mu, mr))))
abbrev rm_Mo_same : Room := { frames := 2, cells := 0, slots := 0, locals := 46 }
theorem hd_Mo_same : y_Mo_same.cls ≠ "java/lang/invoke/MethodHandle" ∧ y_Mo_same.cls ≠ "java/lang/invoke/VarHandle" ∧ (parseMethodDescriptor y_Mo_same.desc).map (fun d => d.parameters.length) = some 2 := by decide +kernel
set_option maxHeartbeats 4000000 in
set_option maxRecDepth 100000 in
theorem vj_Mo_same_15_M {l : Launch} {E : State → Heap → Prop} {D : va_G} {A : Nat → Prop} {cI cZ cJ : ClassId} (hE : stb A E) {ad : Nat → Nat} {mz : Int32} {mw : Int32} {mo : (Nat → Int32)} {md : MD} {mp : MP} {rest : va_W} {p : Program} {e : Env} {sg : State} {m : MethodId} {args : Array Value} {below : List Frame} {meth : Method} {c : Code} (C : cx p sg m args meth c D clsA (TY cI cZ cJ) A GG R_Mo b_Mo_same 6) (hr : meth.sig.returnType = (some .boolean)) (hX : E sg sg.heap) {q : Int32 × Int32 × Int64 × MR} :
    ∀ z : Int64 × Int32 × Int32 × Int32 × Int64 × MR, jn_Mo_same_15 mz md z = some q → vv p l e rm_Mo_same sg m args below meth c D clsA A 6 0 0 (MQ below (qcI D clsA A (some (.int q.1)) (WM ad cI cZ q.2.1 q.2.2.1 mz mw mo md q.2.2.2 mp rest)) args sg rm_Mo_same.cells rm_Mo_same.slots A) 15 [(0, .ref (ad 11)), (1, .long z.1), (3, .int z.2.1)] [.int z.2.2.1, .ref (ad 11)] (WM ad cI cZ z.2.2.2.1 z.2.2.2.2.1 mz mw mo md z.2.2.2.2.2 mp rest) := by
  have _ := hE
  intro z h
  obtain ⟨zv0, zv1, zv2, zv3, zv4, zv5⟩ := z
  unfold jn_Mo_same_15 at h
  (try dsimp only at h)
  show vv p l e rm_Mo_same sg m args below meth c D clsA A 6 0 0 (MQ below (qcI D clsA A (some (.int q.1)) (WM ad cI cZ q.2.1 q.2.2.1 mz mw mo md q.2.2.2 mp rest)) args sg rm_Mo_same.cells rm_Mo_same.slots A) 15 [(0, .ref (ad 11)), (1, .long zv0), (3, .int zv1)] [.int zv2, .ref (ad 11)] (WM ad cI cZ zv3 zv4 mz mw mo md zv5 mp rest)
  refine r_put (pc := 15) (ty := .int) (ws' := WM ad cI cZ zv2 zv4 mz mw mo md zv5 mp rest) C hin_Mo t_Mo t_Mo_ok n_Mo 11 rfl rfl 0 (by decide) mm_0 rfl rfl pd_I rfl rfl (Nat.le_of_ble_eq_true rfl) rfl d_Mo_same_15 ?_
  refine r_aload_n (pc := 18) C d_Mo_same_18 rfl 0 rfl ?_
  refine r_get (pc := 19) (v := .int zv2) C hin_Mo 11 rfl rfl 0 (by decide) mm_0 rfl rfl d_Mo_same_19 ?_
  refine r_if_le (pc := 22) (tgt := 27) C d_Mo_same_22 (by decide) (fun c889 => ?_) (fun c889 => ?_)
  · replace h := ip c889 h
    refine r_aload_n (pc := 27) C d_Mo_same_27 rfl 0 rfl ?_
    refine r_get (pc := 28) (v := .long zv4) C hin_Mo 11 rfl rfl 1 (by decide) mm_3 rfl rfl d_Mo_same_28 ?_
    refine r_lstore (pc := 31) (lv' := [(4, .long zv4), (0, .ref (ad 11)), (1, .long zv0), (3, .int zv1)]) C d_Mo_same_31 (by decide) rfl ?_
    refine r_aload_n (pc := 33) C d_Mo_same_33 rfl 1 rfl ?_
    refine r_lload_n (pc := 34) C d_Mo_same_34 rfl 2 rfl ?_
    refine r_put (pc := 35) (ty := .long) (ws' := WM ad cI cZ zv2 zv0 mz mw mo md zv5 mp rest) C hin_Mo t_Mo t_Mo_ok n_Mo 11 rfl rfl 1 (by decide) mm_3 rfl rfl pd_J rfl rfl (Nat.le_of_ble_eq_true rfl) rfl d_Mo_same_35 ?_
    refine r_aload_n (pc := 38) C d_Mo_same_38 rfl 1 rfl ?_
    refine r_iload_n (pc := 39) C d_Mo_same_39 rfl 3 rfl ?_
    obtain ⟨q886, hq886, h⟩ := ob h
    refine r_callV (pc := 40) (As := [.int zv1]) (rest := []) (st1 := []) hE gg_good C hX (c_Mo_drawRow_M hE hq886) mm_28 mm_29 mm_30 mm_10 mm_31 hd_Mo_drawRow 11 rfl rfl ⟨⟨(Nat.le_of_ble_eq_true rfl), (Nat.le_of_ble_eq_true rfl)⟩, (Nat.le_of_ble_eq_true rfl), (Nat.le_of_ble_eq_true rfl)⟩ (Nat.le_of_ble_eq_true rfl) rfl rfl d_Mo_same_40 ?_
    refine r_aload_n (pc := 43) C d_Mo_same_43 rfl 1 rfl ?_
    refine r_lload (pc := 44) C d_Mo_same_44 0 rfl ?_
    refine r_put (pc := 46) (ty := .long) (ws' := WM ad cI cZ zv2 zv4 mz mw mo md q886.2 mp rest) C hin_Mo t_Mo t_Mo_ok n_Mo 11 rfl rfl 1 (by decide) mm_3 rfl rfl pd_J rfl rfl (Nat.le_of_ble_eq_true rfl) rfl d_Mo_same_46 ?_
    refine r_aload_n (pc := 49) C d_Mo_same_49 rfl 1 rfl ?_
    obtain ⟨q887, hq887, h⟩ := ob h
    refine r_callV (pc := 50) (As := []) (rest := []) (st1 := [.int q887]) hE gg_good C hX (c_Mo_isAlike_M hE hq887) mm_70 mm_71 mm_72 mm_10 mm_73 hd_Mo_isAlike 11 rfl rfl ⟨⟨(Nat.le_of_ble_eq_true rfl), (Nat.le_of_ble_eq_true rfl)⟩, (Nat.le_of_ble_eq_true rfl), (Nat.le_of_ble_eq_true rfl)⟩ (Nat.le_of_ble_eq_true rfl) rfl rfl d_Mo_same_50 ?_
    obtain ⟨hb888, h⟩ := ig h
    cases h
    exact r_iret (pc := 53) C hr (nb01 hb888) rfl rfl d_Mo_same_53
  · replace h := iN c889 h
    refine r_iconst (pc := 25) (v := 0) C d_Mo_same_25 (by decide) ?_
    cases h
    exact r_iret (pc := 26) C hr rfl rfl rfl d_Mo_same_26
set_option maxHeartbeats 4000000 in
set_option maxRecDepth 100000 in
theorem c_Mo_same_M {l : Launch} {E : State → Heap → Prop} {D : va_G} {A : Nat → Prop} {cI cZ cJ : ClassId} (hE : stb A E) {ad : Nat → Nat} {mk : Int32} {mu : Int64} {mz : Int32} {mw : Int32} {mo : (Nat → Int32)} {md : MD} {mr : MR} {mp : MP} {rest : va_W} {p0 : Int64} {p1 : Int32} {q : Int32 × Int32 × Int64 × MR} (h : f_Mo_same mk mu mz md mr p0 p1 = some q) : cm l E D clsA (TY cI cZ cJ) A GG y_Mo_same b_Mo_same 6 (some .boolean) rm_Mo_same [.ref (ad 11), .long p0, .int p1] (WM ad cI cZ mk mu mz mw mo md mr mp rest) (some (.int q.1)) (WM ad cI cZ q.2.1 q.2.2.1 mz mw mo md q.2.2.2 mp rest) := by
  refine r_met (own := R_Mo) rfl (by decide) (Nat.le_of_ble_eq_true rfl) rfl ?_
  intro p e sg m args below meth c C hr hnm hX
  unfold f_Mo_same at h
  refine r_aload_n (pc := 0) C d_Mo_same_0 rfl 0 rfl ?_
  refine r_iload_n (pc := 1) C d_Mo_same_1 rfl 2 rfl ?_
  refine r_iconst (pc := 2) (v := 0) C d_Mo_same_2 (by decide) ?_
  refine r_iconst (pc := 3) (v := 5) C d_Mo_same_3 (by decide) ?_
  obtain ⟨q881, hq881, h⟩ := ob h
  refine r_callS (pc := 4) (As := [.int p1, .int (0), .int (5)]) (rest := [.ref (ad 11)]) (st1 := [.int q881, .ref (ad 11)]) hE gg_good C hX (c_Mo_in_S hE hq881) mm_32 mm_33 mm_10 mm_34 hd_Mo_in ⟨⟨(Nat.le_of_ble_eq_true rfl), (Nat.le_of_ble_eq_true rfl)⟩, (Nat.le_of_ble_eq_true rfl), (Nat.le_of_ble_eq_true rfl)⟩ (Nat.le_of_ble_eq_true rfl) rfl rfl d_Mo_same_4 ?_
  refine r_if_eq (pc := 7) (tgt := 14) C d_Mo_same_7 (by decide) (fun c890 => ?_) (fun c890 => ?_)
  · replace h := ip c890 h
    refine r_iconst (pc := 14) (v := 1) C d_Mo_same_14 (by decide) ?_
    refine r_loc (lv' := [(0, .ref (ad 11)), (1, .long p0), (3, .int p1)]) [0, 1, 2] rfl ?_
    exact vj_Mo_same_15_M hE C hr hX (p0, p1, 1, mk, mu, mr) h
  · replace h := iN c890 h
    refine r_iconst (pc := 10) (v := 0) C d_Mo_same_10 (by decide) ?_
    refine r_goto (pc := 11) (tgt := 15) C d_Mo_same_11 (by decide) ?_
    refine r_loc (lv' := [(0, .ref (ad 11)), (1, .long p0), (3, .int p1)]) [0, 1, 2] rfl ?_
    exact vj_Mo_same_15_M hE C hr hX (p0, p1, 0, mk, mu, mr) h
