def f_Mo_thrown (mk : Int32) : Option (Int32) :=
  some mk
abbrev rm_Mo_thrown : Room := { frames := 0, cells := 0, slots := 0, locals := 0 }
theorem hd_Mo_thrown : y_Mo_thrown.cls ≠ "java/lang/invoke/MethodHandle" ∧ y_Mo_thrown.cls ≠ "java/lang/invoke/VarHandle" ∧ (parseMethodDescriptor y_Mo_thrown.desc).map (fun d => d.parameters.length) = some 0 := by decide +kernel
set_option maxHeartbeats 4000000 in
set_option maxRecDepth 100000 in
theorem c_Mo_thrown_M {l : Launch} {E : State → Heap → Prop} {D : va_G} {A : Nat → Prop} {cI cZ cJ : ClassId} (hE : stb A E) {ad : Nat → Nat} {mk : Int32} {mu : Int64} {mz : Int32} {mw : Int32} {mo : (Nat → Int32)} {md : MD} {mr : MR} {mp : MP} {rest : va_W} {q : Int32} (h : f_Mo_thrown mk = some q) : cm l E D clsA (TY cI cZ cJ) A GG y_Mo_thrown b_Mo_thrown 1 (some .int) rm_Mo_thrown [.ref (ad 11)] (WM ad cI cZ mk mu mz mw mo md mr mp rest) (some (.int q)) (WM ad cI cZ mk mu mz mw mo md mr mp rest) := by
  refine r_met (own := R_Mo) rfl (by decide) (Nat.le_of_ble_eq_true rfl) rfl ?_
  intro p e sg m args below meth c C hr hnm hX
  unfold f_Mo_thrown at h
  refine r_aload_n (pc := 0) C d_Mo_thrown_0 rfl 0 rfl ?_
  refine r_get (pc := 1) (v := .int mk) C hin_Mo 11 rfl rfl 0 (by decide) mm_0 rfl rfl d_Mo_thrown_1 ?_
  cases h
  exact r_iret (pc := 4) C hr rfl rfl rfl d_Mo_thrown_4
def f_Mo_in (p0 : Int32) (p1 : Int32) (p2 : Int32) : Option (Int32) :=
  (if p0 < p1 then some (0) else (if p2 < p0 then some (0) else some (1)))
abbrev rm_Mo_in : Room := { frames := 0, cells := 0, slots := 0, locals := 0 }
theorem hd_Mo_in : y_Mo_in.cls ≠ "java/lang/invoke/MethodHandle" ∧ y_Mo_in.cls ≠ "java/lang/invoke/VarHandle" ∧ (parseMethodDescriptor y_Mo_in.desc).map (fun d => d.parameters.length) = some 3 := by decide +kernel
set_option maxHeartbeats 4000000 in
set_option maxRecDepth 100000 in
theorem c_Mo_in_S {l : Launch} {E : State → Heap → Prop} {D : va_G} {A : Nat → Prop} {cI cZ cJ : ClassId} (hE : stb A E) {ad : Nat → Nat} {mk : Int32} {mu : Int64} {mz : Int32} {mw : Int32} {mo : (Nat → Int32)} {md : MD} {mr : MR} {mp : MP} {rest : va_W} {p0 : Int32} {p1 : Int32} {p2 : Int32} {q : Int32} (h : f_Mo_in p0 p1 p2 = some q) : cm l E D clsA (TY cI cZ cJ) A GG y_Mo_in b_Mo_in 3 (some .boolean) rm_Mo_in [.int p0, .int p1, .int p2] (WM ad cI cZ mk mu mz mw mo md mr mp rest) (some (.int q)) (WM ad cI cZ mk mu mz mw mo md mr mp rest) := by
  refine r_met (own := R_Mo) rfl (by decide) (Nat.le_of_ble_eq_true rfl) rfl ?_
  intro p e sg m args below meth c C hr hnm hX
  unfold f_Mo_in at h
  refine r_iload_n (pc := 0) C d_Mo_in_0 rfl 0 rfl ?_
  refine r_iload_n (pc := 1) C d_Mo_in_1 rfl 1 rfl ?_
  refine r_icmp_lt (pc := 2) (tgt := 14) C d_Mo_in_2 (by decide) (fun c2 => ?_) (fun c2 => ?_)
  · replace h := ip c2 h
    refine r_iconst (pc := 14) (v := 0) C d_Mo_in_14 (by decide) ?_
    cases h
    exact r_iret (pc := 15) C hr rfl rfl rfl d_Mo_in_15
  · replace h := iN c2 h
    refine r_iload_n (pc := 5) C d_Mo_in_5 rfl 0 rfl ?_
    refine r_iload_n (pc := 6) C d_Mo_in_6 rfl 2 rfl ?_
    refine r_icmp_gt (pc := 7) (tgt := 14) C d_Mo_in_7 (by decide) (fun c1 => ?_) (fun c1 => ?_)
    · replace h := ip c1 h
      refine r_iconst (pc := 14) (v := 0) C d_Mo_in_14 (by decide) ?_
      cases h
      exact r_iret (pc := 15) C hr rfl rfl rfl d_Mo_in_15
    · replace h := iN c1 h
      refine r_iconst (pc := 10) (v := 1) C d_Mo_in_10 (by decide) ?_
      refine r_goto (pc := 11) (tgt := 15) C d_Mo_in_11 (by decide) ?_
      cases h
      exact r_iret (pc := 15) C hr rfl rfl rfl d_Mo_in_15
def f_Mo_below (mu : Int64) (p0 : Int32) : Option (Int32 × Int64) :=
  (if p0.toInt64 = (0 : Int64) then none else some ((((((mu * (6364136223846793005 : Int64)) + (1442695040888963407 : Int64)).toUInt64 >>> ((33 : Int32).toInt64.toUInt64 &&& Int64.toUInt64 63)).toInt64) - ((((mu * (6364136223846793005 : Int64)) + (1442695040888963407 : Int64)).toUInt64 >>> ((33 : Int32).toInt64.toUInt64 &&& Int64.toUInt64 63)).toInt64) / p0.toInt64 * p0.toInt64).toInt32, (mu * (6364136223846793005 : Int64)) + (1442695040888963407 : Int64)))
abbrev rm_Mo_below : Room := { frames := 0, cells := 0, slots := 0, locals := 0 }
theorem hd_Mo_below : y_Mo_below.cls ≠ "java/lang/invoke/MethodHandle" ∧ y_Mo_below.cls ≠ "java/lang/invoke/VarHandle" ∧ (parseMethodDescriptor y_Mo_below.desc).map (fun d => d.parameters.length) = some 1 := by decide +kernel
set_option maxHeartbeats 4000000 in
set_option maxRecDepth 100000 in
theorem c_Mo_below_M {l : Launch} {E : State → Heap → Prop} {D : va_G} {A : Nat → Prop} {cI cZ cJ : ClassId} (hE : stb A E) {ad : Nat → Nat} {mk : Int32} {mu : Int64} {mz : Int32} {mw : Int32} {mo : (Nat → Int32)} {md : MD} {mr : MR} {mp : MP} {rest : va_W} {p0 : Int32} {q : Int32 × Int64} (h : f_Mo_below mu p0 = some q) : cm l E D clsA (TY cI cZ cJ) A GG y_Mo_below b_Mo_below 2 (some .int) rm_Mo_below [.ref (ad 11), .int p0] (WM ad cI cZ mk mu mz mw mo md mr mp rest) (some (.int q.1)) (WM ad cI cZ mk q.2 mz mw mo md mr mp rest) := by
  refine r_met (own := R_Mo) rfl (by decide) (Nat.le_of_ble_eq_true rfl) rfl ?_
  intro p e sg m args below meth c C hr hnm hX
  unfold f_Mo_below at h
  refine r_aload_n (pc := 0) C d_Mo_below_0 rfl 0 rfl ?_
  refine r_aload_n (pc := 1) C d_Mo_below_1 rfl 0 rfl ?_
  refine r_get (pc := 2) (v := .long mu) C hin_Mo 11 rfl rfl 1 (by decide) mm_3 rfl rfl d_Mo_below_2 ?_
  refine r_ldc2 (pc := 5) (v := 6364136223846793005) C mm_4 d_Mo_below_5 ?_
  refine r_lmul (pc := 8) C d_Mo_below_8 ?_
  refine r_ldc2 (pc := 9) (v := 1442695040888963407) C mm_5 d_Mo_below_9 ?_
  refine r_ladd (pc := 12) C d_Mo_below_12 ?_
  refine r_put (pc := 13) (ty := .long) (ws' := WM ad cI cZ mk ((mu * (6364136223846793005 : Int64)) + (1442695040888963407 : Int64)) mz mw mo md mr mp rest) C hin_Mo t_Mo t_Mo_ok n_Mo 11 rfl rfl 1 (by decide) mm_3 rfl rfl pd_J rfl rfl (Nat.le_of_ble_eq_true rfl) rfl d_Mo_below_13 ?_
  refine r_aload_n (pc := 16) C d_Mo_below_16 rfl 0 rfl ?_
  refine r_get (pc := 17) (v := .long ((mu * (6364136223846793005 : Int64)) + (1442695040888963407 : Int64))) C hin_Mo 11 rfl rfl 1 (by decide) mm_3 rfl rfl d_Mo_below_17 ?_
  refine r_bipush (pc := 20) (v := 33) C d_Mo_below_20 (by decide) ?_
  refine r_lushr (pc := 22) C d_Mo_below_22 ?_
  refine r_iload_n (pc := 23) C d_Mo_below_23 rfl 1 rfl ?_
  refine r_i2l (pc := 24) C d_Mo_below_24 ?_
  obtain ⟨hz5, h⟩ := ign h
  refine r_lrem (pc := 25) C d_Mo_below_25 hz5 ?_
  refine r_l2i (pc := 26) C d_Mo_below_26 ?_
  cases h
  exact r_iret (pc := 27) C hr rfl rfl rfl d_Mo_below_27
def f_Mo_put (mr : MR) (p0 : Int32) : Option (MR) :=
  (if (mr.1 < 0 ∨ 200 ≤ mr.1.toNatClampNeg) then none else some (mr.1 + (1 : Int32), upd mr.2 mr.1.toNatClampNeg p0))
abbrev rm_Mo_put : Room := { frames := 0, cells := 0, slots := 0, locals := 0 }
theorem hd_Mo_put : y_Mo_put.cls ≠ "java/lang/invoke/MethodHandle" ∧ y_Mo_put.cls ≠ "java/lang/invoke/VarHandle" ∧ (parseMethodDescriptor y_Mo_put.desc).map (fun d => d.parameters.length) = some 1 := by decide +kernel
set_option maxHeartbeats 4000000 in
set_option maxRecDepth 100000 in
theorem c_Mo_put_M {l : Launch} {E : State → Heap → Prop} {D : va_G} {A : Nat → Prop} {cI cZ cJ : ClassId} (hE : stb A E) {ad : Nat → Nat} {mk : Int32} {mu : Int64} {mz : Int32} {mw : Int32} {mo : (Nat → Int32)} {md : MD} {mr : MR} {mp : MP} {rest : va_W} {p0 : Int32} {q : MR} (h : f_Mo_put mr p0 = some q) : cm l E D clsA (TY cI cZ cJ) A GG y_Mo_put b_Mo_put 2 none rm_Mo_put [.ref (ad 11), .int p0] (WM ad cI cZ mk mu mz mw mo md mr mp rest) none (WM ad cI cZ mk mu mz mw mo md q mp rest) := by
  refine r_met (own := R_Mo) rfl (by decide) (Nat.le_of_ble_eq_true rfl) rfl ?_
  intro p e sg m args below meth c C hr hnm hX
  unfold f_Mo_put at h
  refine r_aload_n (pc := 0) C d_Mo_put_0 rfl 0 rfl ?_
  refine r_get (pc := 1) (v := .ref (ad 2)) C hin_Mo 11 rfl rfl 17 (by decide) mm_6 rfl rfl d_Mo_put_1 ?_
  refine r_aload_n (pc := 4) C d_Mo_put_4 rfl 0 rfl ?_
  refine r_get (pc := 5) (v := .int mr.1) C hin_Mo 11 rfl rfl 16 (by decide) mm_2 rfl rfl d_Mo_put_5 ?_
  refine r_iload_n (pc := 8) C d_Mo_put_8 rfl 1 rfl ?_
  obtain ⟨hi8, h⟩ := ign h
  refine r_iast (pc := 9) (ws' := WM ad cI cZ mk mu mz mw mo md (mr.1, upd mr.2 mr.1.toNatClampNeg p0) mp rest) C 2 0 rfl rfl hi8 rfl d_Mo_put_9 ?_
  refine r_aload_n (pc := 10) C d_Mo_put_10 rfl 0 rfl ?_
  refine r_dup (pc := 11) C d_Mo_put_11 rfl ?_
  refine r_get (pc := 12) (v := .int mr.1) C hin_Mo 11 rfl rfl 16 (by decide) mm_2 rfl rfl d_Mo_put_12 ?_
  refine r_iconst (pc := 15) (v := 1) C d_Mo_put_15 (by decide) ?_
  refine r_iadd (pc := 16) C d_Mo_put_16 ?_
  refine r_put (pc := 17) (ty := .int) (ws' := WM ad cI cZ mk mu mz mw mo md (mr.1 + (1 : Int32), upd mr.2 mr.1.toNatClampNeg p0) mp rest) C hin_Mo t_Mo t_Mo_ok n_Mo 11 rfl rfl 16 (by decide) mm_2 rfl rfl pd_I rfl rfl (Nat.le_of_ble_eq_true rfl) rfl d_Mo_put_17 ?_
  cases h
  exact r_vret (pc := 20) C hr rfl rfl d_Mo_put_20
def bd_Mo_drawRow_22 (kx : Int32 × Int32 × Int32 × Int64 × MR → Option (Int64 × MR)) (rec : Int32 × Int32 × Int32 × Int64 × MR → Option (Int64 × MR)) (z : Int32 × Int32 × Int32 × Int64 × MR) : Option (Int64 × MR) :=
  (if z.2.1 ≤ z.2.2.1 then kx (z.1, z.2.1, z.2.2.1, z.2.2.2.1, z.2.2.2.2) else Option.bind (f_Mo_below z.2.2.2.1 (20)) (fun q59 => Option.bind (f_Mo_put z.2.2.2.2 ((4 : Int32) + q59.1)) (fun q60 => rec (z.1, z.2.1, z.2.2.1 + 1, q59.2, q60))))
def bd_Mo_drawRow_63 (kx : Int32 × Int32 × Int32 × Int32 × Int64 × MR → Option (Int64 × MR)) (rec : Int32 × Int32 × Int32 × Int32 × Int64 × MR → Option (Int64 × MR)) (z : Int32 × Int32 × Int32 × Int32 × Int64 × MR) : Option (Int64 × MR) :=
  (if z.2.2.1 ≤ z.2.2.2.1 then kx (z.1, z.2.1, z.2.2.1, z.2.2.2.1, z.2.2.2.2.1, z.2.2.2.2.2) else Option.bind (f_Mo_below z.2.2.2.2.1 (6)) (fun q68 => Option.bind (f_Mo_put z.2.2.2.2.2 ((1 : Int32) + q68.1)) (fun q69 => rec (z.1, z.2.1, z.2.2.1, z.2.2.2.1 + 1, q68.2, q69))))
def jn_Mo_drawRow_158 (kx : Int32 × Int32 × Int32 × Int32 × Int32 × Int64 × MR → Option (Int64 × MR)) (rec : Int32 × Int32 × Int32 × Int32 × Int32 × Int64 × MR → Option (Int64 × MR)) (z : Int32 × Int32 × Int32 × Int32 × Int32 × Int32 × Int64 × MR) : Option (Int64 × MR) :=
  Option.bind (f_Mo_put z.2.2.2.2.2.2.2 z.2.2.2.2.2.1) (fun q84 => Option.bind (f_Mo_below z.2.2.2.2.2.2.1 (6)) (fun q85 => (if q85.1 = 0 then Option.bind (f_Mo_put q84 (1)) (fun q87 => rec (z.1, z.2.1, z.2.2.1, z.2.2.2.1, z.2.2.2.2.1 + 1, q85.2, q87)) else Option.bind (f_Mo_put q84 (0)) (fun q86 => rec (z.1, z.2.1, z.2.2.1, z.2.2.2.1, z.2.2.2.2.1 + 1, q85.2, q86)))))
def bd_Mo_drawRow_107 (kx : Int32 × Int32 × Int32 × Int32 × Int32 × Int64 × MR → Option (Int64 × MR)) (rec : Int32 × Int32 × Int32 × Int32 × Int32 × Int64 × MR → Option (Int64 × MR)) (z : Int32 × Int32 × Int32 × Int32 × Int32 × Int64 × MR) : Option (Int64 × MR) :=
  (if z.2.2.2.1 ≤ z.2.2.2.2.1 then kx (z.1, z.2.1, z.2.2.1, z.2.2.2.1, z.2.2.2.2.1, z.2.2.2.2.2.1, z.2.2.2.2.2.2) else Option.bind (f_Mo_below z.2.2.2.2.2.1 z.2.1) (fun q77 => Option.bind (f_Mo_put z.2.2.2.2.2.2 q77.1) (fun q78 => Option.bind (f_Mo_below q77.2 z.2.2.1) (fun q79 => Option.bind (f_Mo_put q78 q79.1) (fun q80 => Option.bind (f_Mo_below q79.2 (5)) (fun q81 => Option.bind (f_Mo_put q80 ((1 : Int32) + q81.1)) (fun q82 => Option.bind (f_Mo_below q81.2 (3)) (fun q83 => (if q83.1 = 2 then (jn_Mo_drawRow_158 kx rec (z.1, z.2.1, z.2.2.1, z.2.2.2.1, z.2.2.2.2.1, 1, q83.2, q82)) else (jn_Mo_drawRow_158 kx rec (z.1, z.2.1, z.2.2.1, z.2.2.2.1, z.2.2.2.2.1, 0, q83.2, q82)))))))))))
def f_Mo_drawRow (mu : Int64) (mr : MR) (p0 : Int32) : Option (Int64 × MR) :=
  Option.bind (f_Mo_below mu (p0 + (1 : Int32))) (fun q57 => Option.bind (f_Mo_put (0, mr.2) ((1 : Int32) + q57.1)) (fun q58 => (itn (bd_Mo_drawRow_22 (fun z65 => Option.bind (f_Mo_below z65.2.2.2.1 (z65.1 + (1 : Int32))) (fun q66 => Option.bind (f_Mo_put z65.2.2.2.2 ((1 : Int32) + q66.1)) (fun q67 => (itn (bd_Mo_drawRow_63 (fun z74 => Option.bind (f_Mo_below z74.2.2.2.2.1 (4)) (fun q75 => Option.bind (f_Mo_put z74.2.2.2.2.2 (((3 : Int32) * z74.1) + q75.1)) (fun q76 => (itn (bd_Mo_drawRow_107 (fun z105 => some (z105.2.2.2.2.2.1, z105.2.2.2.2.2.2))) 70 (z74.1, z74.2.1, z74.2.2.1, ((3 : Int32) * z74.1) + q75.1, 0, q75.2, q76)))))) 70 (z65.1, z65.2.1, (1 : Int32) + q66.1, 0, q66.2, q67)))))) 70 (p0, (1 : Int32) + q57.1, 0, q57.2, q58))))
abbrev rm_Mo_drawRow : Room := { frames := 1, cells := 0, slots := 0, locals := 21 }
theorem hd_Mo_drawRow : y_Mo_drawRow.cls ≠ "java/lang/invoke/MethodHandle" ∧ y_Mo_drawRow.cls ≠ "java/lang/invoke/VarHandle" ∧ (parseMethodDescriptor y_Mo_drawRow.desc).map (fun d => d.parameters.length) = some 1 := by decide +kernel
set_option maxHeartbeats 4000000 in
set_option maxRecDepth 100000 in
theorem vl_Mo_drawRow_22_M {l : Launch} {E : State → Heap → Prop} {D : va_G} {A : Nat → Prop} {cI cZ cJ : ClassId} (hE : stb A E) {ad : Nat → Nat} {mk : Int32} {mz : Int32} {mw : Int32} {mo : (Nat → Int32)} {md : MD} {mp : MP} {rest : va_W} {p : Program} {e : Env} {sg : State} {m : MethodId} {args : Array Value} {below : List Frame} {meth : Method} {c : Code} (C : cx p sg m args meth c D clsA (TY cI cZ cJ) A GG R_Mo b_Mo_drawRow 6) (hr : meth.sig.returnType = none) (hX : E sg sg.heap) {q : Int64 × MR} {kx : Int32 × Int32 × Int32 × Int64 × MR → Option (Int64 × MR)} (K : ∀ z : Int32 × Int32 × Int32 × Int64 × MR, kx z = some q → vv p l e rm_Mo_drawRow sg m args below meth c D clsA A 6 0 0 (MQ below (qcI D clsA A none (WM ad cI cZ mk q.1 mz mw mo md q.2 mp rest)) args sg rm_Mo_drawRow.cells rm_Mo_drawRow.slots A) 45 [(0, .ref (ad 11)), (1, .int z.1), (2, .int z.2.1), (3, .int z.2.2.1)] [] (WM ad cI cZ mk z.2.2.2.1 mz mw mo md z.2.2.2.2 mp rest)) :
    ∀ (n : Nat) (z : Int32 × Int32 × Int32 × Int64 × MR), itn (bd_Mo_drawRow_22 kx) n z = some q → vv p l e rm_Mo_drawRow sg m args below meth c D clsA A 6 0 0 (MQ below (qcI D clsA A none (WM ad cI cZ mk q.1 mz mw mo md q.2 mp rest)) args sg rm_Mo_drawRow.cells rm_Mo_drawRow.slots A) 22 [(0, .ref (ad 11)), (1, .int z.1), (2, .int z.2.1), (3, .int z.2.2.1)] [] (WM ad cI cZ mk z.2.2.2.1 mz mw mo md z.2.2.2.2 mp rest) := by
  have _ := hE
  intro n
  induction n with
  | zero => intro z h; cases h
  | succ n ih =>
    intro z h
    obtain ⟨zv0, zv1, zv2, zv3, zv4⟩ := z
    replace h : bd_Mo_drawRow_22 kx (itn (bd_Mo_drawRow_22 kx) n) (zv0, zv1, zv2, zv3, zv4) = some q := h
    unfold bd_Mo_drawRow_22 at h
    (try dsimp only at h)
    show vv p l e rm_Mo_drawRow sg m args below meth c D clsA A 6 0 0 (MQ below (qcI D clsA A none (WM ad cI cZ mk q.1 mz mw mo md q.2 mp rest)) args sg rm_Mo_drawRow.cells rm_Mo_drawRow.slots A) 22 [(0, .ref (ad 11)), (1, .int zv0), (2, .int zv1), (3, .int zv2)] [] (WM ad cI cZ mk zv3 mz mw mo md zv4 mp rest)
    refine r_iload_n (pc := 22) C d_Mo_drawRow_22 rfl 3 rfl ?_
    refine r_iload_n (pc := 23) C d_Mo_drawRow_23 rfl 2 rfl ?_
    refine r_icmp_ge (pc := 24) (tgt := 45) C d_Mo_drawRow_24 (by decide) (fun c64 => ?_) (fun c64 => ?_)
    · replace h := ip c64 h
      refine r_loc (lv' := [(0, .ref (ad 11)), (1, .int zv0), (2, .int zv1), (3, .int zv2)]) [0, 1, 2, 3] rfl ?_
      exact K (zv0, zv1, zv2, zv3, zv4) h
    · replace h := iN c64 h
      refine r_aload_n (pc := 27) C d_Mo_drawRow_27 rfl 0 rfl ?_
      refine r_iconst (pc := 28) (v := 4) C d_Mo_drawRow_28 (by decide) ?_
      refine r_aload_n (pc := 29) C d_Mo_drawRow_29 rfl 0 rfl ?_
      refine r_bipush (pc := 30) (v := 20) C d_Mo_drawRow_30 (by decide) ?_
      obtain ⟨q62, hq62, h⟩ := ob h
      refine r_callV (pc := 32) (As := [.int (20)]) (rest := [.int (4), .ref (ad 11)]) (st1 := [.int q62.1, .int (4), .ref (ad 11)]) hE gg_good C hX (c_Mo_below_M hE hq62) mm_12 mm_13 mm_14 mm_10 mm_15 hd_Mo_below 11 rfl rfl ⟨⟨(Nat.le_of_ble_eq_true rfl), (Nat.le_of_ble_eq_true rfl)⟩, (Nat.le_of_ble_eq_true rfl), (Nat.le_of_ble_eq_true rfl)⟩ (Nat.le_of_ble_eq_true rfl) rfl rfl d_Mo_drawRow_32 ?_
      refine r_iadd (pc := 35) C d_Mo_drawRow_35 ?_
      obtain ⟨q63, hq63, h⟩ := ob h
      refine r_callV (pc := 36) (As := [.int ((4 : Int32) + q62.1)]) (rest := []) (st1 := []) hE gg_good C hX (c_Mo_put_M hE hq63) mm_7 mm_8 mm_9 mm_10 mm_11 hd_Mo_put 11 rfl rfl ⟨⟨(Nat.le_of_ble_eq_true rfl), (Nat.le_of_ble_eq_true rfl)⟩, (Nat.le_of_ble_eq_true rfl), (Nat.le_of_ble_eq_true rfl)⟩ (Nat.le_of_ble_eq_true rfl) rfl rfl d_Mo_drawRow_36 ?_
      refine r_iincK (pc := 39) (w0 := 1) (lv' := [(3, .int (zv2 + 1)), (0, .ref (ad 11)), (1, .int zv0), (2, .int zv1)]) C d_Mo_drawRow_39 (by decide) 3 rfl (by decide) rfl ?_
      refine r_goto (pc := 42) (tgt := 22) C d_Mo_drawRow_42 (by decide) ?_
      refine r_loc (lv' := [(0, .ref (ad 11)), (1, .int zv0), (2, .int zv1), (3, .int (zv2 + 1))]) [1, 2, 3, 0] rfl ?_
      exact ih (zv0, zv1, zv2 + 1, q62.2, q63) h
set_option maxHeartbeats 4000000 in
set_option maxRecDepth 100000 in
theorem vl_Mo_drawRow_63_M {l : Launch} {E : State → Heap → Prop} {D : va_G} {A : Nat → Prop} {cI cZ cJ : ClassId} (hE : stb A E) {ad : Nat → Nat} {mk : Int32} {mz : Int32} {mw : Int32} {mo : (Nat → Int32)} {md : MD} {mp : MP} {rest : va_W} {p : Program} {e : Env} {sg : State} {m : MethodId} {args : Array Value} {below : List Frame} {meth : Method} {c : Code} (C : cx p sg m args meth c D clsA (TY cI cZ cJ) A GG R_Mo b_Mo_drawRow 6) (hr : meth.sig.returnType = none) (hX : E sg sg.heap) {q : Int64 × MR} {kx : Int32 × Int32 × Int32 × Int32 × Int64 × MR → Option (Int64 × MR)} (K : ∀ z : Int32 × Int32 × Int32 × Int32 × Int64 × MR, kx z = some q → vv p l e rm_Mo_drawRow sg m args below meth c D clsA A 6 0 0 (MQ below (qcI D clsA A none (WM ad cI cZ mk q.1 mz mw mo md q.2 mp rest)) args sg rm_Mo_drawRow.cells rm_Mo_drawRow.slots A) 87 [(0, .ref (ad 11)), (1, .int z.1), (2, .int z.2.1), (3, .int z.2.2.1), (4, .int z.2.2.2.1)] [] (WM ad cI cZ mk z.2.2.2.2.1 mz mw mo md z.2.2.2.2.2 mp rest)) :
    ∀ (n : Nat) (z : Int32 × Int32 × Int32 × Int32 × Int64 × MR), itn (bd_Mo_drawRow_63 kx) n z = some q → vv p l e rm_Mo_drawRow sg m args below meth c D clsA A 6 0 0 (MQ below (qcI D clsA A none (WM ad cI cZ mk q.1 mz mw mo md q.2 mp rest)) args sg rm_Mo_drawRow.cells rm_Mo_drawRow.slots A) 63 [(0, .ref (ad 11)), (1, .int z.1), (2, .int z.2.1), (3, .int z.2.2.1), (4, .int z.2.2.2.1)] [] (WM ad cI cZ mk z.2.2.2.2.1 mz mw mo md z.2.2.2.2.2 mp rest) := by
  have _ := hE
  intro n
  induction n with
  | zero => intro z h; cases h
  | succ n ih =>
    intro z h
    obtain ⟨zv0, zv1, zv2, zv3, zv4, zv5⟩ := z
    replace h : bd_Mo_drawRow_63 kx (itn (bd_Mo_drawRow_63 kx) n) (zv0, zv1, zv2, zv3, zv4, zv5) = some q := h
    unfold bd_Mo_drawRow_63 at h
    (try dsimp only at h)
    show vv p l e rm_Mo_drawRow sg m args below meth c D clsA A 6 0 0 (MQ below (qcI D clsA A none (WM ad cI cZ mk q.1 mz mw mo md q.2 mp rest)) args sg rm_Mo_drawRow.cells rm_Mo_drawRow.slots A) 63 [(0, .ref (ad 11)), (1, .int zv0), (2, .int zv1), (3, .int zv2), (4, .int zv3)] [] (WM ad cI cZ mk zv4 mz mw mo md zv5 mp rest)
    refine r_iload (pc := 63) C d_Mo_drawRow_63 4 rfl ?_
    refine r_iload_n (pc := 65) C d_Mo_drawRow_65 rfl 3 rfl ?_
    refine r_icmp_ge (pc := 66) (tgt := 87) C d_Mo_drawRow_66 (by decide) (fun c73 => ?_) (fun c73 => ?_)
    · replace h := ip c73 h
      refine r_loc (lv' := [(0, .ref (ad 11)), (1, .int zv0), (2, .int zv1), (3, .int zv2), (4, .int zv3)]) [0, 1, 2, 3, 4] rfl ?_
      exact K (zv0, zv1, zv2, zv3, zv4, zv5) h
    · replace h := iN c73 h
      refine r_aload_n (pc := 69) C d_Mo_drawRow_69 rfl 0 rfl ?_
      refine r_iconst (pc := 70) (v := 1) C d_Mo_drawRow_70 (by decide) ?_
      refine r_aload_n (pc := 71) C d_Mo_drawRow_71 rfl 0 rfl ?_
      refine r_bipush (pc := 72) (v := 6) C d_Mo_drawRow_72 (by decide) ?_
      obtain ⟨q71, hq71, h⟩ := ob h
      refine r_callV (pc := 74) (As := [.int (6)]) (rest := [.int (1), .ref (ad 11)]) (st1 := [.int q71.1, .int (1), .ref (ad 11)]) hE gg_good C hX (c_Mo_below_M hE hq71) mm_12 mm_13 mm_14 mm_10 mm_15 hd_Mo_below 11 rfl rfl ⟨⟨(Nat.le_of_ble_eq_true rfl), (Nat.le_of_ble_eq_true rfl)⟩, (Nat.le_of_ble_eq_true rfl), (Nat.le_of_ble_eq_true rfl)⟩ (Nat.le_of_ble_eq_true rfl) rfl rfl d_Mo_drawRow_74 ?_
      refine r_iadd (pc := 77) C d_Mo_drawRow_77 ?_
      obtain ⟨q72, hq72, h⟩ := ob h
      refine r_callV (pc := 78) (As := [.int ((1 : Int32) + q71.1)]) (rest := []) (st1 := []) hE gg_good C hX (c_Mo_put_M hE hq72) mm_7 mm_8 mm_9 mm_10 mm_11 hd_Mo_put 11 rfl rfl ⟨⟨(Nat.le_of_ble_eq_true rfl), (Nat.le_of_ble_eq_true rfl)⟩, (Nat.le_of_ble_eq_true rfl), (Nat.le_of_ble_eq_true rfl)⟩ (Nat.le_of_ble_eq_true rfl) rfl rfl d_Mo_drawRow_78 ?_
      refine r_iincK (pc := 81) (w0 := 1) (lv' := [(4, .int (zv3 + 1)), (0, .ref (ad 11)), (1, .int zv0), (2, .int zv1), (3, .int zv2)]) C d_Mo_drawRow_81 (by decide) 4 rfl (by decide) rfl ?_
      refine r_goto (pc := 84) (tgt := 63) C d_Mo_drawRow_84 (by decide) ?_
      refine r_loc (lv' := [(0, .ref (ad 11)), (1, .int zv0), (2, .int zv1), (3, .int zv2), (4, .int (zv3 + 1))]) [1, 2, 3, 4, 0] rfl ?_
      exact ih (zv0, zv1, zv2, zv3 + 1, q71.2, q72) h
set_option maxHeartbeats 4000000 in
set_option maxRecDepth 100000 in
theorem vj_Mo_drawRow_158_M {l : Launch} {E : State → Heap → Prop} {D : va_G} {A : Nat → Prop} {cI cZ cJ : ClassId} (hE : stb A E) {ad : Nat → Nat} {mk : Int32} {mz : Int32} {mw : Int32} {mo : (Nat → Int32)} {md : MD} {mp : MP} {rest : va_W} {p : Program} {e : Env} {sg : State} {m : MethodId} {args : Array Value} {below : List Frame} {meth : Method} {c : Code} (C : cx p sg m args meth c D clsA (TY cI cZ cJ) A GG R_Mo b_Mo_drawRow 6) (hr : meth.sig.returnType = none) (hX : E sg sg.heap) {q : Int64 × MR} {kx rec : Int32 × Int32 × Int32 × Int32 × Int32 × Int64 × MR → Option (Int64 × MR)} (K : ∀ z : Int32 × Int32 × Int32 × Int32 × Int32 × Int64 × MR, kx z = some q → vv p l e rm_Mo_drawRow sg m args below meth c D clsA A 6 0 0 (MQ below (qcI D clsA A none (WM ad cI cZ mk q.1 mz mw mo md q.2 mp rest)) args sg rm_Mo_drawRow.cells rm_Mo_drawRow.slots A) 185 [(0, .ref (ad 11)), (1, .int z.1), (2, .int z.2.1), (3, .int z.2.2.1), (4, .int z.2.2.2.1), (5, .int z.2.2.2.2.1)] [] (WM ad cI cZ mk z.2.2.2.2.2.1 mz mw mo md z.2.2.2.2.2.2 mp rest)) (ih : ∀ z : Int32 × Int32 × Int32 × Int32 × Int32 × Int64 × MR, rec z = some q → vv p l e rm_Mo_drawRow sg m args below meth c D clsA A 6 0 0 (MQ below (qcI D clsA A none (WM ad cI cZ mk q.1 mz mw mo md q.2 mp rest)) args sg rm_Mo_drawRow.cells rm_Mo_drawRow.slots A) 107 [(0, .ref (ad 11)), (1, .int z.1), (2, .int z.2.1), (3, .int z.2.2.1), (4, .int z.2.2.2.1), (5, .int z.2.2.2.2.1)] [] (WM ad cI cZ mk z.2.2.2.2.2.1 mz mw mo md z.2.2.2.2.2.2 mp rest)) :
    ∀ z : Int32 × Int32 × Int32 × Int32 × Int32 × Int32 × Int64 × MR, jn_Mo_drawRow_158 kx rec z = some q → vv p l e rm_Mo_drawRow sg m args below meth c D clsA A 6 0 0 (MQ below (qcI D clsA A none (WM ad cI cZ mk q.1 mz mw mo md q.2 mp rest)) args sg rm_Mo_drawRow.cells rm_Mo_drawRow.slots A) 158 [(0, .ref (ad 11)), (1, .int z.1), (2, .int z.2.1), (3, .int z.2.2.1), (4, .int z.2.2.2.1), (5, .int z.2.2.2.2.1)] [.int z.2.2.2.2.2.1, .ref (ad 11)] (WM ad cI cZ mk z.2.2.2.2.2.2.1 mz mw mo md z.2.2.2.2.2.2.2 mp rest) := by
  have _ := hE
  intro z h
  obtain ⟨zv0, zv1, zv2, zv3, zv4, zv5, zv6, zv7⟩ := z
  unfold jn_Mo_drawRow_158 at h
  (try dsimp only at h)
  show vv p l e rm_Mo_drawRow sg m args below meth c D clsA A 6 0 0 (MQ below (qcI D clsA A none (WM ad cI cZ mk q.1 mz mw mo md q.2 mp rest)) args sg rm_Mo_drawRow.cells rm_Mo_drawRow.slots A) 158 [(0, .ref (ad 11)), (1, .int zv0), (2, .int zv1), (3, .int zv2), (4, .int zv3), (5, .int zv4)] [.int zv5, .ref (ad 11)] (WM ad cI cZ mk zv6 mz mw mo md zv7 mp rest)
  obtain ⟨q89, hq89, h⟩ := ob h
  refine r_callV (pc := 158) (As := [.int zv5]) (rest := []) (st1 := []) hE gg_good C hX (c_Mo_put_M hE hq89) mm_7 mm_8 mm_9 mm_10 mm_11 hd_Mo_put 11 rfl rfl ⟨⟨(Nat.le_of_ble_eq_true rfl), (Nat.le_of_ble_eq_true rfl)⟩, (Nat.le_of_ble_eq_true rfl), (Nat.le_of_ble_eq_true rfl)⟩ (Nat.le_of_ble_eq_true rfl) rfl rfl d_Mo_drawRow_158 ?_
  refine r_aload_n (pc := 161) C d_Mo_drawRow_161 rfl 0 rfl ?_
  refine r_aload_n (pc := 162) C d_Mo_drawRow_162 rfl 0 rfl ?_
  refine r_bipush (pc := 163) (v := 6) C d_Mo_drawRow_163 (by decide) ?_
  obtain ⟨q90, hq90, h⟩ := ob h
  refine r_callV (pc := 165) (As := [.int (6)]) (rest := [.ref (ad 11)]) (st1 := [.int q90.1, .ref (ad 11)]) hE gg_good C hX (c_Mo_below_M hE hq90) mm_12 mm_13 mm_14 mm_10 mm_15 hd_Mo_below 11 rfl rfl ⟨⟨(Nat.le_of_ble_eq_true rfl), (Nat.le_of_ble_eq_true rfl)⟩, (Nat.le_of_ble_eq_true rfl), (Nat.le_of_ble_eq_true rfl)⟩ (Nat.le_of_ble_eq_true rfl) rfl rfl d_Mo_drawRow_165 ?_
  refine r_if_ne (pc := 168) (tgt := 175) C d_Mo_drawRow_168 (by decide) (fun c93 => ?_) (fun c93 => ?_)
  · replace h := iN c93 h
    refine r_iconst (pc := 175) (v := 0) C d_Mo_drawRow_175 (by decide) ?_
    obtain ⟨q91, hq91, h⟩ := ob h
    refine r_callV (pc := 176) (As := [.int (0)]) (rest := []) (st1 := []) hE gg_good C hX (c_Mo_put_M hE hq91) mm_7 mm_8 mm_9 mm_10 mm_11 hd_Mo_put 11 rfl rfl ⟨⟨(Nat.le_of_ble_eq_true rfl), (Nat.le_of_ble_eq_true rfl)⟩, (Nat.le_of_ble_eq_true rfl), (Nat.le_of_ble_eq_true rfl)⟩ (Nat.le_of_ble_eq_true rfl) rfl rfl d_Mo_drawRow_176 ?_
    refine r_iincK (pc := 179) (w0 := 1) (lv' := [(5, .int (zv4 + 1)), (0, .ref (ad 11)), (1, .int zv0), (2, .int zv1), (3, .int zv2), (4, .int zv3)]) C d_Mo_drawRow_179 (by decide) 5 rfl (by decide) rfl ?_
    refine r_goto (pc := 182) (tgt := 107) C d_Mo_drawRow_182 (by decide) ?_
    refine r_loc (lv' := [(0, .ref (ad 11)), (1, .int zv0), (2, .int zv1), (3, .int zv2), (4, .int zv3), (5, .int (zv4 + 1))]) [1, 2, 3, 4, 5, 0] rfl ?_
    exact ih (zv0, zv1, zv2, zv3, zv4 + 1, q90.2, q91) h
  · replace h := ip c93 h
    refine r_iconst (pc := 171) (v := 1) C d_Mo_drawRow_171 (by decide) ?_
    refine r_goto (pc := 172) (tgt := 176) C d_Mo_drawRow_172 (by decide) ?_
    obtain ⟨q92, hq92, h⟩ := ob h
    refine r_callV (pc := 176) (As := [.int (1)]) (rest := []) (st1 := []) hE gg_good C hX (c_Mo_put_M hE hq92) mm_7 mm_8 mm_9 mm_10 mm_11 hd_Mo_put 11 rfl rfl ⟨⟨(Nat.le_of_ble_eq_true rfl), (Nat.le_of_ble_eq_true rfl)⟩, (Nat.le_of_ble_eq_true rfl), (Nat.le_of_ble_eq_true rfl)⟩ (Nat.le_of_ble_eq_true rfl) rfl rfl d_Mo_drawRow_176 ?_
    refine r_iincK (pc := 179) (w0 := 1) (lv' := [(5, .int (zv4 + 1)), (0, .ref (ad 11)), (1, .int zv0), (2, .int zv1), (3, .int zv2), (4, .int zv3)]) C d_Mo_drawRow_179 (by decide) 5 rfl (by decide) rfl ?_
    refine r_goto (pc := 182) (tgt := 107) C d_Mo_drawRow_182 (by decide) ?_
    refine r_loc (lv' := [(0, .ref (ad 11)), (1, .int zv0), (2, .int zv1), (3, .int zv2), (4, .int zv3), (5, .int (zv4 + 1))]) [1, 2, 3, 4, 5, 0] rfl ?_
    exact ih (zv0, zv1, zv2, zv3, zv4 + 1, q90.2, q92) h
set_option maxHeartbeats 4000000 in
set_option maxRecDepth 100000 in
theorem vl_Mo_drawRow_107_M {l : Launch} {E : State → Heap → Prop} {D : va_G} {A : Nat → Prop} {cI cZ cJ : ClassId} (hE : stb A E) {ad : Nat → Nat} {mk : Int32} {mz : Int32} {mw : Int32} {mo : (Nat → Int32)} {md : MD} {mp : MP} {rest : va_W} {p : Program} {e : Env} {sg : State} {m : MethodId} {args : Array Value} {below : List Frame} {meth : Method} {c : Code} (C : cx p sg m args meth c D clsA (TY cI cZ cJ) A GG R_Mo b_Mo_drawRow 6) (hr : meth.sig.returnType = none) (hX : E sg sg.heap) {q : Int64 × MR} {kx : Int32 × Int32 × Int32 × Int32 × Int32 × Int64 × MR → Option (Int64 × MR)} (K : ∀ z : Int32 × Int32 × Int32 × Int32 × Int32 × Int64 × MR, kx z = some q → vv p l e rm_Mo_drawRow sg m args below meth c D clsA A 6 0 0 (MQ below (qcI D clsA A none (WM ad cI cZ mk q.1 mz mw mo md q.2 mp rest)) args sg rm_Mo_drawRow.cells rm_Mo_drawRow.slots A) 185 [(0, .ref (ad 11)), (1, .int z.1), (2, .int z.2.1), (3, .int z.2.2.1), (4, .int z.2.2.2.1), (5, .int z.2.2.2.2.1)] [] (WM ad cI cZ mk z.2.2.2.2.2.1 mz mw mo md z.2.2.2.2.2.2 mp rest)) :
    ∀ (n : Nat) (z : Int32 × Int32 × Int32 × Int32 × Int32 × Int64 × MR), itn (bd_Mo_drawRow_107 kx) n z = some q → vv p l e rm_Mo_drawRow sg m args below meth c D clsA A 6 0 0 (MQ below (qcI D clsA A none (WM ad cI cZ mk q.1 mz mw mo md q.2 mp rest)) args sg rm_Mo_drawRow.cells rm_Mo_drawRow.slots A) 107 [(0, .ref (ad 11)), (1, .int z.1), (2, .int z.2.1), (3, .int z.2.2.1), (4, .int z.2.2.2.1), (5, .int z.2.2.2.2.1)] [] (WM ad cI cZ mk z.2.2.2.2.2.1 mz mw mo md z.2.2.2.2.2.2 mp rest) := by
  have _ := hE
  intro n
  induction n with
  | zero => intro z h; cases h
  | succ n ih =>
    intro z h
    obtain ⟨zv0, zv1, zv2, zv3, zv4, zv5, zv6⟩ := z
    replace h : bd_Mo_drawRow_107 kx (itn (bd_Mo_drawRow_107 kx) n) (zv0, zv1, zv2, zv3, zv4, zv5, zv6) = some q := h
    unfold bd_Mo_drawRow_107 at h
    (try dsimp only at h)
    show vv p l e rm_Mo_drawRow sg m args below meth c D clsA A 6 0 0 (MQ below (qcI D clsA A none (WM ad cI cZ mk q.1 mz mw mo md q.2 mp rest)) args sg rm_Mo_drawRow.cells rm_Mo_drawRow.slots A) 107 [(0, .ref (ad 11)), (1, .int zv0), (2, .int zv1), (3, .int zv2), (4, .int zv3), (5, .int zv4)] [] (WM ad cI cZ mk zv5 mz mw mo md zv6 mp rest)
    refine r_iload (pc := 107) C d_Mo_drawRow_107 5 rfl ?_
    refine r_iload (pc := 109) C d_Mo_drawRow_109 4 rfl ?_
    refine r_icmp_ge (pc := 111) (tgt := 185) C d_Mo_drawRow_111 (by decide) (fun c104 => ?_) (fun c104 => ?_)
    · replace h := ip c104 h
      refine r_loc (lv' := [(0, .ref (ad 11)), (1, .int zv0), (2, .int zv1), (3, .int zv2), (4, .int zv3), (5, .int zv4)]) [0, 1, 2, 3, 4, 5] rfl ?_
      exact K (zv0, zv1, zv2, zv3, zv4, zv5, zv6) h
    · replace h := iN c104 h
      refine r_aload_n (pc := 114) C d_Mo_drawRow_114 rfl 0 rfl ?_
      refine r_aload_n (pc := 115) C d_Mo_drawRow_115 rfl 0 rfl ?_
      refine r_iload_n (pc := 116) C d_Mo_drawRow_116 rfl 2 rfl ?_
      obtain ⟨q96, hq96, h⟩ := ob h
      refine r_callV (pc := 117) (As := [.int zv1]) (rest := [.ref (ad 11)]) (st1 := [.int q96.1, .ref (ad 11)]) hE gg_good C hX (c_Mo_below_M hE hq96) mm_12 mm_13 mm_14 mm_10 mm_15 hd_Mo_below 11 rfl rfl ⟨⟨(Nat.le_of_ble_eq_true rfl), (Nat.le_of_ble_eq_true rfl)⟩, (Nat.le_of_ble_eq_true rfl), (Nat.le_of_ble_eq_true rfl)⟩ (Nat.le_of_ble_eq_true rfl) rfl rfl d_Mo_drawRow_117 ?_
      obtain ⟨q97, hq97, h⟩ := ob h
      refine r_callV (pc := 120) (As := [.int q96.1]) (rest := []) (st1 := []) hE gg_good C hX (c_Mo_put_M hE hq97) mm_7 mm_8 mm_9 mm_10 mm_11 hd_Mo_put 11 rfl rfl ⟨⟨(Nat.le_of_ble_eq_true rfl), (Nat.le_of_ble_eq_true rfl)⟩, (Nat.le_of_ble_eq_true rfl), (Nat.le_of_ble_eq_true rfl)⟩ (Nat.le_of_ble_eq_true rfl) rfl rfl d_Mo_drawRow_120 ?_
      refine r_aload_n (pc := 123) C d_Mo_drawRow_123 rfl 0 rfl ?_
      refine r_aload_n (pc := 124) C d_Mo_drawRow_124 rfl 0 rfl ?_
      refine r_iload_n (pc := 125) C d_Mo_drawRow_125 rfl 3 rfl ?_
      obtain ⟨q98, hq98, h⟩ := ob h
      refine r_callV (pc := 126) (As := [.int zv2]) (rest := [.ref (ad 11)]) (st1 := [.int q98.1, .ref (ad 11)]) hE gg_good C hX (c_Mo_below_M hE hq98) mm_12 mm_13 mm_14 mm_10 mm_15 hd_Mo_below 11 rfl rfl ⟨⟨(Nat.le_of_ble_eq_true rfl), (Nat.le_of_ble_eq_true rfl)⟩, (Nat.le_of_ble_eq_true rfl), (Nat.le_of_ble_eq_true rfl)⟩ (Nat.le_of_ble_eq_true rfl) rfl rfl d_Mo_drawRow_126 ?_
      obtain ⟨q99, hq99, h⟩ := ob h
      refine r_callV (pc := 129) (As := [.int q98.1]) (rest := []) (st1 := []) hE gg_good C hX (c_Mo_put_M hE hq99) mm_7 mm_8 mm_9 mm_10 mm_11 hd_Mo_put 11 rfl rfl ⟨⟨(Nat.le_of_ble_eq_true rfl), (Nat.le_of_ble_eq_true rfl)⟩, (Nat.le_of_ble_eq_true rfl), (Nat.le_of_ble_eq_true rfl)⟩ (Nat.le_of_ble_eq_true rfl) rfl rfl d_Mo_drawRow_129 ?_
      refine r_aload_n (pc := 132) C d_Mo_drawRow_132 rfl 0 rfl ?_
      refine r_iconst (pc := 133) (v := 1) C d_Mo_drawRow_133 (by decide) ?_
      refine r_aload_n (pc := 134) C d_Mo_drawRow_134 rfl 0 rfl ?_
      refine r_iconst (pc := 135) (v := 5) C d_Mo_drawRow_135 (by decide) ?_
      obtain ⟨q100, hq100, h⟩ := ob h
      refine r_callV (pc := 136) (As := [.int (5)]) (rest := [.int (1), .ref (ad 11)]) (st1 := [.int q100.1, .int (1), .ref (ad 11)]) hE gg_good C hX (c_Mo_below_M hE hq100) mm_12 mm_13 mm_14 mm_10 mm_15 hd_Mo_below 11 rfl rfl ⟨⟨(Nat.le_of_ble_eq_true rfl), (Nat.le_of_ble_eq_true rfl)⟩, (Nat.le_of_ble_eq_true rfl), (Nat.le_of_ble_eq_true rfl)⟩ (Nat.le_of_ble_eq_true rfl) rfl rfl d_Mo_drawRow_136 ?_
      refine r_iadd (pc := 139) C d_Mo_drawRow_139 ?_
      obtain ⟨q101, hq101, h⟩ := ob h
      refine r_callV (pc := 140) (As := [.int ((1 : Int32) + q100.1)]) (rest := []) (st1 := []) hE gg_good C hX (c_Mo_put_M hE hq101) mm_7 mm_8 mm_9 mm_10 mm_11 hd_Mo_put 11 rfl rfl ⟨⟨(Nat.le_of_ble_eq_true rfl), (Nat.le_of_ble_eq_true rfl)⟩, (Nat.le_of_ble_eq_true rfl), (Nat.le_of_ble_eq_true rfl)⟩ (Nat.le_of_ble_eq_true rfl) rfl rfl d_Mo_drawRow_140 ?_
      refine r_aload_n (pc := 143) C d_Mo_drawRow_143 rfl 0 rfl ?_
      refine r_aload_n (pc := 144) C d_Mo_drawRow_144 rfl 0 rfl ?_
      refine r_iconst (pc := 145) (v := 3) C d_Mo_drawRow_145 (by decide) ?_
      obtain ⟨q102, hq102, h⟩ := ob h
      refine r_callV (pc := 146) (As := [.int (3)]) (rest := [.ref (ad 11)]) (st1 := [.int q102.1, .ref (ad 11)]) hE gg_good C hX (c_Mo_below_M hE hq102) mm_12 mm_13 mm_14 mm_10 mm_15 hd_Mo_below 11 rfl rfl ⟨⟨(Nat.le_of_ble_eq_true rfl), (Nat.le_of_ble_eq_true rfl)⟩, (Nat.le_of_ble_eq_true rfl), (Nat.le_of_ble_eq_true rfl)⟩ (Nat.le_of_ble_eq_true rfl) rfl rfl d_Mo_drawRow_146 ?_
      refine r_iconst (pc := 149) (v := 2) C d_Mo_drawRow_149 (by decide) ?_
      refine r_icmp_ne (pc := 150) (tgt := 157) C d_Mo_drawRow_150 (by decide) (fun c103 => ?_) (fun c103 => ?_)
      · replace h := iN c103 h
        refine r_iconst (pc := 157) (v := 0) C d_Mo_drawRow_157 (by decide) ?_
        refine r_loc (lv' := [(0, .ref (ad 11)), (1, .int zv0), (2, .int zv1), (3, .int zv2), (4, .int zv3), (5, .int zv4)]) [0, 1, 2, 3, 4, 5] rfl ?_
        exact vj_Mo_drawRow_158_M hE C hr hX K ih (zv0, zv1, zv2, zv3, zv4, 0, q102.2, q101) h
      · replace h := ip c103 h
        refine r_iconst (pc := 153) (v := 1) C d_Mo_drawRow_153 (by decide) ?_
        refine r_goto (pc := 154) (tgt := 158) C d_Mo_drawRow_154 (by decide) ?_
        refine r_loc (lv' := [(0, .ref (ad 11)), (1, .int zv0), (2, .int zv1), (3, .int zv2), (4, .int zv3), (5, .int zv4)]) [0, 1, 2, 3, 4, 5] rfl ?_
        exact vj_Mo_drawRow_158_M hE C hr hX K ih (zv0, zv1, zv2, zv3, zv4, 1, q102.2, q101) h
set_option maxHeartbeats 4000000 in
set_option maxRecDepth 100000 in
theorem c_Mo_drawRow_M {l : Launch} {E : State → Heap → Prop} {D : va_G} {A : Nat → Prop} {cI cZ cJ : ClassId} (hE : stb A E) {ad : Nat → Nat} {mk : Int32} {mu : Int64} {mz : Int32} {mw : Int32} {mo : (Nat → Int32)} {md : MD} {mr : MR} {mp : MP} {rest : va_W} {p0 : Int32} {q : Int64 × MR} (h : f_Mo_drawRow mu mr p0 = some q) : cm l E D clsA (TY cI cZ cJ) A GG y_Mo_drawRow b_Mo_drawRow 6 none rm_Mo_drawRow [.ref (ad 11), .int p0] (WM ad cI cZ mk mu mz mw mo md mr mp rest) none (WM ad cI cZ mk q.1 mz mw mo md q.2 mp rest) := by
  refine r_met (own := R_Mo) rfl (by decide) (Nat.le_of_ble_eq_true rfl) rfl ?_
  intro p e sg m args below meth c C hr hnm hX
  unfold f_Mo_drawRow at h
  refine r_aload_n (pc := 0) C d_Mo_drawRow_0 rfl 0 rfl ?_
  refine r_iconst (pc := 1) (v := 0) C d_Mo_drawRow_1 (by decide) ?_
  refine r_put (pc := 2) (ty := .int) (ws' := WM ad cI cZ mk mu mz mw mo md (0, mr.2) mp rest) C hin_Mo t_Mo t_Mo_ok n_Mo 11 rfl rfl 16 (by decide) mm_2 rfl rfl pd_I rfl rfl (Nat.le_of_ble_eq_true rfl) rfl d_Mo_drawRow_2 ?_
  refine r_iconst (pc := 5) (v := 1) C d_Mo_drawRow_5 (by decide) ?_
  refine r_aload_n (pc := 6) C d_Mo_drawRow_6 rfl 0 rfl ?_
  refine r_iload_n (pc := 7) C d_Mo_drawRow_7 rfl 1 rfl ?_
  refine r_iconst (pc := 8) (v := 1) C d_Mo_drawRow_8 (by decide) ?_
  refine r_iadd (pc := 9) C d_Mo_drawRow_9 ?_
  obtain ⟨q57, hq57, h⟩ := ob h
  refine r_callV (pc := 10) (As := [.int (p0 + (1 : Int32))]) (rest := [.int (1)]) (st1 := [.int q57.1, .int (1)]) hE gg_good C hX (c_Mo_below_M hE hq57) mm_12 mm_13 mm_14 mm_10 mm_15 hd_Mo_below 11 rfl rfl ⟨⟨(Nat.le_of_ble_eq_true rfl), (Nat.le_of_ble_eq_true rfl)⟩, (Nat.le_of_ble_eq_true rfl), (Nat.le_of_ble_eq_true rfl)⟩ (Nat.le_of_ble_eq_true rfl) rfl rfl d_Mo_drawRow_10 ?_
  refine r_iadd (pc := 13) C d_Mo_drawRow_13 ?_
  refine r_istore_n (pc := 14) (lv' := [(2, .int ((1 : Int32) + q57.1)), (0, .ref (ad 11)), (1, .int p0)]) C d_Mo_drawRow_14 rfl (by decide) rfl ?_
  refine r_aload_n (pc := 15) C d_Mo_drawRow_15 rfl 1 rfl ?_
  refine r_iload_n (pc := 16) C d_Mo_drawRow_16 rfl 0 rfl ?_
  obtain ⟨q58, hq58, h⟩ := ob h
  refine r_callV (pc := 17) (As := [.int ((1 : Int32) + q57.1)]) (rest := []) (st1 := []) hE gg_good C hX (c_Mo_put_M hE hq58) mm_7 mm_8 mm_9 mm_10 mm_11 hd_Mo_put 11 rfl rfl ⟨⟨(Nat.le_of_ble_eq_true rfl), (Nat.le_of_ble_eq_true rfl)⟩, (Nat.le_of_ble_eq_true rfl), (Nat.le_of_ble_eq_true rfl)⟩ (Nat.le_of_ble_eq_true rfl) rfl rfl d_Mo_drawRow_17 ?_
  refine r_iconst (pc := 20) (v := 0) C d_Mo_drawRow_20 (by decide) ?_
  refine r_istore_n (pc := 21) (lv' := [(3, .int (0)), (2, .int ((1 : Int32) + q57.1)), (0, .ref (ad 11)), (1, .int p0)]) C d_Mo_drawRow_21 rfl (by decide) rfl ?_
  refine r_loc (lv' := [(0, .ref (ad 11)), (1, .int p0), (2, .int ((1 : Int32) + q57.1)), (3, .int (0))]) [2, 3, 1, 0] rfl ?_
  refine vl_Mo_drawRow_22_M hE C hr hX (fun z65 h => ?_) 70 (p0, (1 : Int32) + q57.1, 0, q57.2, q58) h
  refine r_iconst (pc := 45) (v := 1) C d_Mo_drawRow_45 (by decide) ?_
  refine r_aload_n (pc := 46) C d_Mo_drawRow_46 rfl 0 rfl ?_
  refine r_iload_n (pc := 47) C d_Mo_drawRow_47 rfl 1 rfl ?_
  refine r_iconst (pc := 48) (v := 1) C d_Mo_drawRow_48 (by decide) ?_
  refine r_iadd (pc := 49) C d_Mo_drawRow_49 ?_
  obtain ⟨q66, hq66, h⟩ := ob h
  refine r_callV (pc := 50) (As := [.int (z65.1 + (1 : Int32))]) (rest := [.int (1)]) (st1 := [.int q66.1, .int (1)]) hE gg_good C hX (c_Mo_below_M hE hq66) mm_12 mm_13 mm_14 mm_10 mm_15 hd_Mo_below 11 rfl rfl ⟨⟨(Nat.le_of_ble_eq_true rfl), (Nat.le_of_ble_eq_true rfl)⟩, (Nat.le_of_ble_eq_true rfl), (Nat.le_of_ble_eq_true rfl)⟩ (Nat.le_of_ble_eq_true rfl) rfl rfl d_Mo_drawRow_50 ?_
  refine r_iadd (pc := 53) C d_Mo_drawRow_53 ?_
  refine r_istore_n (pc := 54) (lv' := [(3, .int ((1 : Int32) + q66.1)), (0, .ref (ad 11)), (1, .int z65.1), (2, .int z65.2.1)]) C d_Mo_drawRow_54 rfl (by decide) rfl ?_
  refine r_aload_n (pc := 55) C d_Mo_drawRow_55 rfl 1 rfl ?_
  refine r_iload_n (pc := 56) C d_Mo_drawRow_56 rfl 0 rfl ?_
  obtain ⟨q67, hq67, h⟩ := ob h
  refine r_callV (pc := 57) (As := [.int ((1 : Int32) + q66.1)]) (rest := []) (st1 := []) hE gg_good C hX (c_Mo_put_M hE hq67) mm_7 mm_8 mm_9 mm_10 mm_11 hd_Mo_put 11 rfl rfl ⟨⟨(Nat.le_of_ble_eq_true rfl), (Nat.le_of_ble_eq_true rfl)⟩, (Nat.le_of_ble_eq_true rfl), (Nat.le_of_ble_eq_true rfl)⟩ (Nat.le_of_ble_eq_true rfl) rfl rfl d_Mo_drawRow_57 ?_
  refine r_iconst (pc := 60) (v := 0) C d_Mo_drawRow_60 (by decide) ?_
  refine r_istore (pc := 61) (lv' := [(4, .int (0)), (3, .int ((1 : Int32) + q66.1)), (0, .ref (ad 11)), (1, .int z65.1), (2, .int z65.2.1)]) C d_Mo_drawRow_61 (by decide) rfl ?_
  refine r_loc (lv' := [(0, .ref (ad 11)), (1, .int z65.1), (2, .int z65.2.1), (3, .int ((1 : Int32) + q66.1)), (4, .int (0))]) [2, 3, 4, 1, 0] rfl ?_
  refine vl_Mo_drawRow_63_M hE C hr hX (fun z74 h => ?_) 70 (z65.1, z65.2.1, (1 : Int32) + q66.1, 0, q66.2, q67) h
  refine r_iconst (pc := 87) (v := 3) C d_Mo_drawRow_87 (by decide) ?_
  refine r_iload_n (pc := 88) C d_Mo_drawRow_88 rfl 1 rfl ?_
  refine r_imul (pc := 89) C d_Mo_drawRow_89 ?_
  refine r_aload_n (pc := 90) C d_Mo_drawRow_90 rfl 0 rfl ?_
  refine r_iconst (pc := 91) (v := 4) C d_Mo_drawRow_91 (by decide) ?_
  obtain ⟨q75, hq75, h⟩ := ob h
  refine r_callV (pc := 92) (As := [.int (4)]) (rest := [.int ((3 : Int32) * z74.1)]) (st1 := [.int q75.1, .int ((3 : Int32) * z74.1)]) hE gg_good C hX (c_Mo_below_M hE hq75) mm_12 mm_13 mm_14 mm_10 mm_15 hd_Mo_below 11 rfl rfl ⟨⟨(Nat.le_of_ble_eq_true rfl), (Nat.le_of_ble_eq_true rfl)⟩, (Nat.le_of_ble_eq_true rfl), (Nat.le_of_ble_eq_true rfl)⟩ (Nat.le_of_ble_eq_true rfl) rfl rfl d_Mo_drawRow_92 ?_
  refine r_iadd (pc := 95) C d_Mo_drawRow_95 ?_
  refine r_istore (pc := 96) (lv' := [(4, .int (((3 : Int32) * z74.1) + q75.1)), (0, .ref (ad 11)), (1, .int z74.1), (2, .int z74.2.1), (3, .int z74.2.2.1)]) C d_Mo_drawRow_96 (by decide) rfl ?_
  refine r_aload_n (pc := 98) C d_Mo_drawRow_98 rfl 1 rfl ?_
  refine r_iload (pc := 99) C d_Mo_drawRow_99 0 rfl ?_
  obtain ⟨q76, hq76, h⟩ := ob h
  refine r_callV (pc := 101) (As := [.int (((3 : Int32) * z74.1) + q75.1)]) (rest := []) (st1 := []) hE gg_good C hX (c_Mo_put_M hE hq76) mm_7 mm_8 mm_9 mm_10 mm_11 hd_Mo_put 11 rfl rfl ⟨⟨(Nat.le_of_ble_eq_true rfl), (Nat.le_of_ble_eq_true rfl)⟩, (Nat.le_of_ble_eq_true rfl), (Nat.le_of_ble_eq_true rfl)⟩ (Nat.le_of_ble_eq_true rfl) rfl rfl d_Mo_drawRow_101 ?_
  refine r_iconst (pc := 104) (v := 0) C d_Mo_drawRow_104 (by decide) ?_
  refine r_istore (pc := 105) (lv' := [(5, .int (0)), (4, .int (((3 : Int32) * z74.1) + q75.1)), (0, .ref (ad 11)), (1, .int z74.1), (2, .int z74.2.1), (3, .int z74.2.2.1)]) C d_Mo_drawRow_105 (by decide) rfl ?_
  refine r_loc (lv' := [(0, .ref (ad 11)), (1, .int z74.1), (2, .int z74.2.1), (3, .int z74.2.2.1), (4, .int (((3 : Int32) * z74.1) + q75.1)), (5, .int (0))]) [2, 3, 4, 5, 1, 0] rfl ?_
  refine vl_Mo_drawRow_107_M hE C hr hX (fun z105 h => ?_) 70 (z74.1, z74.2.1, z74.2.2.1, ((3 : Int32) * z74.1) + q75.1, 0, q75.2, q76) h
  cases h
  exact r_vret (pc := 185) C hr rfl rfl d_Mo_drawRow_185
