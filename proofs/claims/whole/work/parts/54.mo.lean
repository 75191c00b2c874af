def f_Mo_conditions (mo : (Nat → Int32)) (md : MD) (mp : MP) : Option (Int32 × Int32 × MP) :=
  Option.bind (f_Mo_goThrough mo md mp) (fun q577 => some (q577.1, 0, q577.2))
abbrev rm_Mo_conditions : Room := { frames := 2, cells := 0, slots := 0, locals := 51 }
theorem hd_Mo_conditions : y_Mo_conditions.cls ≠ "java/lang/invoke/MethodHandle" ∧ y_Mo_conditions.cls ≠ "java/lang/invoke/VarHandle" ∧ (parseMethodDescriptor y_Mo_conditions.desc).map (fun d => d.parameters.length) = some 0 := by decide +kernel
set_option maxHeartbeats 4000000 in
set_option maxRecDepth 100000 in
theorem c_Mo_conditions_M {l : Launch} {E : State → Heap → Prop} {D : va_G} {A : Nat → Prop} {cI cZ cJ : ClassId} (hE : stb A E) {ad : Nat → Nat} {mk : Int32} {mu : Int64} {mz : Int32} {mw : Int32} {mo : (Nat → Int32)} {md : MD} {mr : MR} {mp : MP} {rest : va_W} {q : Int32 × Int32 × MP} (h : f_Mo_conditions mo md mp = some q) : cm l E D clsA (TY cI cZ cJ) A GG y_Mo_conditions b_Mo_conditions 1 (some .int) rm_Mo_conditions [.ref (ad 11)] (WM ad cI cZ mk mu mz mw mo md mr mp rest) (some (.int q.1)) (WM ad cI cZ q.2.1 mu mz mw mo md mr q.2.2 rest) := by
  refine r_met (own := R_Mo) rfl (by decide) (Nat.le_of_ble_eq_true rfl) rfl ?_
  intro p e sg m args below meth c C hr hnm hX
  unfold f_Mo_conditions at h
  refine r_aload_n (pc := 0) C d_Mo_conditions_0 rfl 0 rfl ?_
  refine r_iconst (pc := 1) (v := 0) C d_Mo_conditions_1 (by decide) ?_
  refine r_put (pc := 2) (ty := .int) (ws' := WM ad cI cZ (0) mu mz mw mo md mr mp rest) C hin_Mo t_Mo t_Mo_ok n_Mo 11 rfl rfl 0 (by decide) mm_0 rfl rfl pd_I rfl rfl (Nat.le_of_ble_eq_true rfl) rfl d_Mo_conditions_2 ?_
  refine r_aload_n (pc := 5) C d_Mo_conditions_5 rfl 0 rfl ?_
  obtain ⟨q577, hq577, h⟩ := ob h
  refine r_callV (pc := 6) (As := []) (rest := []) (st1 := [.int q577.1]) hE gg_good C hX (c_Mo_goThrough_M hE hq577) mm_57 mm_58 mm_59 mm_10 mm_60 hd_Mo_goThrough 11 rfl rfl ⟨⟨(Nat.le_of_ble_eq_true rfl), (Nat.le_of_ble_eq_true rfl)⟩, (Nat.le_of_ble_eq_true rfl), (Nat.le_of_ble_eq_true rfl)⟩ (Nat.le_of_ble_eq_true rfl) rfl rfl d_Mo_conditions_6 ?_
  cases h
  exact r_iret (pc := 9) C hr rfl rfl rfl d_Mo_conditions_9
def f_Mo_isSo (mw : Int32) (mo : (Nat → Int32)) (md : MD) (mp : MP) : Option (Int32 × MP) :=
  Option.bind (f_Mo_goThrough mo md mp) (fun q581 => (if mw &&& (q581.1 ^^^ ((-1) : Int32)) = 0 then some (1, q581.2) else some (0, q581.2)))
abbrev rm_Mo_isSo : Room := { frames := 2, cells := 0, slots := 0, locals := 51 }
theorem hd_Mo_isSo : y_Mo_isSo.cls ≠ "java/lang/invoke/MethodHandle" ∧ y_Mo_isSo.cls ≠ "java/lang/invoke/VarHandle" ∧ (parseMethodDescriptor y_Mo_isSo.desc).map (fun d => d.parameters.length) = some 0 := by decide +kernel
set_option maxHeartbeats 4000000 in
set_option maxRecDepth 100000 in
theorem c_Mo_isSo_M {l : Launch} {E : State → Heap → Prop} {D : va_G} {A : Nat → Prop} {cI cZ cJ : ClassId} (hE : stb A E) {ad : Nat → Nat} {mk : Int32} {mu : Int64} {mz : Int32} {mw : Int32} {mo : (Nat → Int32)} {md : MD} {mr : MR} {mp : MP} {rest : va_W} {q : Int32 × MP} (h : f_Mo_isSo mw mo md mp = some q) : cm l E D clsA (TY cI cZ cJ) A GG y_Mo_isSo b_Mo_isSo 1 (some .boolean) rm_Mo_isSo [.ref (ad 11)] (WM ad cI cZ mk mu mz mw mo md mr mp rest) (some (.int q.1)) (WM ad cI cZ mk mu mz mw mo md mr q.2 rest) := by
  refine r_met (own := R_Mo) rfl (by decide) (Nat.le_of_ble_eq_true rfl) rfl ?_
  intro p e sg m args below meth c C hr hnm hX
  unfold f_Mo_isSo at h
  refine r_aload_n (pc := 0) C d_Mo_isSo_0 rfl 0 rfl ?_
  refine r_get (pc := 1) (v := .int mw) C hin_Mo 11 rfl rfl 3 (by decide) mm_61 rfl rfl d_Mo_isSo_1 ?_
  refine r_aload_n (pc := 4) C d_Mo_isSo_4 rfl 0 rfl ?_
  obtain ⟨q581, hq581, h⟩ := ob h
  refine r_callV (pc := 5) (As := []) (rest := [.int mw]) (st1 := [.int q581.1, .int mw]) hE gg_good C hX (c_Mo_goThrough_M hE hq581) mm_57 mm_58 mm_59 mm_10 mm_60 hd_Mo_goThrough 11 rfl rfl ⟨⟨(Nat.le_of_ble_eq_true rfl), (Nat.le_of_ble_eq_true rfl)⟩, (Nat.le_of_ble_eq_true rfl), (Nat.le_of_ble_eq_true rfl)⟩ (Nat.le_of_ble_eq_true rfl) rfl rfl d_Mo_isSo_5 ?_
  refine r_iconst (pc := 8) (v := (-1)) C d_Mo_isSo_8 (by decide) ?_
  refine r_ixor (pc := 9) C d_Mo_isSo_9 ?_
  refine r_iand (pc := 10) C d_Mo_isSo_10 ?_
  refine r_if_ne (pc := 11) (tgt := 18) C d_Mo_isSo_11 (by decide) (fun c582 => ?_) (fun c582 => ?_)
  · replace h := iN c582 h
    refine r_iconst (pc := 18) (v := 0) C d_Mo_isSo_18 (by decide) ?_
    cases h
    exact r_iret (pc := 19) C hr rfl rfl rfl d_Mo_isSo_19
  · replace h := ip c582 h
    refine r_iconst (pc := 14) (v := 1) C d_Mo_isSo_14 (by decide) ?_
    refine r_goto (pc := 15) (tgt := 19) C d_Mo_isSo_15 (by decide) ?_
    cases h
    exact r_iret (pc := 19) C hr rfl rfl rfl d_Mo_isSo_19
def jn_Mo_verdict_16 (mo : (Nat → Int32)) (md : MD) (z : Int32 × Int32 × Int32 × Int32 × MP) : Option (Int32 × Int32 × Int32 × MP) :=
  (if z.2.1 ≤ 0 then Option.bind (f_Mo_isSo z.1 mo md z.2.2.2.2) (fun q591 => (if q591.1 = 0 ∨ q591.1 = 1 then some (q591.1, z.2.1, z.1, q591.2) else none)) else some (0, z.2.1, z.2.2.2.1, z.2.2.2.2))
def f_Mo_verdict (mk : Int32) (mw : Int32) (mo : (Nat → Int32)) (md : MD) (mp : MP) (p0 : Int32) : Option (Int32 × Int32 × Int32 × MP) :=
  Option.bind (f_Mo_in p0 (0) (63)) (fun q590 => (if q590 = 0 then (jn_Mo_verdict_16 mo md (p0, 1, mk, mw, mp)) else (jn_Mo_verdict_16 mo md (p0, 0, mk, mw, mp))))
abbrev rm_Mo_verdict : Room := { frames := 3, cells := 0, slots := 0, locals := 71 }
theorem hd_Mo_verdict : y_Mo_verdict.cls ≠ "java/lang/invoke/MethodHandle" ∧ y_Mo_verdict.cls ≠ "java/lang/invoke/VarHandle" ∧ (parseMethodDescriptor y_Mo_verdict.desc).map (fun d => d.parameters.length) = some 1 := by decide +kernel
set_option maxHeartbeats 4000000 in
set_option maxRecDepth 100000 in
theorem vj_Mo_verdict_16_M {l : Launch} {E : State → Heap → Prop} {D : va_G} {A : Nat → Prop} {cI cZ cJ : ClassId} (hE : stb A E) {ad : Nat → Nat} {mu : Int64} {mz : Int32} {mo : (Nat → Int32)} {md : MD} {mr : MR} {rest : va_W} {p : Program} {e : Env} {sg : State} {m : MethodId} {args : Array Value} {below : List Frame} {meth : Method} {c : Code} (C : cx p sg m args meth c D clsA (TY cI cZ cJ) A GG R_Mo b_Mo_verdict 2) (hr : meth.sig.returnType = (some .boolean)) (hX : E sg sg.heap) {q : Int32 × Int32 × Int32 × MP} :
    ∀ z : Int32 × Int32 × Int32 × Int32 × MP, jn_Mo_verdict_16 mo md z = some q → vv p l e rm_Mo_verdict sg m args below meth c D clsA A 2 0 0 (MQ below (qcI D clsA A (some (.int q.1)) (WM ad cI cZ q.2.1 mu mz q.2.2.1 mo md mr q.2.2.2 rest)) args sg rm_Mo_verdict.cells rm_Mo_verdict.slots A) 16 [(0, .ref (ad 11)), (1, .int z.1)] [.int z.2.1, .ref (ad 11)] (WM ad cI cZ z.2.2.1 mu mz z.2.2.2.1 mo md mr z.2.2.2.2 rest) := by
  have _ := hE
  intro z h
  obtain ⟨zv0, zv1, zv2, zv3, zv4⟩ := z
  unfold jn_Mo_verdict_16 at h
  (try dsimp only at h)
  show vv p l e rm_Mo_verdict sg m args below meth c D clsA A 2 0 0 (MQ below (qcI D clsA A (some (.int q.1)) (WM ad cI cZ q.2.1 mu mz q.2.2.1 mo md mr q.2.2.2 rest)) args sg rm_Mo_verdict.cells rm_Mo_verdict.slots A) 16 [(0, .ref (ad 11)), (1, .int zv0)] [.int zv1, .ref (ad 11)] (WM ad cI cZ zv2 mu mz zv3 mo md mr zv4 rest)
  refine r_put (pc := 16) (ty := .int) (ws' := WM ad cI cZ zv1 mu mz zv3 mo md mr zv4 rest) C hin_Mo t_Mo t_Mo_ok n_Mo 11 rfl rfl 0 (by decide) mm_0 rfl rfl pd_I rfl rfl (Nat.le_of_ble_eq_true rfl) rfl d_Mo_verdict_16 ?_
  refine r_aload_n (pc := 19) C d_Mo_verdict_19 rfl 0 rfl ?_
  refine r_get (pc := 20) (v := .int zv1) C hin_Mo 11 rfl rfl 0 (by decide) mm_0 rfl rfl d_Mo_verdict_20 ?_
  refine r_if_le (pc := 23) (tgt := 28) C d_Mo_verdict_23 (by decide) (fun c596 => ?_) (fun c596 => ?_)
  · replace h := ip c596 h
    refine r_aload_n (pc := 28) C d_Mo_verdict_28 rfl 0 rfl ?_
    refine r_iload_n (pc := 29) C d_Mo_verdict_29 rfl 1 rfl ?_
    refine r_put (pc := 30) (ty := .int) (ws' := WM ad cI cZ zv1 mu mz zv0 mo md mr zv4 rest) C hin_Mo t_Mo t_Mo_ok n_Mo 11 rfl rfl 3 (by decide) mm_61 rfl rfl pd_I rfl rfl (Nat.le_of_ble_eq_true rfl) rfl d_Mo_verdict_30 ?_
    refine r_aload_n (pc := 33) C d_Mo_verdict_33 rfl 0 rfl ?_
    obtain ⟨q594, hq594, h⟩ := ob h
    refine r_callV (pc := 34) (As := []) (rest := []) (st1 := [.int q594.1]) hE gg_good C hX (c_Mo_isSo_M hE hq594) mm_62 mm_63 mm_64 mm_10 mm_65 hd_Mo_isSo 11 rfl rfl ⟨⟨(Nat.le_of_ble_eq_true rfl), (Nat.le_of_ble_eq_true rfl)⟩, (Nat.le_of_ble_eq_true rfl), (Nat.le_of_ble_eq_true rfl)⟩ (Nat.le_of_ble_eq_true rfl) rfl rfl d_Mo_verdict_34 ?_
    obtain ⟨hb595, h⟩ := ig h
    cases h
    exact r_iret (pc := 37) C hr (nb01 hb595) rfl rfl d_Mo_verdict_37
  · replace h := iN c596 h
    refine r_iconst (pc := 26) (v := 0) C d_Mo_verdict_26 (by decide) ?_
    cases h
    exact r_iret (pc := 27) C hr rfl rfl rfl d_Mo_verdict_27
set_option maxHeartbeats 4000000 in
set_option maxRecDepth 100000 in
theorem c_Mo_verdict_M {l : Launch} {E : State → Heap → Prop} {D : va_G} {A : Nat → Prop} {cI cZ cJ : ClassId} (hE : stb A E) {ad : Nat → Nat} {mk : Int32} {mu : Int64} {mz : Int32} {mw : Int32} {mo : (Nat → Int32)} {md : MD} {mr : MR} {mp : MP} {rest : va_W} {p0 : Int32} {q : Int32 × Int32 × Int32 × MP} (h : f_Mo_verdict mk mw mo md mp p0 = some q) : cm l E D clsA (TY cI cZ cJ) A GG y_Mo_verdict b_Mo_verdict 2 (some .boolean) rm_Mo_verdict [.ref (ad 11), .int p0] (WM ad cI cZ mk mu mz mw mo md mr mp rest) (some (.int q.1)) (WM ad cI cZ q.2.1 mu mz q.2.2.1 mo md mr q.2.2.2 rest) := by
  refine r_met (own := R_Mo) rfl (by decide) (Nat.le_of_ble_eq_true rfl) rfl ?_
  intro p e sg m args below meth c C hr hnm hX
  unfold f_Mo_verdict at h
  refine r_aload_n (pc := 0) C d_Mo_verdict_0 rfl 0 rfl ?_
  refine r_iload_n (pc := 1) C d_Mo_verdict_1 rfl 1 rfl ?_
  refine r_iconst (pc := 2) (v := 0) C d_Mo_verdict_2 (by decide) ?_
  refine r_bipush (pc := 3) (v := 63) C d_Mo_verdict_3 (by decide) ?_
  obtain ⟨q590, hq590, h⟩ := ob h
  refine r_callS (pc := 5) (As := [.int p0, .int (0), .int (63)]) (rest := [.ref (ad 11)]) (st1 := [.int q590, .ref (ad 11)]) hE gg_good C hX (c_Mo_in_S hE hq590) mm_32 mm_33 mm_10 mm_34 hd_Mo_in ⟨⟨(Nat.le_of_ble_eq_true rfl), (Nat.le_of_ble_eq_true rfl)⟩, (Nat.le_of_ble_eq_true rfl), (Nat.le_of_ble_eq_true rfl)⟩ (Nat.le_of_ble_eq_true rfl) rfl rfl d_Mo_verdict_5 ?_
  refine r_if_eq (pc := 8) (tgt := 15) C d_Mo_verdict_8 (by decide) (fun c597 => ?_) (fun c597 => ?_)
  · replace h := ip c597 h
    refine r_iconst (pc := 15) (v := 1) C d_Mo_verdict_15 (by decide) ?_
    refine r_loc (lv' := [(0, .ref (ad 11)), (1, .int p0)]) [0, 1] rfl ?_
    exact vj_Mo_verdict_16_M hE C hr hX (p0, 1, mk, mw, mp) h
  · replace h := iN c597 h
    refine r_iconst (pc := 11) (v := 0) C d_Mo_verdict_11 (by decide) ?_
    refine r_goto (pc := 12) (tgt := 16) C d_Mo_verdict_12 (by decide) ?_
    refine r_loc (lv' := [(0, .ref (ad 11)), (1, .int p0)]) [0, 1] rfl ?_
    exact vj_Mo_verdict_16_M hE C hr hX (p0, 0, mk, mw, mp) h
def f_Mo_holds (mw : Int32) (mo : (Nat → Int32)) (md : MD) (mp : MP) : Option (Int32 × Int32 × MP) :=
  Option.bind (f_Mo_isSo mw mo md mp) (fun q600 => (if q600.1 = 0 ∨ q600.1 = 1 then some (q600.1, 0, q600.2) else none))
abbrev rm_Mo_holds : Room := { frames := 3, cells := 0, slots := 0, locals := 71 }
theorem hd_Mo_holds : y_Mo_holds.cls ≠ "java/lang/invoke/MethodHandle" ∧ y_Mo_holds.cls ≠ "java/lang/invoke/VarHandle" ∧ (parseMethodDescriptor y_Mo_holds.desc).map (fun d => d.parameters.length) = some 0 := by decide +kernel
set_option maxHeartbeats 4000000 in
set_option maxRecDepth 100000 in
theorem c_Mo_holds_M {l : Launch} {E : State → Heap → Prop} {D : va_G} {A : Nat → Prop} {cI cZ cJ : ClassId} (hE : stb A E) {ad : Nat → Nat} {mk : Int32} {mu : Int64} {mz : Int32} {mw : Int32} {mo : (Nat → Int32)} {md : MD} {mr : MR} {mp : MP} {rest : va_W} {q : Int32 × Int32 × MP} (h : f_Mo_holds mw mo md mp = some q) : cm l E D clsA (TY cI cZ cJ) A GG y_Mo_holds b_Mo_holds 1 (some .boolean) rm_Mo_holds [.ref (ad 11)] (WM ad cI cZ mk mu mz mw mo md mr mp rest) (some (.int q.1)) (WM ad cI cZ q.2.1 mu mz mw mo md mr q.2.2 rest) := by
  refine r_met (own := R_Mo) rfl (by decide) (Nat.le_of_ble_eq_true rfl) rfl ?_
  intro p e sg m args below meth c C hr hnm hX
  unfold f_Mo_holds at h
  refine r_aload_n (pc := 0) C d_Mo_holds_0 rfl 0 rfl ?_
  refine r_iconst (pc := 1) (v := 0) C d_Mo_holds_1 (by decide) ?_
  refine r_put (pc := 2) (ty := .int) (ws' := WM ad cI cZ (0) mu mz mw mo md mr mp rest) C hin_Mo t_Mo t_Mo_ok n_Mo 11 rfl rfl 0 (by decide) mm_0 rfl rfl pd_I rfl rfl (Nat.le_of_ble_eq_true rfl) rfl d_Mo_holds_2 ?_
  refine r_aload_n (pc := 5) C d_Mo_holds_5 rfl 0 rfl ?_
  obtain ⟨q600, hq600, h⟩ := ob h
  refine r_callV (pc := 6) (As := []) (rest := []) (st1 := [.int q600.1]) hE gg_good C hX (c_Mo_isSo_M hE hq600) mm_62 mm_63 mm_64 mm_10 mm_65 hd_Mo_isSo 11 rfl rfl ⟨⟨(Nat.le_of_ble_eq_true rfl), (Nat.le_of_ble_eq_true rfl)⟩, (Nat.le_of_ble_eq_true rfl), (Nat.le_of_ble_eq_true rfl)⟩ (Nat.le_of_ble_eq_true rfl) rfl rfl d_Mo_holds_6 ?_
  obtain ⟨hb601, h⟩ := ig h
  cases h
  exact r_iret (pc := 9) C hr (nb01 hb601) rfl rfl d_Mo_holds_9
def jn_Mo_leave_43 (mw : Int32) (md : MD) (z : Int32 × Int32 × Int32 × ((Nat → Int32)) × MP) : Option (Int32 × Int32 × ((Nat → Int32)) × MP) :=
  (if z.2.2.1 ≤ 0 then (if (z.1 < 0 ∨ 40 ≤ z.1.toNatClampNeg) then none else Option.bind (f_Mo_isSo mw (upd z.2.2.2.1 z.1.toNatClampNeg (vp_nar .boolean z.2.1)) md z.2.2.2.2) (fun q619 => (if q619.1 = 0 ∨ q619.1 = 1 then some (q619.1, z.2.2.1, upd z.2.2.2.1 z.1.toNatClampNeg (vp_nar .boolean z.2.1), q619.2) else none))) else some (0, z.2.2.1, z.2.2.2.1, z.2.2.2.2))
def jn_Mo_leave_40 (mw : Int32) (md : MD) (z : Int32 × Int32 × Int32 × Int32 × ((Nat → Int32)) × MP) : Option (Int32 × Int32 × ((Nat → Int32)) × MP) :=
  (jn_Mo_leave_43 mw md (z.1, z.2.1, z.2.2.1, z.2.2.2.2.1, z.2.2.2.2.2))
def jn_Mo_leave_14 (mw : Int32) (md : MD) (z : Int32 × Int32 × Int32 × Int32 × ((Nat → Int32)) × MP) : Option (Int32 × Int32 × ((Nat → Int32)) × MP) :=
  (if z.2.2.1 = 0 then (if (z.1 < 0 ∨ 40 ≤ z.1.toNatClampNeg) then none else (if z.2.2.2.2.1 z.1.toNatClampNeg = z.2.1 then (jn_Mo_leave_40 mw md (z.1, z.2.1, 2, z.2.2.1, z.2.2.2.2.1, z.2.2.2.2.2)) else (jn_Mo_leave_40 mw md (z.1, z.2.1, 0, z.2.2.1, z.2.2.2.2.1, z.2.2.2.2.2)))) else (jn_Mo_leave_43 mw md (z.1, z.2.1, z.2.2.1, z.2.2.2.2.1, z.2.2.2.2.2)))
def f_Mo_leave (mk : Int32) (mw : Int32) (mo : (Nat → Int32)) (md : MD) (mp : MP) (p0 : Int32) (p1 : Int32) : Option (Int32 × Int32 × ((Nat → Int32)) × MP) :=
  Option.bind (f_Mo_isPart md p0) (fun q618 => (if q618 = 0 then (jn_Mo_leave_14 mw md (p0, p1, 1, mk, mo, mp)) else (jn_Mo_leave_14 mw md (p0, p1, 0, mk, mo, mp))))
abbrev rm_Mo_leave : Room := { frames := 3, cells := 0, slots := 0, locals := 71 }
theorem hd_Mo_leave : y_Mo_leave.cls ≠ "java/lang/invoke/MethodHandle" ∧ y_Mo_leave.cls ≠ "java/lang/invoke/VarHandle" ∧ (parseMethodDescriptor y_Mo_leave.desc).map (fun d => d.parameters.length) = some 2 := by decide +kernel
set_option maxHeartbeats 4000000 in
set_option maxRecDepth 100000 in
theorem vj_Mo_leave_43_M {l : Launch} {E : State → Heap → Prop} {D : va_G} {A : Nat → Prop} {cI cZ cJ : ClassId} (hE : stb A E) {ad : Nat → Nat} {mu : Int64} {mz : Int32} {mw : Int32} {md : MD} {mr : MR} {rest : va_W} {p : Program} {e : Env} {sg : State} {m : MethodId} {args : Array Value} {below : List Frame} {meth : Method} {c : Code} (C : cx p sg m args meth c D clsA (TY cI cZ cJ) A GG R_Mo b_Mo_leave 3) (hr : meth.sig.returnType = (some .boolean)) (hX : E sg sg.heap) {q : Int32 × Int32 × ((Nat → Int32)) × MP} :
    ∀ z : Int32 × Int32 × Int32 × ((Nat → Int32)) × MP, jn_Mo_leave_43 mw md z = some q → vv p l e rm_Mo_leave sg m args below meth c D clsA A 3 0 0 (MQ below (qcI D clsA A (some (.int q.1)) (WM ad cI cZ q.2.1 mu mz mw q.2.2.1 md mr q.2.2.2 rest)) args sg rm_Mo_leave.cells rm_Mo_leave.slots A) 43 [(0, .ref (ad 11)), (1, .int z.1), (2, .int z.2.1)] [] (WM ad cI cZ z.2.2.1 mu mz mw z.2.2.2.1 md mr z.2.2.2.2 rest) := by
  have _ := hE
  intro z h
  obtain ⟨zv0, zv1, zv2, zv3, zv4⟩ := z
  unfold jn_Mo_leave_43 at h
  (try dsimp only at h)
  show vv p l e rm_Mo_leave sg m args below meth c D clsA A 3 0 0 (MQ below (qcI D clsA A (some (.int q.1)) (WM ad cI cZ q.2.1 mu mz mw q.2.2.1 md mr q.2.2.2 rest)) args sg rm_Mo_leave.cells rm_Mo_leave.slots A) 43 [(0, .ref (ad 11)), (1, .int zv0), (2, .int zv1)] [] (WM ad cI cZ zv2 mu mz mw zv3 md mr zv4 rest)
  refine r_aload_n (pc := 43) C d_Mo_leave_43 rfl 0 rfl ?_
  refine r_get (pc := 44) (v := .int zv2) C hin_Mo 11 rfl rfl 0 (by decide) mm_0 rfl rfl d_Mo_leave_44 ?_
  refine r_if_le (pc := 47) (tgt := 52) C d_Mo_leave_47 (by decide) (fun c626 => ?_) (fun c626 => ?_)
  · replace h := ip c626 h
    refine r_aload_n (pc := 52) C d_Mo_leave_52 rfl 0 rfl ?_
    refine r_get (pc := 53) (v := .ref (ad 10)) C hin_Mo 11 rfl rfl 5 (by decide) mm_27 rfl rfl d_Mo_leave_53 ?_
    refine r_iload_n (pc := 56) C d_Mo_leave_56 rfl 1 rfl ?_
    refine r_iload_n (pc := 57) C d_Mo_leave_57 rfl 2 rfl ?_
    obtain ⟨hi625, h⟩ := ign h
    refine r_zast (pc := 58) (ws' := WM ad cI cZ zv2 mu mz mw (upd zv3 zv0.toNatClampNeg (vp_nar .boolean zv1)) md mr zv4 rest) C 10 1 rfl rfl hi625 rfl d_Mo_leave_58 ?_
    refine r_aload_n (pc := 59) C d_Mo_leave_59 rfl 0 rfl ?_
    obtain ⟨q623, hq623, h⟩ := ob h
    refine r_callV (pc := 60) (As := []) (rest := []) (st1 := [.int q623.1]) hE gg_good C hX (c_Mo_isSo_M hE hq623) mm_62 mm_63 mm_64 mm_10 mm_65 hd_Mo_isSo 11 rfl rfl ⟨⟨(Nat.le_of_ble_eq_true rfl), (Nat.le_of_ble_eq_true rfl)⟩, (Nat.le_of_ble_eq_true rfl), (Nat.le_of_ble_eq_true rfl)⟩ (Nat.le_of_ble_eq_true rfl) rfl rfl d_Mo_leave_60 ?_
    obtain ⟨hb624, h⟩ := ig h
    cases h
    exact r_iret (pc := 63) C hr (nb01 hb624) rfl rfl d_Mo_leave_63
  · replace h := iN c626 h
    refine r_iconst (pc := 50) (v := 0) C d_Mo_leave_50 (by decide) ?_
    cases h
    exact r_iret (pc := 51) C hr rfl rfl rfl d_Mo_leave_51
set_option maxHeartbeats 4000000 in
set_option maxRecDepth 100000 in
theorem vj_Mo_leave_40_M {l : Launch} {E : State → Heap → Prop} {D : va_G} {A : Nat → Prop} {cI cZ cJ : ClassId} (hE : stb A E) {ad : Nat → Nat} {mu : Int64} {mz : Int32} {mw : Int32} {md : MD} {mr : MR} {rest : va_W} {p : Program} {e : Env} {sg : State} {m : MethodId} {args : Array Value} {below : List Frame} {meth : Method} {c : Code} (C : cx p sg m args meth c D clsA (TY cI cZ cJ) A GG R_Mo b_Mo_leave 3) (hr : meth.sig.returnType = (some .boolean)) (hX : E sg sg.heap) {q : Int32 × Int32 × ((Nat → Int32)) × MP} :
    ∀ z : Int32 × Int32 × Int32 × Int32 × ((Nat → Int32)) × MP, jn_Mo_leave_40 mw md z = some q → vv p l e rm_Mo_leave sg m args below meth c D clsA A 3 0 0 (MQ below (qcI D clsA A (some (.int q.1)) (WM ad cI cZ q.2.1 mu mz mw q.2.2.1 md mr q.2.2.2 rest)) args sg rm_Mo_leave.cells rm_Mo_leave.slots A) 40 [(0, .ref (ad 11)), (1, .int z.1), (2, .int z.2.1)] [.int z.2.2.1, .ref (ad 11)] (WM ad cI cZ z.2.2.2.1 mu mz mw z.2.2.2.2.1 md mr z.2.2.2.2.2 rest) := by
  have _ := hE
  intro z h
  obtain ⟨zv0, zv1, zv2, zv3, zv4, zv5⟩ := z
  unfold jn_Mo_leave_40 at h
  (try dsimp only at h)
  show vv p l e rm_Mo_leave sg m args below meth c D clsA A 3 0 0 (MQ below (qcI D clsA A (some (.int q.1)) (WM ad cI cZ q.2.1 mu mz mw q.2.2.1 md mr q.2.2.2 rest)) args sg rm_Mo_leave.cells rm_Mo_leave.slots A) 40 [(0, .ref (ad 11)), (1, .int zv0), (2, .int zv1)] [.int zv2, .ref (ad 11)] (WM ad cI cZ zv3 mu mz mw zv4 md mr zv5 rest)
  refine r_put (pc := 40) (ty := .int) (ws' := WM ad cI cZ zv2 mu mz mw zv4 md mr zv5 rest) C hin_Mo t_Mo t_Mo_ok n_Mo 11 rfl rfl 0 (by decide) mm_0 rfl rfl pd_I rfl rfl (Nat.le_of_ble_eq_true rfl) rfl d_Mo_leave_40 ?_
  refine r_loc (lv' := [(0, .ref (ad 11)), (1, .int zv0), (2, .int zv1)]) [0, 1, 2] rfl ?_
  exact vj_Mo_leave_43_M hE C hr hX (zv0, zv1, zv2, zv4, zv5) h
set_option maxHeartbeats 4000000 in
set_option maxRecDepth 100000 in
theorem vj_Mo_leave_14_M {l : Launch} {E : State → Heap → Prop} {D : va_G} {A : Nat → Prop} {cI cZ cJ : ClassId} (hE : stb A E) {ad : Nat → Nat} {mu : Int64} {mz : Int32} {mw : Int32} {md : MD} {mr : MR} {rest : va_W} {p : Program} {e : Env} {sg : State} {m : MethodId} {args : Array Value} {below : List Frame} {meth : Method} {c : Code} (C : cx p sg m args meth c D clsA (TY cI cZ cJ) A GG R_Mo b_Mo_leave 3) (hr : meth.sig.returnType = (some .boolean)) (hX : E sg sg.heap) {q : Int32 × Int32 × ((Nat → Int32)) × MP} :
    ∀ z : Int32 × Int32 × Int32 × Int32 × ((Nat → Int32)) × MP, jn_Mo_leave_14 mw md z = some q → vv p l e rm_Mo_leave sg m args below meth c D clsA A 3 0 0 (MQ below (qcI D clsA A (some (.int q.1)) (WM ad cI cZ q.2.1 mu mz mw q.2.2.1 md mr q.2.2.2 rest)) args sg rm_Mo_leave.cells rm_Mo_leave.slots A) 14 [(0, .ref (ad 11)), (1, .int z.1), (2, .int z.2.1)] [.int z.2.2.1, .ref (ad 11)] (WM ad cI cZ z.2.2.2.1 mu mz mw z.2.2.2.2.1 md mr z.2.2.2.2.2 rest) := by
  have _ := hE
  intro z h
  obtain ⟨zv0, zv1, zv2, zv3, zv4, zv5⟩ := z
  unfold jn_Mo_leave_14 at h
  (try dsimp only at h)
  show vv p l e rm_Mo_leave sg m args below meth c D clsA A 3 0 0 (MQ below (qcI D clsA A (some (.int q.1)) (WM ad cI cZ q.2.1 mu mz mw q.2.2.1 md mr q.2.2.2 rest)) args sg rm_Mo_leave.cells rm_Mo_leave.slots A) 14 [(0, .ref (ad 11)), (1, .int zv0), (2, .int zv1)] [.int zv2, .ref (ad 11)] (WM ad cI cZ zv3 mu mz mw zv4 md mr zv5 rest)
  refine r_put (pc := 14) (ty := .int) (ws' := WM ad cI cZ zv2 mu mz mw zv4 md mr zv5 rest) C hin_Mo t_Mo t_Mo_ok n_Mo 11 rfl rfl 0 (by decide) mm_0 rfl rfl pd_I rfl rfl (Nat.le_of_ble_eq_true rfl) rfl d_Mo_leave_14 ?_
  refine r_aload_n (pc := 17) C d_Mo_leave_17 rfl 0 rfl ?_
  refine r_get (pc := 18) (v := .int zv2) C hin_Mo 11 rfl rfl 0 (by decide) mm_0 rfl rfl d_Mo_leave_18 ?_
  refine r_if_ne (pc := 21) (tgt := 43) C d_Mo_leave_21 (by decide) (fun c632 => ?_) (fun c632 => ?_)
  · replace h := iN c632 h
    refine r_loc (lv' := [(0, .ref (ad 11)), (1, .int zv0), (2, .int zv1)]) [0, 1, 2] rfl ?_
    exact vj_Mo_leave_43_M hE C hr hX (zv0, zv1, zv2, zv4, zv5) h
  · replace h := ip c632 h
    refine r_aload_n (pc := 24) C d_Mo_leave_24 rfl 0 rfl ?_
    refine r_aload_n (pc := 25) C d_Mo_leave_25 rfl 0 rfl ?_
    refine r_get (pc := 26) (v := .ref (ad 10)) C hin_Mo 11 rfl rfl 5 (by decide) mm_27 rfl rfl d_Mo_leave_26 ?_
    refine r_iload_n (pc := 29) C d_Mo_leave_29 rfl 1 rfl ?_
    obtain ⟨hi631, h⟩ := ign h
    refine r_zald (pc := 30) C 10 1 rfl rfl hi631 d_Mo_leave_30 ?_
    refine r_iload_n (pc := 31) C d_Mo_leave_31 rfl 2 rfl ?_
    refine r_icmp_ne (pc := 32) (tgt := 39) C d_Mo_leave_32 (by decide) (fun c630 => ?_) (fun c630 => ?_)
    · replace h := iN c630 h
      refine r_iconst (pc := 39) (v := 0) C d_Mo_leave_39 (by decide) ?_
      refine r_loc (lv' := [(0, .ref (ad 11)), (1, .int zv0), (2, .int zv1)]) [0, 1, 2] rfl ?_
      exact vj_Mo_leave_40_M hE C hr hX (zv0, zv1, 0, zv2, zv4, zv5) h
    · replace h := ip c630 h
      refine r_iconst (pc := 35) (v := 2) C d_Mo_leave_35 (by decide) ?_
      refine r_goto (pc := 36) (tgt := 40) C d_Mo_leave_36 (by decide) ?_
      refine r_loc (lv' := [(0, .ref (ad 11)), (1, .int zv0), (2, .int zv1)]) [0, 1, 2] rfl ?_
      exact vj_Mo_leave_40_M hE C hr hX (zv0, zv1, 2, zv2, zv4, zv5) h
set_option maxHeartbeats 4000000 in
set_option maxRecDepth 100000 in
theorem c_Mo_leave_M {l : Launch} {E : State → Heap → Prop} {D : va_G} {A : Nat → Prop} {cI cZ cJ : ClassId} (hE : stb A E) {ad : Nat → Nat} {mk : Int32} {mu : Int64} {mz : Int32} {mw : Int32} {mo : (Nat → Int32)} {md : MD} {mr : MR} {mp : MP} {rest : va_W} {p0 : Int32} {p1 : Int32} {q : Int32 × Int32 × ((Nat → Int32)) × MP} (h : f_Mo_leave mk mw mo md mp p0 p1 = some q) : cm l E D clsA (TY cI cZ cJ) A GG y_Mo_leave b_Mo_leave 3 (some .boolean) rm_Mo_leave [.ref (ad 11), .int p0, .int p1] (WM ad cI cZ mk mu mz mw mo md mr mp rest) (some (.int q.1)) (WM ad cI cZ q.2.1 mu mz mw q.2.2.1 md mr q.2.2.2 rest) := by
  refine r_met (own := R_Mo) rfl (by decide) (Nat.le_of_ble_eq_true rfl) rfl ?_
  intro p e sg m args below meth c C hr hnm hX
  unfold f_Mo_leave at h
  refine r_aload_n (pc := 0) C d_Mo_leave_0 rfl 0 rfl ?_
  refine r_aload_n (pc := 1) C d_Mo_leave_1 rfl 0 rfl ?_
  refine r_iload_n (pc := 2) C d_Mo_leave_2 rfl 1 rfl ?_
  obtain ⟨q618, hq618, h⟩ := ob h
  refine r_callV (pc := 3) (As := [.int p0]) (rest := [.ref (ad 11)]) (st1 := [.int q618, .ref (ad 11)]) hE gg_good C hX (c_Mo_isPart_M hE hq618) mm_43 mm_44 mm_45 mm_10 mm_46 hd_Mo_isPart 11 rfl rfl ⟨⟨(Nat.le_of_ble_eq_true rfl), (Nat.le_of_ble_eq_true rfl)⟩, (Nat.le_of_ble_eq_true rfl), (Nat.le_of_ble_eq_true rfl)⟩ (Nat.le_of_ble_eq_true rfl) rfl rfl d_Mo_leave_3 ?_
  refine r_if_ne (pc := 6) (tgt := 13) C d_Mo_leave_6 (by decide) (fun c633 => ?_) (fun c633 => ?_)
  · replace h := iN c633 h
    refine r_iconst (pc := 13) (v := 0) C d_Mo_leave_13 (by decide) ?_
    refine r_loc (lv' := [(0, .ref (ad 11)), (1, .int p0), (2, .int p1)]) [0, 1, 2] rfl ?_
    exact vj_Mo_leave_14_M hE C hr hX (p0, p1, 0, mk, mo, mp) h
  · replace h := ip c633 h
    refine r_iconst (pc := 9) (v := 1) C d_Mo_leave_9 (by decide) ?_
    refine r_goto (pc := 10) (tgt := 14) C d_Mo_leave_10 (by decide) ?_
    refine r_loc (lv' := [(0, .ref (ad 11)), (1, .int p0), (2, .int p1)]) [0, 1, 2] rfl ?_
    exact vj_Mo_leave_14_M hE C hr hX (p0, p1, 1, mk, mo, mp) h
def bd_Mo_leftOnes_4 (mo : (Nat → Int32)) (md : MD) (kx : Int32 × Int32 → Option (Int32)) (rec : Int32 × Int32 → Option (Int32)) (z : Int32 × Int32) : Option (Int32) :=
  (if md.1 ≤ z.2 then kx (z.1, z.2) else (if (z.2 < 0 ∨ 40 ≤ z.2.toNatClampNeg) then none else (if mo z.2.toNatClampNeg = 0 then rec (z.1 + (1 : Int32), z.2 + 1) else rec (z.1 + (0 : Int32), z.2 + 1))))
def f_Mo_leftOnes (mo : (Nat → Int32)) (md : MD) : Option (Int32) :=
  (itn (bd_Mo_leftOnes_4 mo md (fun z641 => some z641.1)) 70 (0, 0))
abbrev rm_Mo_leftOnes : Room := { frames := 0, cells := 0, slots := 0, locals := 0 }
theorem hd_Mo_leftOnes : y_Mo_leftOnes.cls ≠ "java/lang/invoke/MethodHandle" ∧ y_Mo_leftOnes.cls ≠ "java/lang/invoke/VarHandle" ∧ (parseMethodDescriptor y_Mo_leftOnes.desc).map (fun d => d.parameters.length) = some 0 := by decide +kernel
set_option maxHeartbeats 4000000 in
set_option maxRecDepth 100000 in
theorem vl_Mo_leftOnes_4_M {l : Launch} {E : State → Heap → Prop} {D : va_G} {A : Nat → Prop} {cI cZ cJ : ClassId} (hE : stb A E) {ad : Nat → Nat} {mk : Int32} {mu : Int64} {mz : Int32} {mw : Int32} {mo : (Nat → Int32)} {md : MD} {mr : MR} {mp : MP} {rest : va_W} {p : Program} {e : Env} {sg : State} {m : MethodId} {args : Array Value} {below : List Frame} {meth : Method} {c : Code} (C : cx p sg m args meth c D clsA (TY cI cZ cJ) A GG R_Mo b_Mo_leftOnes 3) (hr : meth.sig.returnType = (some .int)) (hX : E sg sg.heap) {q : Int32} {kx : Int32 × Int32 → Option (Int32)} (K : ∀ z : Int32 × Int32, kx z = some q → vv p l e rm_Mo_leftOnes sg m args below meth c D clsA A 3 0 0 (MQ below (qcI D clsA A (some (.int q)) (WM ad cI cZ mk mu mz mw mo md mr mp rest)) args sg rm_Mo_leftOnes.cells rm_Mo_leftOnes.slots A) 35 [(0, .ref (ad 11)), (1, .int z.1), (2, .int z.2)] [] (WM ad cI cZ mk mu mz mw mo md mr mp rest)) :
    ∀ (n : Nat) (z : Int32 × Int32), itn (bd_Mo_leftOnes_4 mo md kx) n z = some q → vv p l e rm_Mo_leftOnes sg m args below meth c D clsA A 3 0 0 (MQ below (qcI D clsA A (some (.int q)) (WM ad cI cZ mk mu mz mw mo md mr mp rest)) args sg rm_Mo_leftOnes.cells rm_Mo_leftOnes.slots A) 4 [(0, .ref (ad 11)), (1, .int z.1), (2, .int z.2)] [] (WM ad cI cZ mk mu mz mw mo md mr mp rest) := by
  have _ := hE
  intro n
  induction n with
  | zero => intro z h; cases h
  | succ n ih =>
    intro z h
    obtain ⟨zv0, zv1⟩ := z
    replace h : bd_Mo_leftOnes_4 mo md kx (itn (bd_Mo_leftOnes_4 mo md kx) n) (zv0, zv1) = some q := h
    unfold bd_Mo_leftOnes_4 at h
    (try dsimp only at h)
    show vv p l e rm_Mo_leftOnes sg m args below meth c D clsA A 3 0 0 (MQ below (qcI D clsA A (some (.int q)) (WM ad cI cZ mk mu mz mw mo md mr mp rest)) args sg rm_Mo_leftOnes.cells rm_Mo_leftOnes.slots A) 4 [(0, .ref (ad 11)), (1, .int zv0), (2, .int zv1)] [] (WM ad cI cZ mk mu mz mw mo md mr mp rest)
    refine r_iload_n (pc := 4) C d_Mo_leftOnes_4 rfl 2 rfl ?_
    refine r_aload_n (pc := 5) C d_Mo_leftOnes_5 rfl 0 rfl ?_
    refine r_get (pc := 6) (v := .int md.1) C hin_Mo 11 rfl rfl 4 (by decide) mm_26 rfl rfl d_Mo_leftOnes_6 ?_
    refine r_icmp_ge (pc := 9) (tgt := 35) C d_Mo_leftOnes_9 (by decide) (fun c640 => ?_) (fun c640 => ?_)
    · replace h := ip c640 h
      refine r_loc (lv' := [(0, .ref (ad 11)), (1, .int zv0), (2, .int zv1)]) [0, 1, 2] rfl ?_
      exact K (zv0, zv1) h
    · replace h := iN c640 h
      refine r_iload_n (pc := 12) C d_Mo_leftOnes_12 rfl 1 rfl ?_
      refine r_aload_n (pc := 13) C d_Mo_leftOnes_13 rfl 0 rfl ?_
      refine r_get (pc := 14) (v := .ref (ad 10)) C hin_Mo 11 rfl rfl 5 (by decide) mm_27 rfl rfl d_Mo_leftOnes_14 ?_
      refine r_iload_n (pc := 17) C d_Mo_leftOnes_17 rfl 2 rfl ?_
      obtain ⟨hi639, h⟩ := ign h
      refine r_zald (pc := 18) C 10 1 rfl rfl hi639 d_Mo_leftOnes_18 ?_
      refine r_if_eq (pc := 19) (tgt := 26) C d_Mo_leftOnes_19 (by decide) (fun c638 => ?_) (fun c638 => ?_)
      · replace h := ip c638 h
        refine r_iconst (pc := 26) (v := 1) C d_Mo_leftOnes_26 (by decide) ?_
        refine r_iadd (pc := 27) C d_Mo_leftOnes_27 ?_
        refine r_istore_n (pc := 28) (lv' := [(1, .int (zv0 + (1 : Int32))), (0, .ref (ad 11)), (2, .int zv1)]) C d_Mo_leftOnes_28 rfl (by decide) rfl ?_
        refine r_iincK (pc := 29) (w0 := 1) (lv' := [(2, .int (zv1 + 1)), (1, .int (zv0 + (1 : Int32))), (0, .ref (ad 11))]) C d_Mo_leftOnes_29 (by decide) 2 rfl (by decide) rfl ?_
        refine r_goto (pc := 32) (tgt := 4) C d_Mo_leftOnes_32 (by decide) ?_
        refine r_loc (lv' := [(0, .ref (ad 11)), (1, .int (zv0 + (1 : Int32))), (2, .int (zv1 + 1))]) [2, 1, 0] rfl ?_
        exact ih (zv0 + (1 : Int32), zv1 + 1) h
      · replace h := iN c638 h
        refine r_iconst (pc := 22) (v := 0) C d_Mo_leftOnes_22 (by decide) ?_
        refine r_goto (pc := 23) (tgt := 27) C d_Mo_leftOnes_23 (by decide) ?_
        refine r_iadd (pc := 27) C d_Mo_leftOnes_27 ?_
        refine r_istore_n (pc := 28) (lv' := [(1, .int (zv0 + (0 : Int32))), (0, .ref (ad 11)), (2, .int zv1)]) C d_Mo_leftOnes_28 rfl (by decide) rfl ?_
        refine r_iincK (pc := 29) (w0 := 1) (lv' := [(2, .int (zv1 + 1)), (1, .int (zv0 + (0 : Int32))), (0, .ref (ad 11))]) C d_Mo_leftOnes_29 (by decide) 2 rfl (by decide) rfl ?_
        refine r_goto (pc := 32) (tgt := 4) C d_Mo_leftOnes_32 (by decide) ?_
        refine r_loc (lv' := [(0, .ref (ad 11)), (1, .int (zv0 + (0 : Int32))), (2, .int (zv1 + 1))]) [2, 1, 0] rfl ?_
        exact ih (zv0 + (0 : Int32), zv1 + 1) h
set_option maxHeartbeats 4000000 in
set_option maxRecDepth 100000 in
theorem c_Mo_leftOnes_M {l : Launch} {E : State → Heap → Prop} {D : va_G} {A : Nat → Prop} {cI cZ cJ : ClassId} (hE : stb A E) {ad : Nat → Nat} {mk : Int32} {mu : Int64} {mz : Int32} {mw : Int32} {mo : (Nat → Int32)} {md : MD} {mr : MR} {mp : MP} {rest : va_W} {q : Int32} (h : f_Mo_leftOnes mo md = some q) : cm l E D clsA (TY cI cZ cJ) A GG y_Mo_leftOnes b_Mo_leftOnes 3 (some .int) rm_Mo_leftOnes [.ref (ad 11)] (WM ad cI cZ mk mu mz mw mo md mr mp rest) (some (.int q)) (WM ad cI cZ mk mu mz mw mo md mr mp rest) := by
  refine r_met (own := R_Mo) rfl (by decide) (Nat.le_of_ble_eq_true rfl) rfl ?_
  intro p e sg m args below meth c C hr hnm hX
  unfold f_Mo_leftOnes at h
  refine r_iconst (pc := 0) (v := 0) C d_Mo_leftOnes_0 (by decide) ?_
  refine r_istore_n (pc := 1) (lv' := [(1, .int (0)), (0, .ref (ad 11))]) C d_Mo_leftOnes_1 rfl (by decide) rfl ?_
  refine r_iconst (pc := 2) (v := 0) C d_Mo_leftOnes_2 (by decide) ?_
  refine r_istore_n (pc := 3) (lv' := [(2, .int (0)), (1, .int (0)), (0, .ref (ad 11))]) C d_Mo_leftOnes_3 rfl (by decide) rfl ?_
  refine r_loc (lv' := [(0, .ref (ad 11)), (1, .int (0)), (2, .int (0))]) [2, 1, 0] rfl ?_
  refine vl_Mo_leftOnes_4_M hE C hr hX (fun z641 h => ?_) 70 (0, 0) h
  refine r_iload_n (pc := 35) C d_Mo_leftOnes_35 rfl 1 rfl ?_
  cases h
  exact r_iret (pc := 36) C hr rfl rfl rfl d_Mo_leftOnes_36
def bd_Mo_shorter_47 (mw : Int32) (md : MD) (kx : Int32 × Int32 × Int32 × ((Nat → Int32)) × MP → Option (Int32 × Int32 × ((Nat → Int32)) × MP)) (rec : Int32 × Int32 × Int32 × ((Nat → Int32)) × MP → Option (Int32 × Int32 × ((Nat → Int32)) × MP)) (z : Int32 × Int32 × Int32 × ((Nat → Int32)) × MP) : Option (Int32 × Int32 × ((Nat → Int32)) × MP) :=
  (if z.2.1 < 0 then kx (z.1, z.2.1, z.2.2.1, z.2.2.2.1, z.2.2.2.2) else (if (z.2.1 < 0 ∨ 40 ≤ z.2.1.toNatClampNeg) then none else (if z.2.2.2.1 z.2.1.toNatClampNeg = 0 then (if (z.2.1 < 0 ∨ 40 ≤ z.2.1.toNatClampNeg) then none else Option.bind (f_Mo_isSo mw (upd z.2.2.2.1 z.2.1.toNatClampNeg (vp_nar .boolean (1))) md z.2.2.2.2) (fun q672 => (if q672.1 = 0 then (if (z.2.1 < 0 ∨ 40 ≤ z.2.1.toNatClampNeg) then none else rec (z.1, z.2.1 + (-1), z.2.2.1, upd (upd z.2.2.2.1 z.2.1.toNatClampNeg (vp_nar .boolean (1))) z.2.1.toNatClampNeg (vp_nar .boolean (0)), q672.2)) else rec (z.1, z.2.1 + (-1), z.2.2.1, upd z.2.2.2.1 z.2.1.toNatClampNeg (vp_nar .boolean (1)), q672.2)))) else rec (z.1, z.2.1 + (-1), z.2.2.1, z.2.2.2.1, z.2.2.2.2))))
def bd_Mo_shorter_27 (mw : Int32) (md : MD) (kx : Int32 × Int32 × ((Nat → Int32)) × MP → Option (Int32 × Int32 × ((Nat → Int32)) × MP)) (rec : Int32 × Int32 × ((Nat → Int32)) × MP → Option (Int32 × Int32 × ((Nat → Int32)) × MP)) (z : Int32 × Int32 × ((Nat → Int32)) × MP) : Option (Int32 × Int32 × ((Nat → Int32)) × MP) :=
  Option.bind (f_Mo_leftOnes z.2.2.1 md) (fun q670 => (if z.1 = q670 then kx (z.1, z.2.1, z.2.2.1, z.2.2.2) else Option.bind (f_Mo_leftOnes z.2.2.1 md) (fun q671 => (itn (bd_Mo_shorter_47 mw md (fun z686 => rec (z686.1, z686.2.2.1, z686.2.2.2.1, z686.2.2.2.2))) 70 (q671, md.1 - (1 : Int32), z.2.1, z.2.2.1, z.2.2.2)))))
def jn_Mo_shorter_13 (mw : Int32) (md : MD) (z : Int32 × Int32 × ((Nat → Int32)) × MP) : Option (Int32 × Int32 × ((Nat → Int32)) × MP) :=
  (if z.1 ≤ 0 then (itn (bd_Mo_shorter_27 mw md (fun z692 => some (z692.1, z692.2.1, z692.2.2.1, z692.2.2.2))) 70 ((-1), z.1, z.2.2.1, z.2.2.2)) else some (0, z.1, z.2.2.1, z.2.2.2))
def f_Mo_shorter (mk : Int32) (mw : Int32) (mo : (Nat → Int32)) (md : MD) (mp : MP) : Option (Int32 × Int32 × ((Nat → Int32)) × MP) :=
  Option.bind (f_Mo_isSo mw mo md mp) (fun q669 => (if q669.1 = 0 then (jn_Mo_shorter_13 mw md (1, mk, mo, q669.2)) else (jn_Mo_shorter_13 mw md (0, mk, mo, q669.2))))
abbrev rm_Mo_shorter : Room := { frames := 3, cells := 0, slots := 0, locals := 71 }
theorem hd_Mo_shorter : y_Mo_shorter.cls ≠ "java/lang/invoke/MethodHandle" ∧ y_Mo_shorter.cls ≠ "java/lang/invoke/VarHandle" ∧ (parseMethodDescriptor y_Mo_shorter.desc).map (fun d => d.parameters.length) = some 0 := by decide +kernel
set_option maxHeartbeats 4000000 in
set_option maxRecDepth 100000 in
theorem vl_Mo_shorter_47_M {l : Launch} {E : State → Heap → Prop} {D : va_G} {A : Nat → Prop} {cI cZ cJ : ClassId} (hE : stb A E) {ad : Nat → Nat} {mu : Int64} {mz : Int32} {mw : Int32} {md : MD} {mr : MR} {rest : va_W} {p : Program} {e : Env} {sg : State} {m : MethodId} {args : Array Value} {below : List Frame} {meth : Method} {c : Code} (C : cx p sg m args meth c D clsA (TY cI cZ cJ) A GG R_Mo b_Mo_shorter 3) (hr : meth.sig.returnType = (some .int)) (hX : E sg sg.heap) {q : Int32 × Int32 × ((Nat → Int32)) × MP} {kx : Int32 × Int32 × Int32 × ((Nat → Int32)) × MP → Option (Int32 × Int32 × ((Nat → Int32)) × MP)} (K : ∀ z : Int32 × Int32 × Int32 × ((Nat → Int32)) × MP, kx z = some q → vv p l e rm_Mo_shorter sg m args below meth c D clsA A 3 0 0 (MQ below (qcI D clsA A (some (.int q.1)) (WM ad cI cZ q.2.1 mu mz mw q.2.2.1 md mr q.2.2.2 rest)) args sg rm_Mo_shorter.cells rm_Mo_shorter.slots A) 90 [(0, .ref (ad 11)), (1, .int z.1), (2, .int z.2.1)] [] (WM ad cI cZ z.2.2.1 mu mz mw z.2.2.2.1 md mr z.2.2.2.2 rest)) :
    ∀ (n : Nat) (z : Int32 × Int32 × Int32 × ((Nat → Int32)) × MP), itn (bd_Mo_shorter_47 mw md kx) n z = some q → vv p l e rm_Mo_shorter sg m args below meth c D clsA A 3 0 0 (MQ below (qcI D clsA A (some (.int q.1)) (WM ad cI cZ q.2.1 mu mz mw q.2.2.1 md mr q.2.2.2 rest)) args sg rm_Mo_shorter.cells rm_Mo_shorter.slots A) 47 [(0, .ref (ad 11)), (1, .int z.1), (2, .int z.2.1)] [] (WM ad cI cZ z.2.2.1 mu mz mw z.2.2.2.1 md mr z.2.2.2.2 rest) := by
  have _ := hE
  intro n
  induction n with
  | zero => intro z h; cases h
  | succ n ih =>
    intro z h
    obtain ⟨zv0, zv1, zv2, zv3, zv4⟩ := z
    replace h : bd_Mo_shorter_47 mw md kx (itn (bd_Mo_shorter_47 mw md kx) n) (zv0, zv1, zv2, zv3, zv4) = some q := h
    unfold bd_Mo_shorter_47 at h
    (try dsimp only at h)
    show vv p l e rm_Mo_shorter sg m args below meth c D clsA A 3 0 0 (MQ below (qcI D clsA A (some (.int q.1)) (WM ad cI cZ q.2.1 mu mz mw q.2.2.1 md mr q.2.2.2 rest)) args sg rm_Mo_shorter.cells rm_Mo_shorter.slots A) 47 [(0, .ref (ad 11)), (1, .int zv0), (2, .int zv1)] [] (WM ad cI cZ zv2 mu mz mw zv3 md mr zv4 rest)
    refine r_iload_n (pc := 47) C d_Mo_shorter_47 rfl 2 rfl ?_
    refine r_if_lt (pc := 48) (tgt := 90) C d_Mo_shorter_48 (by decide) (fun c685 => ?_) (fun c685 => ?_)
    · replace h := ip c685 h
      refine r_loc (lv' := [(0, .ref (ad 11)), (1, .int zv0), (2, .int zv1)]) [0, 1, 2] rfl ?_
      exact K (zv0, zv1, zv2, zv3, zv4) h
    · replace h := iN c685 h
      refine r_aload_n (pc := 51) C d_Mo_shorter_51 rfl 0 rfl ?_
      refine r_get (pc := 52) (v := .ref (ad 10)) C hin_Mo 11 rfl rfl 5 (by decide) mm_27 rfl rfl d_Mo_shorter_52 ?_
      refine r_iload_n (pc := 55) C d_Mo_shorter_55 rfl 2 rfl ?_
      obtain ⟨hi684, h⟩ := ign h
      refine r_zald (pc := 56) C 10 1 rfl rfl hi684 d_Mo_shorter_56 ?_
      refine r_if_eq (pc := 57) (tgt := 63) C d_Mo_shorter_57 (by decide) (fun c683 => ?_) (fun c683 => ?_)
      · replace h := ip c683 h
        refine r_aload_n (pc := 63) C d_Mo_shorter_63 rfl 0 rfl ?_
        refine r_get (pc := 64) (v := .ref (ad 10)) C hin_Mo 11 rfl rfl 5 (by decide) mm_27 rfl rfl d_Mo_shorter_64 ?_
        refine r_iload_n (pc := 67) C d_Mo_shorter_67 rfl 2 rfl ?_
        refine r_iconst (pc := 68) (v := 1) C d_Mo_shorter_68 (by decide) ?_
        obtain ⟨hi682, h⟩ := ign h
        refine r_zast (pc := 69) (ws' := WM ad cI cZ zv2 mu mz mw (upd zv3 zv1.toNatClampNeg (vp_nar .boolean (1))) md mr zv4 rest) C 10 1 rfl rfl hi682 rfl d_Mo_shorter_69 ?_
        refine r_aload_n (pc := 70) C d_Mo_shorter_70 rfl 0 rfl ?_
        obtain ⟨q679, hq679, h⟩ := ob h
        refine r_callV (pc := 71) (As := []) (rest := []) (st1 := [.int q679.1]) hE gg_good C hX (c_Mo_isSo_M hE hq679) mm_62 mm_63 mm_64 mm_10 mm_65 hd_Mo_isSo 11 rfl rfl ⟨⟨(Nat.le_of_ble_eq_true rfl), (Nat.le_of_ble_eq_true rfl)⟩, (Nat.le_of_ble_eq_true rfl), (Nat.le_of_ble_eq_true rfl)⟩ (Nat.le_of_ble_eq_true rfl) rfl rfl d_Mo_shorter_71 ?_
        refine r_if_ne (pc := 74) (tgt := 84) C d_Mo_shorter_74 (by decide) (fun c681 => ?_) (fun c681 => ?_)
        · replace h := iN c681 h
          refine r_iincK (pc := 84) (w0 := (-1)) (lv' := [(2, .int (zv1 + (-1))), (0, .ref (ad 11)), (1, .int zv0)]) C d_Mo_shorter_84 (by decide) 2 rfl (by decide) rfl ?_
          refine r_goto (pc := 87) (tgt := 47) C d_Mo_shorter_87 (by decide) ?_
          refine r_loc (lv' := [(0, .ref (ad 11)), (1, .int zv0), (2, .int (zv1 + (-1)))]) [1, 2, 0] rfl ?_
          exact ih (zv0, zv1 + (-1), zv2, upd zv3 zv1.toNatClampNeg (vp_nar .boolean (1)), q679.2) h
        · replace h := ip c681 h
          refine r_aload_n (pc := 77) C d_Mo_shorter_77 rfl 0 rfl ?_
          refine r_get (pc := 78) (v := .ref (ad 10)) C hin_Mo 11 rfl rfl 5 (by decide) mm_27 rfl rfl d_Mo_shorter_78 ?_
          refine r_iload_n (pc := 81) C d_Mo_shorter_81 rfl 2 rfl ?_
          refine r_iconst (pc := 82) (v := 0) C d_Mo_shorter_82 (by decide) ?_
          obtain ⟨hi680, h⟩ := ign h
          refine r_zast (pc := 83) (ws' := WM ad cI cZ zv2 mu mz mw (upd (upd zv3 zv1.toNatClampNeg (vp_nar .boolean (1))) zv1.toNatClampNeg (vp_nar .boolean (0))) md mr q679.2 rest) C 10 1 rfl rfl hi680 rfl d_Mo_shorter_83 ?_
          refine r_iincK (pc := 84) (w0 := (-1)) (lv' := [(2, .int (zv1 + (-1))), (0, .ref (ad 11)), (1, .int zv0)]) C d_Mo_shorter_84 (by decide) 2 rfl (by decide) rfl ?_
          refine r_goto (pc := 87) (tgt := 47) C d_Mo_shorter_87 (by decide) ?_
          refine r_loc (lv' := [(0, .ref (ad 11)), (1, .int zv0), (2, .int (zv1 + (-1)))]) [1, 2, 0] rfl ?_
          exact ih (zv0, zv1 + (-1), zv2, upd (upd zv3 zv1.toNatClampNeg (vp_nar .boolean (1))) zv1.toNatClampNeg (vp_nar .boolean (0)), q679.2) h
      · replace h := iN c683 h
        refine r_goto (pc := 60) (tgt := 84) C d_Mo_shorter_60 (by decide) ?_
        refine r_iincK (pc := 84) (w0 := (-1)) (lv' := [(2, .int (zv1 + (-1))), (0, .ref (ad 11)), (1, .int zv0)]) C d_Mo_shorter_84 (by decide) 2 rfl (by decide) rfl ?_
        refine r_goto (pc := 87) (tgt := 47) C d_Mo_shorter_87 (by decide) ?_
        refine r_loc (lv' := [(0, .ref (ad 11)), (1, .int zv0), (2, .int (zv1 + (-1)))]) [1, 2, 0] rfl ?_
        exact ih (zv0, zv1 + (-1), zv2, zv3, zv4) h
set_option maxHeartbeats 4000000 in
set_option maxRecDepth 100000 in
theorem vl_Mo_shorter_27_M {l : Launch} {E : State → Heap → Prop} {D : va_G} {A : Nat → Prop} {cI cZ cJ : ClassId} (hE : stb A E) {ad : Nat → Nat} {mu : Int64} {mz : Int32} {mw : Int32} {md : MD} {mr : MR} {rest : va_W} {p : Program} {e : Env} {sg : State} {m : MethodId} {args : Array Value} {below : List Frame} {meth : Method} {c : Code} (C : cx p sg m args meth c D clsA (TY cI cZ cJ) A GG R_Mo b_Mo_shorter 3) (hr : meth.sig.returnType = (some .int)) (hX : E sg sg.heap) {q : Int32 × Int32 × ((Nat → Int32)) × MP} {kx : Int32 × Int32 × ((Nat → Int32)) × MP → Option (Int32 × Int32 × ((Nat → Int32)) × MP)} (K : ∀ z : Int32 × Int32 × ((Nat → Int32)) × MP, kx z = some q → vv p l e rm_Mo_shorter sg m args below meth c D clsA A 3 0 0 (MQ below (qcI D clsA A (some (.int q.1)) (WM ad cI cZ q.2.1 mu mz mw q.2.2.1 md mr q.2.2.2 rest)) args sg rm_Mo_shorter.cells rm_Mo_shorter.slots A) 93 [(0, .ref (ad 11)), (1, .int z.1)] [] (WM ad cI cZ z.2.1 mu mz mw z.2.2.1 md mr z.2.2.2 rest)) :
    ∀ (n : Nat) (z : Int32 × Int32 × ((Nat → Int32)) × MP), itn (bd_Mo_shorter_27 mw md kx) n z = some q → vv p l e rm_Mo_shorter sg m args below meth c D clsA A 3 0 0 (MQ below (qcI D clsA A (some (.int q.1)) (WM ad cI cZ q.2.1 mu mz mw q.2.2.1 md mr q.2.2.2 rest)) args sg rm_Mo_shorter.cells rm_Mo_shorter.slots A) 27 [(0, .ref (ad 11)), (1, .int z.1)] [] (WM ad cI cZ z.2.1 mu mz mw z.2.2.1 md mr z.2.2.2 rest) := by
  have _ := hE
  intro n
  induction n with
  | zero => intro z h; cases h
  | succ n ih =>
    intro z h
    obtain ⟨zv0, zv1, zv2, zv3⟩ := z
    replace h : bd_Mo_shorter_27 mw md kx (itn (bd_Mo_shorter_27 mw md kx) n) (zv0, zv1, zv2, zv3) = some q := h
    unfold bd_Mo_shorter_27 at h
    (try dsimp only at h)
    show vv p l e rm_Mo_shorter sg m args below meth c D clsA A 3 0 0 (MQ below (qcI D clsA A (some (.int q.1)) (WM ad cI cZ q.2.1 mu mz mw q.2.2.1 md mr q.2.2.2 rest)) args sg rm_Mo_shorter.cells rm_Mo_shorter.slots A) 27 [(0, .ref (ad 11)), (1, .int zv0)] [] (WM ad cI cZ zv1 mu mz mw zv2 md mr zv3 rest)
    refine r_iload_n (pc := 27) C d_Mo_shorter_27 rfl 1 rfl ?_
    refine r_aload_n (pc := 28) C d_Mo_shorter_28 rfl 0 rfl ?_
    obtain ⟨q688, hq688, h⟩ := ob h
    refine r_callV (pc := 29) (As := []) (rest := [.int zv0]) (st1 := [.int q688, .int zv0]) hE gg_good C hX (c_Mo_leftOnes_M hE hq688) mm_66 mm_67 mm_68 mm_10 mm_69 hd_Mo_leftOnes 11 rfl rfl ⟨⟨(Nat.le_of_ble_eq_true rfl), (Nat.le_of_ble_eq_true rfl)⟩, (Nat.le_of_ble_eq_true rfl), (Nat.le_of_ble_eq_true rfl)⟩ (Nat.le_of_ble_eq_true rfl) rfl rfl d_Mo_shorter_29 ?_
    refine r_icmp_eq (pc := 32) (tgt := 93) C d_Mo_shorter_32 (by decide) (fun c691 => ?_) (fun c691 => ?_)
    · replace h := ip c691 h
      refine r_loc (lv' := [(0, .ref (ad 11)), (1, .int zv0)]) [0, 1] rfl ?_
      exact K (zv0, zv1, zv2, zv3) h
    · replace h := iN c691 h
      refine r_aload_n (pc := 35) C d_Mo_shorter_35 rfl 0 rfl ?_
      obtain ⟨q689, hq689, h⟩ := ob h
      refine r_callV (pc := 36) (As := []) (rest := []) (st1 := [.int q689]) hE gg_good C hX (c_Mo_leftOnes_M hE hq689) mm_66 mm_67 mm_68 mm_10 mm_69 hd_Mo_leftOnes 11 rfl rfl ⟨⟨(Nat.le_of_ble_eq_true rfl), (Nat.le_of_ble_eq_true rfl)⟩, (Nat.le_of_ble_eq_true rfl), (Nat.le_of_ble_eq_true rfl)⟩ (Nat.le_of_ble_eq_true rfl) rfl rfl d_Mo_shorter_36 ?_
      refine r_istore_n (pc := 39) (lv' := [(1, .int q689), (0, .ref (ad 11))]) C d_Mo_shorter_39 rfl (by decide) rfl ?_
      refine r_aload_n (pc := 40) C d_Mo_shorter_40 rfl 1 rfl ?_
      refine r_get (pc := 41) (v := .int md.1) C hin_Mo 11 rfl rfl 4 (by decide) mm_26 rfl rfl d_Mo_shorter_41 ?_
      refine r_iconst (pc := 44) (v := 1) C d_Mo_shorter_44 (by decide) ?_
      refine r_isub (pc := 45) C d_Mo_shorter_45 ?_
      refine r_istore_n (pc := 46) (lv' := [(2, .int (md.1 - (1 : Int32))), (1, .int q689), (0, .ref (ad 11))]) C d_Mo_shorter_46 rfl (by decide) rfl ?_
      refine r_loc (lv' := [(0, .ref (ad 11)), (1, .int q689), (2, .int (md.1 - (1 : Int32)))]) [2, 1, 0] rfl ?_
      refine vl_Mo_shorter_47_M hE C hr hX (fun z690 h => ?_) 70 (q689, md.1 - (1 : Int32), zv1, zv2, zv3) h
      refine r_goto (pc := 90) (tgt := 27) C d_Mo_shorter_90 (by decide) ?_
      refine r_loc (lv' := [(0, .ref (ad 11)), (1, .int z690.1)]) [0, 1] rfl ?_
      exact ih (z690.1, z690.2.2.1, z690.2.2.2.1, z690.2.2.2.2) h
set_option maxHeartbeats 4000000 in
set_option maxRecDepth 100000 in
theorem vj_Mo_shorter_13_M {l : Launch} {E : State → Heap → Prop} {D : va_G} {A : Nat → Prop} {cI cZ cJ : ClassId} (hE : stb A E) {ad : Nat → Nat} {mu : Int64} {mz : Int32} {mw : Int32} {md : MD} {mr : MR} {rest : va_W} {p : Program} {e : Env} {sg : State} {m : MethodId} {args : Array Value} {below : List Frame} {meth : Method} {c : Code} (C : cx p sg m args meth c D clsA (TY cI cZ cJ) A GG R_Mo b_Mo_shorter 3) (hr : meth.sig.returnType = (some .int)) (hX : E sg sg.heap) {q : Int32 × Int32 × ((Nat → Int32)) × MP} :
    ∀ z : Int32 × Int32 × ((Nat → Int32)) × MP, jn_Mo_shorter_13 mw md z = some q → vv p l e rm_Mo_shorter sg m args below meth c D clsA A 3 0 0 (MQ below (qcI D clsA A (some (.int q.1)) (WM ad cI cZ q.2.1 mu mz mw q.2.2.1 md mr q.2.2.2 rest)) args sg rm_Mo_shorter.cells rm_Mo_shorter.slots A) 13 [(0, .ref (ad 11))] [.int z.1, .ref (ad 11)] (WM ad cI cZ z.2.1 mu mz mw z.2.2.1 md mr z.2.2.2 rest) := by
  have _ := hE
  intro z h
  obtain ⟨zv0, zv1, zv2, zv3⟩ := z
  unfold jn_Mo_shorter_13 at h
  (try dsimp only at h)
  show vv p l e rm_Mo_shorter sg m args below meth c D clsA A 3 0 0 (MQ below (qcI D clsA A (some (.int q.1)) (WM ad cI cZ q.2.1 mu mz mw q.2.2.1 md mr q.2.2.2 rest)) args sg rm_Mo_shorter.cells rm_Mo_shorter.slots A) 13 [(0, .ref (ad 11))] [.int zv0, .ref (ad 11)] (WM ad cI cZ zv1 mu mz mw zv2 md mr zv3 rest)
  refine r_put (pc := 13) (ty := .int) (ws' := WM ad cI cZ zv0 mu mz mw zv2 md mr zv3 rest) C hin_Mo t_Mo t_Mo_ok n_Mo 11 rfl rfl 0 (by decide) mm_0 rfl rfl pd_I rfl rfl (Nat.le_of_ble_eq_true rfl) rfl d_Mo_shorter_13 ?_
  refine r_aload_n (pc := 16) C d_Mo_shorter_16 rfl 0 rfl ?_
  refine r_get (pc := 17) (v := .int zv0) C hin_Mo 11 rfl rfl 0 (by decide) mm_0 rfl rfl d_Mo_shorter_17 ?_
  refine r_if_le (pc := 20) (tgt := 25) C d_Mo_shorter_20 (by decide) (fun c695 => ?_) (fun c695 => ?_)
  · replace h := ip c695 h
    refine r_iconst (pc := 25) (v := (-1)) C d_Mo_shorter_25 (by decide) ?_
    refine r_istore_n (pc := 26) (lv' := [(1, .int (-1)), (0, .ref (ad 11))]) C d_Mo_shorter_26 rfl (by decide) rfl ?_
    refine r_loc (lv' := [(0, .ref (ad 11)), (1, .int (-1))]) [1, 0] rfl ?_
    refine vl_Mo_shorter_27_M hE C hr hX (fun z694 h => ?_) 70 ((-1), zv0, zv2, zv3) h
    refine r_iload_n (pc := 93) C d_Mo_shorter_93 rfl 1 rfl ?_
    cases h
    exact r_iret (pc := 94) C hr rfl rfl rfl d_Mo_shorter_94
  · replace h := iN c695 h
    refine r_iconst (pc := 23) (v := 0) C d_Mo_shorter_23 (by decide) ?_
    cases h
    exact r_iret (pc := 24) C hr rfl rfl rfl d_Mo_shorter_24
set_option maxHeartbeats 4000000 in
set_option maxRecDepth 100000 in
theorem c_Mo_shorter_M {l : Launch} {E : State → Heap → Prop} {D : va_G} {A : Nat → Prop} {cI cZ cJ : ClassId} (hE : stb A E) {ad : Nat → Nat} {mk : Int32} {mu : Int64} {mz : Int32} {mw : Int32} {mo : (Nat → Int32)} {md : MD} {mr : MR} {mp : MP} {rest : va_W} {q : Int32 × Int32 × ((Nat → Int32)) × MP} (h : f_Mo_shorter mk mw mo md mp = some q) : cm l E D clsA (TY cI cZ cJ) A GG y_Mo_shorter b_Mo_shorter 3 (some .int) rm_Mo_shorter [.ref (ad 11)] (WM ad cI cZ mk mu mz mw mo md mr mp rest) (some (.int q.1)) (WM ad cI cZ q.2.1 mu mz mw q.2.2.1 md mr q.2.2.2 rest) := by
  refine r_met (own := R_Mo) rfl (by decide) (Nat.le_of_ble_eq_true rfl) rfl ?_
  intro p e sg m args below meth c C hr hnm hX
  unfold f_Mo_shorter at h
  refine r_aload_n (pc := 0) C d_Mo_shorter_0 rfl 0 rfl ?_
  refine r_aload_n (pc := 1) C d_Mo_shorter_1 rfl 0 rfl ?_
  obtain ⟨q669, hq669, h⟩ := ob h
  refine r_callV (pc := 2) (As := []) (rest := [.ref (ad 11)]) (st1 := [.int q669.1, .ref (ad 11)]) hE gg_good C hX (c_Mo_isSo_M hE hq669) mm_62 mm_63 mm_64 mm_10 mm_65 hd_Mo_isSo 11 rfl rfl ⟨⟨(Nat.le_of_ble_eq_true rfl), (Nat.le_of_ble_eq_true rfl)⟩, (Nat.le_of_ble_eq_true rfl), (Nat.le_of_ble_eq_true rfl)⟩ (Nat.le_of_ble_eq_true rfl) rfl rfl d_Mo_shorter_2 ?_
  refine r_if_eq (pc := 5) (tgt := 12) C d_Mo_shorter_5 (by decide) (fun c696 => ?_) (fun c696 => ?_)
  · replace h := ip c696 h
    refine r_iconst (pc := 12) (v := 1) C d_Mo_shorter_12 (by decide) ?_
    refine r_loc (lv' := [(0, .ref (ad 11))]) [0] rfl ?_
    exact vj_Mo_shorter_13_M hE C hr hX (1, mk, mo, q669.2) h
  · replace h := iN c696 h
    refine r_iconst (pc := 8) (v := 0) C d_Mo_shorter_8 (by decide) ?_
    refine r_goto (pc := 9) (tgt := 13) C d_Mo_shorter_9 (by decide) ?_
    refine r_loc (lv' := [(0, .ref (ad 11))]) [0] rfl ?_
    exact vj_Mo_shorter_13_M hE C hr hX (0, mk, mo, q669.2) h
