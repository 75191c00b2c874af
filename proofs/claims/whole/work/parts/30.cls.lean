def bd_St_forget_7 (kx : Int32 × TT → Option (TT)) (rec : Int32 × TT → Option (TT)) (z : Int32 × TT) : Option (TT) :=
  (if (36 : Int32) ≤ z.1 then kx (z.1, z.2) else (if (z.1 < 0 ∨ 36 ≤ z.1.toNatClampNeg) then none else rec (z.1 + 1, (upd z.2.1 z.1.toNatClampNeg (0), z.2.2.1, z.2.2.2.1, z.2.2.2.2))))
def bd_St_forget_28 (kx : Int32 × TT → Option (TT)) (rec : Int32 × TT → Option (TT)) (z : Int32 × TT) : Option (TT) :=
  (if (6 : Int32) ≤ z.1 then kx (z.1, z.2) else (if (z.1 < 0 ∨ 6 ≤ z.1.toNatClampNeg) then none else (if (z.1 < 0 ∨ 6 ≤ z.1.toNatClampNeg) then none else rec (z.1 + 1, (z.2.1, upd z.2.2.1 z.1.toNatClampNeg (0), upd z.2.2.2.1 z.1.toNatClampNeg (vp_nar .boolean (0)), z.2.2.2.2)))))
def f_St_forget (t : TT) : Option (TT) :=
  (itn (bd_St_forget_7 (fun z17 => (itn (bd_St_forget_28 (fun z24 => some z24.2)) 70 (0, z17.2)))) 70 (0, (t.1, t.2.1, t.2.2.1, 0)))
abbrev rm_St_forget : Room := { frames := 0, cells := 0, slots := 0, locals := 0 }
theorem hd_St_forget : y_St_forget.cls ≠ "java/lang/invoke/MethodHandle" ∧ y_St_forget.cls ≠ "java/lang/invoke/VarHandle" ∧ (parseMethodDescriptor y_St_forget.desc).map (fun d => d.parameters.length) = some 0 := by decide +kernel
set_option maxHeartbeats 4000000 in
set_option maxRecDepth 100000 in
theorem vl_St_forget_7_T {l : Launch} {E : State → Heap → Prop} {D : va_G} {A : Nat → Prop} {cI cZ cJ : ClassId} (hE : stb A E) {ad : Nat → Nat} {x : Int32} {s : Int64} {d : DD} {o : (Nat → Int32)} {s2 : Int64} {d2 : DD} {rest : va_W} {p : Program} {e : Env} {sg : State} {m : MethodId} {args : Array Value} {below : List Frame} {meth : Method} {c : Code} (C : cx p sg m args meth c D clsA (TY cI cZ cJ) A GG R_St b_St_forget 2) (hr : meth.sig.returnType = none) (hX : E sg sg.heap) {q : TT} {kx : Int32 × TT → Option (TT)} (K : ∀ z : Int32 × TT, kx z = some q → vv p l e rm_St_forget sg m args below meth c D clsA A 2 0 0 (MQ below (qcI D clsA A none (WC ad cI cZ x s d o q s2 d2 rest)) args sg rm_St_forget.cells rm_St_forget.slots A) 26 [(0, .ref (ad 10)), (1, .int z.1)] [] (WC ad cI cZ x s d o z.2 s2 d2 rest)) :
    ∀ (n : Nat) (z : Int32 × TT), itn (bd_St_forget_7 kx) n z = some q → vv p l e rm_St_forget sg m args below meth c D clsA A 2 0 0 (MQ below (qcI D clsA A none (WC ad cI cZ x s d o q s2 d2 rest)) args sg rm_St_forget.cells rm_St_forget.slots A) 7 [(0, .ref (ad 10)), (1, .int z.1)] [] (WC ad cI cZ x s d o z.2 s2 d2 rest) := by
  have _ := hE
  intro n
  induction n with
  | zero => intro z h; cases h
  | succ n ih =>
    intro z h
    obtain ⟨zv0, zv1⟩ := z
    replace h : bd_St_forget_7 kx (itn (bd_St_forget_7 kx) n) (zv0, zv1) = some q := h
    unfold bd_St_forget_7 at h
    (try dsimp only at h)
    show vv p l e rm_St_forget sg m args below meth c D clsA A 2 0 0 (MQ below (qcI D clsA A none (WC ad cI cZ x s d o q s2 d2 rest)) args sg rm_St_forget.cells rm_St_forget.slots A) 7 [(0, .ref (ad 10)), (1, .int zv0)] [] (WC ad cI cZ x s d o zv1 s2 d2 rest)
    refine r_iload_n (pc := 7) C d_St_forget_7 rfl 1 rfl ?_
    refine r_bipush (pc := 8) (v := 36) C d_St_forget_8 (by decide) ?_
    refine r_icmp_ge (pc := 10) (tgt := 26) C d_St_forget_10 (by decide) (fun c16 => ?_) (fun c16 => ?_)
    · replace h := ip c16 h
      refine r_loc (lv' := [(0, .ref (ad 10)), (1, .int zv0)]) [0, 1] rfl ?_
      exact K (zv0, zv1) h
    · replace h := iN c16 h
      refine r_aload_n (pc := 13) C d_St_forget_13 rfl 0 rfl ?_
      refine r_get (pc := 14) (v := .ref (ad 9)) C hin_St 10 rfl rfl 2 (by decide) m_1 rfl rfl d_St_forget_14 ?_
      refine r_iload_n (pc := 17) C d_St_forget_17 rfl 1 rfl ?_
      refine r_iconst (pc := 18) (v := 0) C d_St_forget_18 (by decide) ?_
      obtain ⟨hi15, h⟩ := ign h
      refine r_iast (pc := 19) (ws' := WC ad cI cZ x s d o (upd zv1.1 zv0.toNatClampNeg (0), zv1.2.1, zv1.2.2.1, zv1.2.2.2) s2 d2 rest) C 9 0 rfl rfl hi15 rfl d_St_forget_19 ?_
      refine r_iincK (pc := 20) (w0 := 1) (lv' := [(1, .int (zv0 + 1)), (0, .ref (ad 10))]) C d_St_forget_20 (by decide) 1 rfl (by decide) rfl ?_
      refine r_goto (pc := 23) (tgt := 7) C d_St_forget_23 (by decide) ?_
      refine r_loc (lv' := [(0, .ref (ad 10)), (1, .int (zv0 + 1))]) [1, 0] rfl ?_
      exact ih (zv0 + 1, (upd zv1.1 zv0.toNatClampNeg (0), zv1.2.1, zv1.2.2.1, zv1.2.2.2)) h
set_option maxHeartbeats 4000000 in
set_option maxRecDepth 100000 in
theorem vl_St_forget_28_T {l : Launch} {E : State → Heap → Prop} {D : va_G} {A : Nat → Prop} {cI cZ cJ : ClassId} (hE : stb A E) {ad : Nat → Nat} {x : Int32} {s : Int64} {d : DD} {o : (Nat → Int32)} {s2 : Int64} {d2 : DD} {rest : va_W} {p : Program} {e : Env} {sg : State} {m : MethodId} {args : Array Value} {below : List Frame} {meth : Method} {c : Code} (C : cx p sg m args meth c D clsA (TY cI cZ cJ) A GG R_St b_St_forget 2) (hr : meth.sig.returnType = none) (hX : E sg sg.heap) {q : TT} {kx : Int32 × TT → Option (TT)} (K : ∀ z : Int32 × TT, kx z = some q → vv p l e rm_St_forget sg m args below meth c D clsA A 2 0 0 (MQ below (qcI D clsA A none (WC ad cI cZ x s d o q s2 d2 rest)) args sg rm_St_forget.cells rm_St_forget.slots A) 54 [(0, .ref (ad 10)), (1, .int z.1)] [] (WC ad cI cZ x s d o z.2 s2 d2 rest)) :
    ∀ (n : Nat) (z : Int32 × TT), itn (bd_St_forget_28 kx) n z = some q → vv p l e rm_St_forget sg m args below meth c D clsA A 2 0 0 (MQ below (qcI D clsA A none (WC ad cI cZ x s d o q s2 d2 rest)) args sg rm_St_forget.cells rm_St_forget.slots A) 28 [(0, .ref (ad 10)), (1, .int z.1)] [] (WC ad cI cZ x s d o z.2 s2 d2 rest) := by
  have _ := hE
  intro n
  induction n with
  | zero => intro z h; cases h
  | succ n ih =>
    intro z h
    obtain ⟨zv0, zv1⟩ := z
    replace h : bd_St_forget_28 kx (itn (bd_St_forget_28 kx) n) (zv0, zv1) = some q := h
    unfold bd_St_forget_28 at h
    (try dsimp only at h)
    show vv p l e rm_St_forget sg m args below meth c D clsA A 2 0 0 (MQ below (qcI D clsA A none (WC ad cI cZ x s d o q s2 d2 rest)) args sg rm_St_forget.cells rm_St_forget.slots A) 28 [(0, .ref (ad 10)), (1, .int zv0)] [] (WC ad cI cZ x s d o zv1 s2 d2 rest)
    refine r_iload_n (pc := 28) C d_St_forget_28 rfl 1 rfl ?_
    refine r_bipush (pc := 29) (v := 6) C d_St_forget_29 (by decide) ?_
    refine r_icmp_ge (pc := 31) (tgt := 54) C d_St_forget_31 (by decide) (fun c23 => ?_) (fun c23 => ?_)
    · replace h := ip c23 h
      refine r_loc (lv' := [(0, .ref (ad 10)), (1, .int zv0)]) [0, 1] rfl ?_
      exact K (zv0, zv1) h
    · replace h := iN c23 h
      refine r_aload_n (pc := 34) C d_St_forget_34 rfl 0 rfl ?_
      refine r_get (pc := 35) (v := .ref (ad 8)) C hin_St 10 rfl rfl 3 (by decide) m_2 rfl rfl d_St_forget_35 ?_
      refine r_iload_n (pc := 38) C d_St_forget_38 rfl 1 rfl ?_
      refine r_iconst (pc := 39) (v := 0) C d_St_forget_39 (by decide) ?_
      obtain ⟨hi22, h⟩ := ign h
      refine r_iast (pc := 40) (ws' := WC ad cI cZ x s d o (zv1.1, upd zv1.2.1 zv0.toNatClampNeg (0), zv1.2.2.1, zv1.2.2.2) s2 d2 rest) C 8 0 rfl rfl hi22 rfl d_St_forget_40 ?_
      refine r_aload_n (pc := 41) C d_St_forget_41 rfl 0 rfl ?_
      refine r_get (pc := 42) (v := .ref (ad 7)) C hin_St 10 rfl rfl 4 (by decide) m_3 rfl rfl d_St_forget_42 ?_
      refine r_iload_n (pc := 45) C d_St_forget_45 rfl 1 rfl ?_
      refine r_iconst (pc := 46) (v := 0) C d_St_forget_46 (by decide) ?_
      obtain ⟨hi21, h⟩ := ign h
      refine r_zast (pc := 47) (ws' := WC ad cI cZ x s d o (zv1.1, upd zv1.2.1 zv0.toNatClampNeg (0), upd zv1.2.2.1 zv0.toNatClampNeg (vp_nar .boolean (0)), zv1.2.2.2) s2 d2 rest) C 7 1 rfl rfl hi21 rfl d_St_forget_47 ?_
      refine r_iincK (pc := 48) (w0 := 1) (lv' := [(1, .int (zv0 + 1)), (0, .ref (ad 10))]) C d_St_forget_48 (by decide) 1 rfl (by decide) rfl ?_
      refine r_goto (pc := 51) (tgt := 28) C d_St_forget_51 (by decide) ?_
      refine r_loc (lv' := [(0, .ref (ad 10)), (1, .int (zv0 + 1))]) [1, 0] rfl ?_
      exact ih (zv0 + 1, (zv1.1, upd zv1.2.1 zv0.toNatClampNeg (0), upd zv1.2.2.1 zv0.toNatClampNeg (vp_nar .boolean (0)), zv1.2.2.2)) h
set_option maxHeartbeats 4000000 in
set_option maxRecDepth 100000 in
theorem c_St_forget_T {l : Launch} {E : State → Heap → Prop} {D : va_G} {A : Nat → Prop} {cI cZ cJ : ClassId} (hE : stb A E) {ad : Nat → Nat} {x : Int32} {s : Int64} {d : DD} {o : (Nat → Int32)} {t : TT} {s2 : Int64} {d2 : DD} {rest : va_W} {q : TT} (h : f_St_forget t = some q) : cm l E D clsA (TY cI cZ cJ) A GG y_St_forget b_St_forget 2 none rm_St_forget [.ref (ad 10)] (WC ad cI cZ x s d o t s2 d2 rest) none (WC ad cI cZ x s d o q s2 d2 rest) := by
  refine r_met (own := R_St) rfl (by decide) (Nat.le_of_ble_eq_true rfl) rfl ?_
  intro p e sg m args below meth c C hr hnm hX
  unfold f_St_forget at h
  refine r_aload_n (pc := 0) C d_St_forget_0 rfl 0 rfl ?_
  refine r_iconst (pc := 1) (v := 0) C d_St_forget_1 (by decide) ?_
  refine r_put (pc := 2) (ty := .int) (ws' := WC ad cI cZ x s d o (t.1, t.2.1, t.2.2.1, 0) s2 d2 rest) C hin_St t_St t_St_ok n_St 10 rfl rfl 5 (by decide) m_0 rfl rfl pd_I rfl rfl (Nat.le_of_ble_eq_true rfl) rfl d_St_forget_2 ?_
  refine r_iconst (pc := 5) (v := 0) C d_St_forget_5 (by decide) ?_
  refine r_istore_n (pc := 6) (lv' := [(1, .int (0)), (0, .ref (ad 10))]) C d_St_forget_6 rfl (by decide) rfl ?_
  refine r_loc (lv' := [(0, .ref (ad 10)), (1, .int (0))]) [1, 0] rfl ?_
  refine vl_St_forget_7_T hE C hr hX (fun z17 h => ?_) 70 (0, (t.1, t.2.1, t.2.2.1, 0)) h
  refine r_iconst (pc := 26) (v := 0) C d_St_forget_26 (by decide) ?_
  refine r_istore_n (pc := 27) (lv' := [(1, .int (0)), (0, .ref (ad 10))]) C d_St_forget_27 rfl (by decide) rfl ?_
  refine r_loc (lv' := [(0, .ref (ad 10)), (1, .int (0))]) [1, 0] rfl ?_
  refine vl_St_forget_28_T hE C hr hX (fun z24 h => ?_) 70 (0, z17.2) h
  cases h
  exact r_vret (pc := 54) C hr rfl rfl d_St_forget_54
def f_Dr_partCount (d : DD) : Option (Int32) :=
  some d.2.1
abbrev rm_Dr_partCount : Room := { frames := 0, cells := 0, slots := 0, locals := 0 }
theorem hd_Dr_partCount : y_Dr_partCount.cls ≠ "java/lang/invoke/MethodHandle" ∧ y_Dr_partCount.cls ≠ "java/lang/invoke/VarHandle" ∧ (parseMethodDescriptor y_Dr_partCount.desc).map (fun d => d.parameters.length) = some 0 := by decide +kernel
set_option maxHeartbeats 4000000 in
set_option maxRecDepth 100000 in
theorem c_Dr_partCount_D {l : Launch} {E : State → Heap → Prop} {D : va_G} {A : Nat → Prop} {cI cZ cJ : ClassId} (hE : stb A E) {ad : Nat → Nat} {x : Int32} {s : Int64} {d : DD} {o : (Nat → Int32)} {t : TT} {s2 : Int64} {d2 : DD} {rest : va_W} {q : Int32} (h : f_Dr_partCount d = some q) : cm l E D clsA (TY cI cZ cJ) A GG y_Dr_partCount b_Dr_partCount 1 (some .int) rm_Dr_partCount [.ref (ad 19)] (WC ad cI cZ x s d o t s2 d2 rest) (some (.int q)) (WC ad cI cZ x s d o t s2 d2 rest) := by
  refine r_met (own := R_Dr) rfl (by decide) (Nat.le_of_ble_eq_true rfl) rfl ?_
  intro p e sg m args below meth c C hr hnm hX
  unfold f_Dr_partCount at h
  refine r_aload_n (pc := 0) C d_Dr_partCount_0 rfl 0 rfl ?_
  refine r_get (pc := 1) (v := .int d.2.1) C hin_Dr 19 rfl rfl 1 (by decide) m_5 rfl rfl d_Dr_partCount_1 ?_
  cases h
  exact r_iret (pc := 4) C hr rfl rfl rfl d_Dr_partCount_4
def f_Dr_has (d : DD) (p0 : Int32) : Option (Int32) :=
  (if p0 < 0 then some (0) else (if d.2.1 ≤ p0 then some (0) else (if (30 : Int32) ≤ p0 then some (0) else some (1))))
abbrev rm_Dr_has : Room := { frames := 0, cells := 0, slots := 0, locals := 0 }
theorem hd_Dr_has : y_Dr_has.cls ≠ "java/lang/invoke/MethodHandle" ∧ y_Dr_has.cls ≠ "java/lang/invoke/VarHandle" ∧ (parseMethodDescriptor y_Dr_has.desc).map (fun d => d.parameters.length) = some 1 := by decide +kernel
set_option maxHeartbeats 4000000 in
set_option maxRecDepth 100000 in
theorem c_Dr_has_D {l : Launch} {E : State → Heap → Prop} {D : va_G} {A : Nat → Prop} {cI cZ cJ : ClassId} (hE : stb A E) {ad : Nat → Nat} {x : Int32} {s : Int64} {d : DD} {o : (Nat → Int32)} {t : TT} {s2 : Int64} {d2 : DD} {rest : va_W} {p0 : Int32} {q : Int32} (h : f_Dr_has d p0 = some q) : cm l E D clsA (TY cI cZ cJ) A GG y_Dr_has b_Dr_has 2 (some .boolean) rm_Dr_has [.ref (ad 19), .int p0] (WC ad cI cZ x s d o t s2 d2 rest) (some (.int q)) (WC ad cI cZ x s d o t s2 d2 rest) := by
  refine r_met (own := R_Dr) rfl (by decide) (Nat.le_of_ble_eq_true rfl) rfl ?_
  intro p e sg m args below meth c C hr hnm hX
  unfold f_Dr_has at h
  refine r_iload_n (pc := 0) C d_Dr_has_0 rfl 1 rfl ?_
  refine r_if_lt (pc := 1) (tgt := 22) C d_Dr_has_1 (by decide) (fun c29 => ?_) (fun c29 => ?_)
  · replace h := ip c29 h
    refine r_iconst (pc := 22) (v := 0) C d_Dr_has_22 (by decide) ?_
    cases h
    exact r_iret (pc := 23) C hr rfl rfl rfl d_Dr_has_23
  · replace h := iN c29 h
    refine r_iload_n (pc := 4) C d_Dr_has_4 rfl 1 rfl ?_
    refine r_aload_n (pc := 5) C d_Dr_has_5 rfl 0 rfl ?_
    refine r_get (pc := 6) (v := .int d.2.1) C hin_Dr 19 rfl rfl 1 (by decide) m_5 rfl rfl d_Dr_has_6 ?_
    refine r_icmp_ge (pc := 9) (tgt := 22) C d_Dr_has_9 (by decide) (fun c28 => ?_) (fun c28 => ?_)
    · replace h := ip c28 h
      refine r_iconst (pc := 22) (v := 0) C d_Dr_has_22 (by decide) ?_
      cases h
      exact r_iret (pc := 23) C hr rfl rfl rfl d_Dr_has_23
    · replace h := iN c28 h
      refine r_iload_n (pc := 12) C d_Dr_has_12 rfl 1 rfl ?_
      refine r_bipush (pc := 13) (v := 30) C d_Dr_has_13 (by decide) ?_
      refine r_icmp_ge (pc := 15) (tgt := 22) C d_Dr_has_15 (by decide) (fun c27 => ?_) (fun c27 => ?_)
      · replace h := ip c27 h
        refine r_iconst (pc := 22) (v := 0) C d_Dr_has_22 (by decide) ?_
        cases h
        exact r_iret (pc := 23) C hr rfl rfl rfl d_Dr_has_23
      · replace h := iN c27 h
        refine r_iconst (pc := 18) (v := 1) C d_Dr_has_18 (by decide) ?_
        refine r_goto (pc := 19) (tgt := 23) C d_Dr_has_19 (by decide) ?_
        cases h
        exact r_iret (pc := 23) C hr rfl rfl rfl d_Dr_has_23
def f_Re_isLeft (d : DD) (o : (Nat → Int32)) (p0 : Int32) : Option (Int32) :=
  Option.bind (f_Dr_has d p0) (fun q30 => (if q30 = 0 then some (0) else (if (p0 < 0 ∨ 30 ≤ p0.toNatClampNeg) then none else (if o p0.toNatClampNeg = 0 then some (1) else some (0)))))
abbrev rm_Re_isLeft : Room := { frames := 1, cells := 0, slots := 0, locals := 21 }
theorem hd_Re_isLeft : y_Re_isLeft.cls ≠ "java/lang/invoke/MethodHandle" ∧ y_Re_isLeft.cls ≠ "java/lang/invoke/VarHandle" ∧ (parseMethodDescriptor y_Re_isLeft.desc).map (fun d => d.parameters.length) = some 1 := by decide +kernel
set_option maxHeartbeats 4000000 in
set_option maxRecDepth 100000 in
theorem c_Re_isLeft_R {l : Launch} {E : State → Heap → Prop} {D : va_G} {A : Nat → Prop} {cI cZ cJ : ClassId} (hE : stb A E) {ad : Nat → Nat} {x : Int32} {s : Int64} {d : DD} {o : (Nat → Int32)} {t : TT} {s2 : Int64} {d2 : DD} {rest : va_W} {p0 : Int32} {q : Int32} (h : f_Re_isLeft d o p0 = some q) : cm l E D clsA (TY cI cZ cJ) A GG y_Re_isLeft b_Re_isLeft 2 (some .boolean) rm_Re_isLeft [.ref (ad 13), .int p0] (WC ad cI cZ x s d o t s2 d2 rest) (some (.int q)) (WC ad cI cZ x s d o t s2 d2 rest) := by
  refine r_met (own := R_Re) rfl (by decide) (Nat.le_of_ble_eq_true rfl) rfl ?_
  intro p e sg m args below meth c C hr hnm hX
  unfold f_Re_isLeft at h
  refine r_aload_n (pc := 0) C d_Re_isLeft_0 rfl 0 rfl ?_
  refine r_get (pc := 1) (v := .ref (ad 19)) C hin_Re 13 rfl rfl 0 (by decide) m_7 rfl rfl d_Re_isLeft_1 ?_
  refine r_iload_n (pc := 4) C d_Re_isLeft_4 rfl 1 rfl ?_
  obtain ⟨q30, hq30, h⟩ := ob h
  refine r_callV (pc := 5) (As := [.int p0]) (rest := []) (st1 := [.int q30]) hE gg_good C hX (c_Dr_has_D hE hq30) m_9 m_10 m_11 m_12 m_13 hd_Dr_has 19 rfl rfl ⟨⟨(Nat.le_of_ble_eq_true rfl), (Nat.le_of_ble_eq_true rfl)⟩, (Nat.le_of_ble_eq_true rfl), (Nat.le_of_ble_eq_true rfl)⟩ (Nat.le_of_ble_eq_true rfl) rfl rfl d_Re_isLeft_5 ?_
  refine r_if_eq (pc := 8) (tgt := 24) C d_Re_isLeft_8 (by decide) (fun c33 => ?_) (fun c33 => ?_)
  · replace h := ip c33 h
    refine r_iconst (pc := 24) (v := 0) C d_Re_isLeft_24 (by decide) ?_
    cases h
    exact r_iret (pc := 25) C hr rfl rfl rfl d_Re_isLeft_25
  · replace h := iN c33 h
    refine r_aload_n (pc := 11) C d_Re_isLeft_11 rfl 0 rfl ?_
    refine r_get (pc := 12) (v := .ref (ad 12)) C hin_Re 13 rfl rfl 1 (by decide) m_8 rfl rfl d_Re_isLeft_12 ?_
    refine r_iload_n (pc := 15) C d_Re_isLeft_15 rfl 1 rfl ?_
    obtain ⟨hi32, h⟩ := ign h
    refine r_zald (pc := 16) C 12 1 rfl rfl hi32 d_Re_isLeft_16 ?_
    refine r_if_ne (pc := 17) (tgt := 24) C d_Re_isLeft_17 (by decide) (fun c31 => ?_) (fun c31 => ?_)
    · replace h := iN c31 h
      refine r_iconst (pc := 24) (v := 0) C d_Re_isLeft_24 (by decide) ?_
      cases h
      exact r_iret (pc := 25) C hr rfl rfl rfl d_Re_isLeft_25
    · replace h := ip c31 h
      refine r_iconst (pc := 20) (v := 1) C d_Re_isLeft_20 (by decide) ?_
      refine r_goto (pc := 21) (tgt := 25) C d_Re_isLeft_21 (by decide) ?_
      cases h
      exact r_iret (pc := 25) C hr rfl rfl rfl d_Re_isLeft_25
def f_Dr_kindOf (d : DD) (p0 : Int32) : Option (Int32) :=
  (if d.2.2.1 ≤ p0 then (if d.2.2.1 + d.2.2.2.1 ≤ p0 then some (2) else some (1)) else some (0))
abbrev rm_Dr_kindOf : Room := { frames := 0, cells := 0, slots := 0, locals := 0 }
theorem hd_Dr_kindOf : y_Dr_kindOf.cls ≠ "java/lang/invoke/MethodHandle" ∧ y_Dr_kindOf.cls ≠ "java/lang/invoke/VarHandle" ∧ (parseMethodDescriptor y_Dr_kindOf.desc).map (fun d => d.parameters.length) = some 1 := by decide +kernel
set_option maxHeartbeats 4000000 in
set_option maxRecDepth 100000 in
theorem c_Dr_kindOf_D {l : Launch} {E : State → Heap → Prop} {D : va_G} {A : Nat → Prop} {cI cZ cJ : ClassId} (hE : stb A E) {ad : Nat → Nat} {x : Int32} {s : Int64} {d : DD} {o : (Nat → Int32)} {t : TT} {s2 : Int64} {d2 : DD} {rest : va_W} {p0 : Int32} {q : Int32} (h : f_Dr_kindOf d p0 = some q) : cm l E D clsA (TY cI cZ cJ) A GG y_Dr_kindOf b_Dr_kindOf 2 (some .int) rm_Dr_kindOf [.ref (ad 19), .int p0] (WC ad cI cZ x s d o t s2 d2 rest) (some (.int q)) (WC ad cI cZ x s d o t s2 d2 rest) := by
  refine r_met (own := R_Dr) rfl (by decide) (Nat.le_of_ble_eq_true rfl) rfl ?_
  intro p e sg m args below meth c C hr hnm hX
  unfold f_Dr_kindOf at h
  refine r_iload_n (pc := 0) C d_Dr_kindOf_0 rfl 1 rfl ?_
  refine r_aload_n (pc := 1) C d_Dr_kindOf_1 rfl 0 rfl ?_
  refine r_get (pc := 2) (v := .int d.2.2.1) C hin_Dr 19 rfl rfl 2 (by decide) m_14 rfl rfl d_Dr_kindOf_2 ?_
  refine r_icmp_ge (pc := 5) (tgt := 10) C d_Dr_kindOf_5 (by decide) (fun c36 => ?_) (fun c36 => ?_)
  · replace h := ip c36 h
    refine r_iload_n (pc := 10) C d_Dr_kindOf_10 rfl 1 rfl ?_
    refine r_aload_n (pc := 11) C d_Dr_kindOf_11 rfl 0 rfl ?_
    refine r_get (pc := 12) (v := .int d.2.2.1) C hin_Dr 19 rfl rfl 2 (by decide) m_14 rfl rfl d_Dr_kindOf_12 ?_
    refine r_aload_n (pc := 15) C d_Dr_kindOf_15 rfl 0 rfl ?_
    refine r_get (pc := 16) (v := .int d.2.2.2.1) C hin_Dr 19 rfl rfl 3 (by decide) m_15 rfl rfl d_Dr_kindOf_16 ?_
    refine r_iadd (pc := 19) C d_Dr_kindOf_19 ?_
    refine r_icmp_ge (pc := 20) (tgt := 27) C d_Dr_kindOf_20 (by decide) (fun c35 => ?_) (fun c35 => ?_)
    · replace h := ip c35 h
      refine r_iconst (pc := 27) (v := 2) C d_Dr_kindOf_27 (by decide) ?_
      cases h
      exact r_iret (pc := 28) C hr rfl rfl rfl d_Dr_kindOf_28
    · replace h := iN c35 h
      refine r_iconst (pc := 23) (v := 1) C d_Dr_kindOf_23 (by decide) ?_
      refine r_goto (pc := 24) (tgt := 28) C d_Dr_kindOf_24 (by decide) ?_
      cases h
      exact r_iret (pc := 28) C hr rfl rfl rfl d_Dr_kindOf_28
  · replace h := iN c36 h
    refine r_iconst (pc := 8) (v := 0) C d_Dr_kindOf_8 (by decide) ?_
    cases h
    exact r_iret (pc := 9) C hr rfl rfl rfl d_Dr_kindOf_9
def f_Dr_placeOf (d : DD) (p0 : Int32) : Option (Int32) :=
  Option.bind (f_Dr_has d p0) (fun q38 => (if q38 = 0 then some (-1) else (if (p0 < 0 ∨ 30 ≤ p0.toNatClampNeg) then none else some (d.2.2.2.2.2.1 p0.toNatClampNeg))))
abbrev rm_Dr_placeOf : Room := { frames := 1, cells := 0, slots := 0, locals := 21 }
theorem hd_Dr_placeOf : y_Dr_placeOf.cls ≠ "java/lang/invoke/MethodHandle" ∧ y_Dr_placeOf.cls ≠ "java/lang/invoke/VarHandle" ∧ (parseMethodDescriptor y_Dr_placeOf.desc).map (fun d => d.parameters.length) = some 1 := by decide +kernel
set_option maxHeartbeats 4000000 in
set_option maxRecDepth 100000 in
theorem c_Dr_placeOf_D {l : Launch} {E : State → Heap → Prop} {D : va_G} {A : Nat → Prop} {cI cZ cJ : ClassId} (hE : stb A E) {ad : Nat → Nat} {x : Int32} {s : Int64} {d : DD} {o : (Nat → Int32)} {t : TT} {s2 : Int64} {d2 : DD} {rest : va_W} {p0 : Int32} {q : Int32} (h : f_Dr_placeOf d p0 = some q) : cm l E D clsA (TY cI cZ cJ) A GG y_Dr_placeOf b_Dr_placeOf 2 (some .int) rm_Dr_placeOf [.ref (ad 19), .int p0] (WC ad cI cZ x s d o t s2 d2 rest) (some (.int q)) (WC ad cI cZ x s d o t s2 d2 rest) := by
  refine r_met (own := R_Dr) rfl (by decide) (Nat.le_of_ble_eq_true rfl) rfl ?_
  intro p e sg m args below meth c C hr hnm hX
  unfold f_Dr_placeOf at h
  refine r_aload_n (pc := 0) C d_Dr_placeOf_0 rfl 0 rfl ?_
  refine r_iload_n (pc := 1) C d_Dr_placeOf_1 rfl 1 rfl ?_
  obtain ⟨q38, hq38, h⟩ := ob h
  refine r_callV (pc := 2) (As := [.int p0]) (rest := []) (st1 := [.int q38]) hE gg_good C hX (c_Dr_has_D hE hq38) m_17 m_10 m_11 m_12 m_13 hd_Dr_has 19 rfl rfl ⟨⟨(Nat.le_of_ble_eq_true rfl), (Nat.le_of_ble_eq_true rfl)⟩, (Nat.le_of_ble_eq_true rfl), (Nat.le_of_ble_eq_true rfl)⟩ (Nat.le_of_ble_eq_true rfl) rfl rfl d_Dr_placeOf_2 ?_
  refine r_if_eq (pc := 5) (tgt := 17) C d_Dr_placeOf_5 (by decide) (fun c40 => ?_) (fun c40 => ?_)
  · replace h := ip c40 h
    refine r_iconst (pc := 17) (v := (-1)) C d_Dr_placeOf_17 (by decide) ?_
    cases h
    exact r_iret (pc := 18) C hr rfl rfl rfl d_Dr_placeOf_18
  · replace h := iN c40 h
    refine r_aload_n (pc := 8) C d_Dr_placeOf_8 rfl 0 rfl ?_
    refine r_get (pc := 9) (v := .ref (ad 17)) C hin_Dr 19 rfl rfl 5 (by decide) m_16 rfl rfl d_Dr_placeOf_9 ?_
    refine r_iload_n (pc := 12) C d_Dr_placeOf_12 rfl 1 rfl ?_
    obtain ⟨hi39, h⟩ := ign h
    refine r_iald (pc := 13) C 17 0 rfl rfl hi39 d_Dr_placeOf_13 ?_
    refine r_goto (pc := 14) (tgt := 18) C d_Dr_placeOf_14 (by decide) ?_
    cases h
    exact r_iret (pc := 18) C hr rfl rfl rfl d_Dr_placeOf_18
def f_Dr_goodOf (d : DD) (p0 : Int32) : Option (Int32) :=
  Option.bind (f_Dr_has d p0) (fun q43 => (if q43 = 0 then some (-1) else (if (p0 < 0 ∨ 30 ≤ p0.toNatClampNeg) then none else some (d.2.2.2.2.2.2.1 p0.toNatClampNeg))))
abbrev rm_Dr_goodOf : Room := { frames := 1, cells := 0, slots := 0, locals := 21 }
theorem hd_Dr_goodOf : y_Dr_goodOf.cls ≠ "java/lang/invoke/MethodHandle" ∧ y_Dr_goodOf.cls ≠ "java/lang/invoke/VarHandle" ∧ (parseMethodDescriptor y_Dr_goodOf.desc).map (fun d => d.parameters.length) = some 1 := by decide +kernel
set_option maxHeartbeats 4000000 in
set_option maxRecDepth 100000 in
theorem c_Dr_goodOf_D {l : Launch} {E : State → Heap → Prop} {D : va_G} {A : Nat → Prop} {cI cZ cJ : ClassId} (hE : stb A E) {ad : Nat → Nat} {x : Int32} {s : Int64} {d : DD} {o : (Nat → Int32)} {t : TT} {s2 : Int64} {d2 : DD} {rest : va_W} {p0 : Int32} {q : Int32} (h : f_Dr_goodOf d p0 = some q) : cm l E D clsA (TY cI cZ cJ) A GG y_Dr_goodOf b_Dr_goodOf 2 (some .int) rm_Dr_goodOf [.ref (ad 19), .int p0] (WC ad cI cZ x s d o t s2 d2 rest) (some (.int q)) (WC ad cI cZ x s d o t s2 d2 rest) := by
  refine r_met (own := R_Dr) rfl (by decide) (Nat.le_of_ble_eq_true rfl) rfl ?_
  intro p e sg m args below meth c C hr hnm hX
  unfold f_Dr_goodOf at h
  refine r_aload_n (pc := 0) C d_Dr_goodOf_0 rfl 0 rfl ?_
  refine r_iload_n (pc := 1) C d_Dr_goodOf_1 rfl 1 rfl ?_
  obtain ⟨q43, hq43, h⟩ := ob h
  refine r_callV (pc := 2) (As := [.int p0]) (rest := []) (st1 := [.int q43]) hE gg_good C hX (c_Dr_has_D hE hq43) m_17 m_10 m_11 m_12 m_13 hd_Dr_has 19 rfl rfl ⟨⟨(Nat.le_of_ble_eq_true rfl), (Nat.le_of_ble_eq_true rfl)⟩, (Nat.le_of_ble_eq_true rfl), (Nat.le_of_ble_eq_true rfl)⟩ (Nat.le_of_ble_eq_true rfl) rfl rfl d_Dr_goodOf_2 ?_
  refine r_if_eq (pc := 5) (tgt := 17) C d_Dr_goodOf_5 (by decide) (fun c45 => ?_) (fun c45 => ?_)
  · replace h := ip c45 h
    refine r_iconst (pc := 17) (v := (-1)) C d_Dr_goodOf_17 (by decide) ?_
    cases h
    exact r_iret (pc := 18) C hr rfl rfl rfl d_Dr_goodOf_18
  · replace h := iN c45 h
    refine r_aload_n (pc := 8) C d_Dr_goodOf_8 rfl 0 rfl ?_
    refine r_get (pc := 9) (v := .ref (ad 16)) C hin_Dr 19 rfl rfl 6 (by decide) m_18 rfl rfl d_Dr_goodOf_9 ?_
    refine r_iload_n (pc := 12) C d_Dr_goodOf_12 rfl 1 rfl ?_
    obtain ⟨hi44, h⟩ := ign h
    refine r_iald (pc := 13) C 16 0 rfl rfl hi44 d_Dr_goodOf_13 ?_
    refine r_goto (pc := 14) (tgt := 18) C d_Dr_goodOf_14 (by decide) ?_
    cases h
    exact r_iret (pc := 18) C hr rfl rfl rfl d_Dr_goodOf_18
def f_Dr_partOfGood (d : DD) (p0 : Int32) : Option (Int32) :=
  some (d.2.2.1 + p0)
abbrev rm_Dr_partOfGood : Room := { frames := 0, cells := 0, slots := 0, locals := 0 }
theorem hd_Dr_partOfGood : y_Dr_partOfGood.cls ≠ "java/lang/invoke/MethodHandle" ∧ y_Dr_partOfGood.cls ≠ "java/lang/invoke/VarHandle" ∧ (parseMethodDescriptor y_Dr_partOfGood.desc).map (fun d => d.parameters.length) = some 1 := by decide +kernel
set_option maxHeartbeats 4000000 in
set_option maxRecDepth 100000 in
theorem c_Dr_partOfGood_D {l : Launch} {E : State → Heap → Prop} {D : va_G} {A : Nat → Prop} {cI cZ cJ : ClassId} (hE : stb A E) {ad : Nat → Nat} {x : Int32} {s : Int64} {d : DD} {o : (Nat → Int32)} {t : TT} {s2 : Int64} {d2 : DD} {rest : va_W} {p0 : Int32} {q : Int32} (h : f_Dr_partOfGood d p0 = some q) : cm l E D clsA (TY cI cZ cJ) A GG y_Dr_partOfGood b_Dr_partOfGood 2 (some .int) rm_Dr_partOfGood [.ref (ad 19), .int p0] (WC ad cI cZ x s d o t s2 d2 rest) (some (.int q)) (WC ad cI cZ x s d o t s2 d2 rest) := by
  refine r_met (own := R_Dr) rfl (by decide) (Nat.le_of_ble_eq_true rfl) rfl ?_
  intro p e sg m args below meth c C hr hnm hX
  unfold f_Dr_partOfGood at h
  refine r_aload_n (pc := 0) C d_Dr_partOfGood_0 rfl 0 rfl ?_
  refine r_get (pc := 1) (v := .int d.2.2.1) C hin_Dr 19 rfl rfl 2 (by decide) m_14 rfl rfl d_Dr_partOfGood_1 ?_
  refine r_iload_n (pc := 4) C d_Dr_partOfGood_4 rfl 1 rfl ?_
  refine r_iadd (pc := 5) C d_Dr_partOfGood_5 ?_
  cases h
  exact r_iret (pc := 6) C hr rfl rfl rfl d_Dr_partOfGood_6
def f_Re_isActThatCounts (d : DD) (o : (Nat → Int32)) (p0 : Int32) : Option (Int32) :=
  Option.bind (f_Re_isLeft d o p0) (fun q34 => (if q34 = 0 then some (0) else Option.bind (f_Dr_kindOf d p0) (fun q37 => (if q37 = 2 then Option.bind (f_Dr_placeOf d p0) (fun q41 => Option.bind (f_Re_isLeft d o q41) (fun q42 => (if q42 = 0 then some (0) else Option.bind (f_Dr_goodOf d p0) (fun q46 => Option.bind (f_Dr_partOfGood d q46) (fun q47 => Option.bind (f_Re_isLeft d o q47) (fun q48 => (if q48 = 0 then some (0) else some (1)))))))) else some (0)))))
abbrev rm_Re_isActThatCounts : Room := { frames := 2, cells := 0, slots := 0, locals := 42 }
theorem hd_Re_isActThatCounts : y_Re_isActThatCounts.cls ≠ "java/lang/invoke/MethodHandle" ∧ y_Re_isActThatCounts.cls ≠ "java/lang/invoke/VarHandle" ∧ (parseMethodDescriptor y_Re_isActThatCounts.desc).map (fun d => d.parameters.length) = some 1 := by decide +kernel
set_option maxHeartbeats 4000000 in
set_option maxRecDepth 100000 in
theorem c_Re_isActThatCounts_R {l : Launch} {E : State → Heap → Prop} {D : va_G} {A : Nat → Prop} {cI cZ cJ : ClassId} (hE : stb A E) {ad : Nat → Nat} {x : Int32} {s : Int64} {d : DD} {o : (Nat → Int32)} {t : TT} {s2 : Int64} {d2 : DD} {rest : va_W} {p0 : Int32} {q : Int32} (h : f_Re_isActThatCounts d o p0 = some q) : cm l E D clsA (TY cI cZ cJ) A GG y_Re_isActThatCounts b_Re_isActThatCounts 2 (some .boolean) rm_Re_isActThatCounts [.ref (ad 13), .int p0] (WC ad cI cZ x s d o t s2 d2 rest) (some (.int q)) (WC ad cI cZ x s d o t s2 d2 rest) := by
  refine r_met (own := R_Re) rfl (by decide) (Nat.le_of_ble_eq_true rfl) rfl ?_
  intro p e sg m args below meth c C hr hnm hX
  unfold f_Re_isActThatCounts at h
  refine r_aload_n (pc := 0) C d_Re_isActThatCounts_0 rfl 0 rfl ?_
  refine r_iload_n (pc := 1) C d_Re_isActThatCounts_1 rfl 1 rfl ?_
  obtain ⟨q34, hq34, h⟩ := ob h
  refine r_callV (pc := 2) (As := [.int p0]) (rest := []) (st1 := [.int q34]) hE gg_good C hX (c_Re_isLeft_R hE hq34) m_19 m_20 m_21 m_22 m_23 hd_Re_isLeft 13 rfl rfl ⟨⟨(Nat.le_of_ble_eq_true rfl), (Nat.le_of_ble_eq_true rfl)⟩, (Nat.le_of_ble_eq_true rfl), (Nat.le_of_ble_eq_true rfl)⟩ (Nat.le_of_ble_eq_true rfl) rfl rfl d_Re_isActThatCounts_2 ?_
  refine r_if_eq (pc := 5) (tgt := 61) C d_Re_isActThatCounts_5 (by decide) (fun c52 => ?_) (fun c52 => ?_)
  · replace h := ip c52 h
    refine r_iconst (pc := 61) (v := 0) C d_Re_isActThatCounts_61 (by decide) ?_
    cases h
    exact r_iret (pc := 62) C hr rfl rfl rfl d_Re_isActThatCounts_62
  · replace h := iN c52 h
    refine r_aload_n (pc := 8) C d_Re_isActThatCounts_8 rfl 0 rfl ?_
    refine r_get (pc := 9) (v := .ref (ad 19)) C hin_Re 13 rfl rfl 0 (by decide) m_7 rfl rfl d_Re_isActThatCounts_9 ?_
    refine r_iload_n (pc := 12) C d_Re_isActThatCounts_12 rfl 1 rfl ?_
    obtain ⟨q37, hq37, h⟩ := ob h
    refine r_callV (pc := 13) (As := [.int p0]) (rest := []) (st1 := [.int q37]) hE gg_good C hX (c_Dr_kindOf_D hE hq37) m_36 m_37 m_38 m_12 m_39 hd_Dr_kindOf 19 rfl rfl ⟨⟨(Nat.le_of_ble_eq_true rfl), (Nat.le_of_ble_eq_true rfl)⟩, (Nat.le_of_ble_eq_true rfl), (Nat.le_of_ble_eq_true rfl)⟩ (Nat.le_of_ble_eq_true rfl) rfl rfl d_Re_isActThatCounts_13 ?_
    refine r_iconst (pc := 16) (v := 2) C d_Re_isActThatCounts_16 (by decide) ?_
    refine r_icmp_ne (pc := 17) (tgt := 61) C d_Re_isActThatCounts_17 (by decide) (fun c51 => ?_) (fun c51 => ?_)
    · replace h := iN c51 h
      refine r_iconst (pc := 61) (v := 0) C d_Re_isActThatCounts_61 (by decide) ?_
      cases h
      exact r_iret (pc := 62) C hr rfl rfl rfl d_Re_isActThatCounts_62
    · replace h := ip c51 h
      refine r_aload_n (pc := 20) C d_Re_isActThatCounts_20 rfl 0 rfl ?_
      refine r_aload_n (pc := 21) C d_Re_isActThatCounts_21 rfl 0 rfl ?_
      refine r_get (pc := 22) (v := .ref (ad 19)) C hin_Re 13 rfl rfl 0 (by decide) m_7 rfl rfl d_Re_isActThatCounts_22 ?_
      refine r_iload_n (pc := 25) C d_Re_isActThatCounts_25 rfl 1 rfl ?_
      obtain ⟨q41, hq41, h⟩ := ob h
      refine r_callV (pc := 26) (As := [.int p0]) (rest := [.ref (ad 13)]) (st1 := [.int q41, .ref (ad 13)]) hE gg_good C hX (c_Dr_placeOf_D hE hq41) m_32 m_33 m_34 m_12 m_35 hd_Dr_placeOf 19 rfl rfl ⟨⟨(Nat.le_of_ble_eq_true rfl), (Nat.le_of_ble_eq_true rfl)⟩, (Nat.le_of_ble_eq_true rfl), (Nat.le_of_ble_eq_true rfl)⟩ (Nat.le_of_ble_eq_true rfl) rfl rfl d_Re_isActThatCounts_26 ?_
      obtain ⟨q42, hq42, h⟩ := ob h
      refine r_callV (pc := 29) (As := [.int q41]) (rest := []) (st1 := [.int q42]) hE gg_good C hX (c_Re_isLeft_R hE hq42) m_19 m_20 m_21 m_22 m_23 hd_Re_isLeft 13 rfl rfl ⟨⟨(Nat.le_of_ble_eq_true rfl), (Nat.le_of_ble_eq_true rfl)⟩, (Nat.le_of_ble_eq_true rfl), (Nat.le_of_ble_eq_true rfl)⟩ (Nat.le_of_ble_eq_true rfl) rfl rfl d_Re_isActThatCounts_29 ?_
      refine r_if_eq (pc := 32) (tgt := 61) C d_Re_isActThatCounts_32 (by decide) (fun c50 => ?_) (fun c50 => ?_)
      · replace h := ip c50 h
        refine r_iconst (pc := 61) (v := 0) C d_Re_isActThatCounts_61 (by decide) ?_
        cases h
        exact r_iret (pc := 62) C hr rfl rfl rfl d_Re_isActThatCounts_62
      · replace h := iN c50 h
        refine r_aload_n (pc := 35) C d_Re_isActThatCounts_35 rfl 0 rfl ?_
        refine r_aload_n (pc := 36) C d_Re_isActThatCounts_36 rfl 0 rfl ?_
        refine r_get (pc := 37) (v := .ref (ad 19)) C hin_Re 13 rfl rfl 0 (by decide) m_7 rfl rfl d_Re_isActThatCounts_37 ?_
        refine r_aload_n (pc := 40) C d_Re_isActThatCounts_40 rfl 0 rfl ?_
        refine r_get (pc := 41) (v := .ref (ad 19)) C hin_Re 13 rfl rfl 0 (by decide) m_7 rfl rfl d_Re_isActThatCounts_41 ?_
        refine r_iload_n (pc := 44) C d_Re_isActThatCounts_44 rfl 1 rfl ?_
        obtain ⟨q46, hq46, h⟩ := ob h
        refine r_callV (pc := 45) (As := [.int p0]) (rest := [.ref (ad 19), .ref (ad 13)]) (st1 := [.int q46, .ref (ad 19), .ref (ad 13)]) hE gg_good C hX (c_Dr_goodOf_D hE hq46) m_28 m_29 m_30 m_12 m_31 hd_Dr_goodOf 19 rfl rfl ⟨⟨(Nat.le_of_ble_eq_true rfl), (Nat.le_of_ble_eq_true rfl)⟩, (Nat.le_of_ble_eq_true rfl), (Nat.le_of_ble_eq_true rfl)⟩ (Nat.le_of_ble_eq_true rfl) rfl rfl d_Re_isActThatCounts_45 ?_
        obtain ⟨q47, hq47, h⟩ := ob h
        refine r_callV (pc := 48) (As := [.int q46]) (rest := [.ref (ad 13)]) (st1 := [.int q47, .ref (ad 13)]) hE gg_good C hX (c_Dr_partOfGood_D hE hq47) m_24 m_25 m_26 m_12 m_27 hd_Dr_partOfGood 19 rfl rfl ⟨⟨(Nat.le_of_ble_eq_true rfl), (Nat.le_of_ble_eq_true rfl)⟩, (Nat.le_of_ble_eq_true rfl), (Nat.le_of_ble_eq_true rfl)⟩ (Nat.le_of_ble_eq_true rfl) rfl rfl d_Re_isActThatCounts_48 ?_
        obtain ⟨q48, hq48, h⟩ := ob h
        refine r_callV (pc := 51) (As := [.int q47]) (rest := []) (st1 := [.int q48]) hE gg_good C hX (c_Re_isLeft_R hE hq48) m_19 m_20 m_21 m_22 m_23 hd_Re_isLeft 13 rfl rfl ⟨⟨(Nat.le_of_ble_eq_true rfl), (Nat.le_of_ble_eq_true rfl)⟩, (Nat.le_of_ble_eq_true rfl), (Nat.le_of_ble_eq_true rfl)⟩ (Nat.le_of_ble_eq_true rfl) rfl rfl d_Re_isActThatCounts_51 ?_
        refine r_if_eq (pc := 54) (tgt := 61) C d_Re_isActThatCounts_54 (by decide) (fun c49 => ?_) (fun c49 => ?_)
        · replace h := ip c49 h
          refine r_iconst (pc := 61) (v := 0) C d_Re_isActThatCounts_61 (by decide) ?_
          cases h
          exact r_iret (pc := 62) C hr rfl rfl rfl d_Re_isActThatCounts_62
        · replace h := iN c49 h
          refine r_iconst (pc := 57) (v := 1) C d_Re_isActThatCounts_57 (by decide) ?_
          refine r_goto (pc := 58) (tgt := 62) C d_Re_isActThatCounts_58 (by decide) ?_
          cases h
          exact r_iret (pc := 62) C hr rfl rfl rfl d_Re_isActThatCounts_62
def f_Dr_hasPlace (d : DD) (p0 : Int32) : Option (Int32) :=
  (if p0 < 0 then some (0) else (if d.2.2.1 ≤ p0 then some (0) else (if (6 : Int32) ≤ p0 then some (0) else some (1))))
abbrev rm_Dr_hasPlace : Room := { frames := 0, cells := 0, slots := 0, locals := 0 }
theorem hd_Dr_hasPlace : y_Dr_hasPlace.cls ≠ "java/lang/invoke/MethodHandle" ∧ y_Dr_hasPlace.cls ≠ "java/lang/invoke/VarHandle" ∧ (parseMethodDescriptor y_Dr_hasPlace.desc).map (fun d => d.parameters.length) = some 1 := by decide +kernel
set_option maxHeartbeats 4000000 in
set_option maxRecDepth 100000 in
theorem c_Dr_hasPlace_D {l : Launch} {E : State → Heap → Prop} {D : va_G} {A : Nat → Prop} {cI cZ cJ : ClassId} (hE : stb A E) {ad : Nat → Nat} {x : Int32} {s : Int64} {d : DD} {o : (Nat → Int32)} {t : TT} {s2 : Int64} {d2 : DD} {rest : va_W} {p0 : Int32} {q : Int32} (h : f_Dr_hasPlace d p0 = some q) : cm l E D clsA (TY cI cZ cJ) A GG y_Dr_hasPlace b_Dr_hasPlace 2 (some .boolean) rm_Dr_hasPlace [.ref (ad 19), .int p0] (WC ad cI cZ x s d o t s2 d2 rest) (some (.int q)) (WC ad cI cZ x s d o t s2 d2 rest) := by
  refine r_met (own := R_Dr) rfl (by decide) (Nat.le_of_ble_eq_true rfl) rfl ?_
  intro p e sg m args below meth c C hr hnm hX
  unfold f_Dr_hasPlace at h
  refine r_iload_n (pc := 0) C d_Dr_hasPlace_0 rfl 1 rfl ?_
  refine r_if_lt (pc := 1) (tgt := 22) C d_Dr_hasPlace_1 (by decide) (fun c58 => ?_) (fun c58 => ?_)
  · replace h := ip c58 h
    refine r_iconst (pc := 22) (v := 0) C d_Dr_hasPlace_22 (by decide) ?_
    cases h
    exact r_iret (pc := 23) C hr rfl rfl rfl d_Dr_hasPlace_23
  · replace h := iN c58 h
    refine r_iload_n (pc := 4) C d_Dr_hasPlace_4 rfl 1 rfl ?_
    refine r_aload_n (pc := 5) C d_Dr_hasPlace_5 rfl 0 rfl ?_
    refine r_get (pc := 6) (v := .int d.2.2.1) C hin_Dr 19 rfl rfl 2 (by decide) m_14 rfl rfl d_Dr_hasPlace_6 ?_
    refine r_icmp_ge (pc := 9) (tgt := 22) C d_Dr_hasPlace_9 (by decide) (fun c57 => ?_) (fun c57 => ?_)
    · replace h := ip c57 h
      refine r_iconst (pc := 22) (v := 0) C d_Dr_hasPlace_22 (by decide) ?_
      cases h
      exact r_iret (pc := 23) C hr rfl rfl rfl d_Dr_hasPlace_23
    · replace h := iN c57 h
      refine r_iload_n (pc := 12) C d_Dr_hasPlace_12 rfl 1 rfl ?_
      refine r_bipush (pc := 13) (v := 6) C d_Dr_hasPlace_13 (by decide) ?_
      refine r_icmp_ge (pc := 15) (tgt := 22) C d_Dr_hasPlace_15 (by decide) (fun c56 => ?_) (fun c56 => ?_)
      · replace h := ip c56 h
        refine r_iconst (pc := 22) (v := 0) C d_Dr_hasPlace_22 (by decide) ?_
        cases h
        exact r_iret (pc := 23) C hr rfl rfl rfl d_Dr_hasPlace_23
      · replace h := iN c56 h
        refine r_iconst (pc := 18) (v := 1) C d_Dr_hasPlace_18 (by decide) ?_
        refine r_goto (pc := 19) (tgt := 23) C d_Dr_hasPlace_19 (by decide) ?_
        cases h
        exact r_iret (pc := 23) C hr rfl rfl rfl d_Dr_hasPlace_23
def f_Dr_hasGood (d : DD) (p0 : Int32) : Option (Int32) :=
  (if p0 < 0 then some (0) else (if d.2.2.2.1 ≤ p0 then some (0) else (if (6 : Int32) ≤ p0 then some (0) else some (1))))
abbrev rm_Dr_hasGood : Room := { frames := 0, cells := 0, slots := 0, locals := 0 }
theorem hd_Dr_hasGood : y_Dr_hasGood.cls ≠ "java/lang/invoke/MethodHandle" ∧ y_Dr_hasGood.cls ≠ "java/lang/invoke/VarHandle" ∧ (parseMethodDescriptor y_Dr_hasGood.desc).map (fun d => d.parameters.length) = some 1 := by decide +kernel
set_option maxHeartbeats 4000000 in
set_option maxRecDepth 100000 in
theorem c_Dr_hasGood_D {l : Launch} {E : State → Heap → Prop} {D : va_G} {A : Nat → Prop} {cI cZ cJ : ClassId} (hE : stb A E) {ad : Nat → Nat} {x : Int32} {s : Int64} {d : DD} {o : (Nat → Int32)} {t : TT} {s2 : Int64} {d2 : DD} {rest : va_W} {p0 : Int32} {q : Int32} (h : f_Dr_hasGood d p0 = some q) : cm l E D clsA (TY cI cZ cJ) A GG y_Dr_hasGood b_Dr_hasGood 2 (some .boolean) rm_Dr_hasGood [.ref (ad 19), .int p0] (WC ad cI cZ x s d o t s2 d2 rest) (some (.int q)) (WC ad cI cZ x s d o t s2 d2 rest) := by
  refine r_met (own := R_Dr) rfl (by decide) (Nat.le_of_ble_eq_true rfl) rfl ?_
  intro p e sg m args below meth c C hr hnm hX
  unfold f_Dr_hasGood at h
  refine r_iload_n (pc := 0) C d_Dr_hasGood_0 rfl 1 rfl ?_
  refine r_if_lt (pc := 1) (tgt := 22) C d_Dr_hasGood_1 (by decide) (fun c62 => ?_) (fun c62 => ?_)
  · replace h := ip c62 h
    refine r_iconst (pc := 22) (v := 0) C d_Dr_hasGood_22 (by decide) ?_
    cases h
    exact r_iret (pc := 23) C hr rfl rfl rfl d_Dr_hasGood_23
  · replace h := iN c62 h
    refine r_iload_n (pc := 4) C d_Dr_hasGood_4 rfl 1 rfl ?_
    refine r_aload_n (pc := 5) C d_Dr_hasGood_5 rfl 0 rfl ?_
    refine r_get (pc := 6) (v := .int d.2.2.2.1) C hin_Dr 19 rfl rfl 3 (by decide) m_15 rfl rfl d_Dr_hasGood_6 ?_
    refine r_icmp_ge (pc := 9) (tgt := 22) C d_Dr_hasGood_9 (by decide) (fun c61 => ?_) (fun c61 => ?_)
    · replace h := ip c61 h
      refine r_iconst (pc := 22) (v := 0) C d_Dr_hasGood_22 (by decide) ?_
      cases h
      exact r_iret (pc := 23) C hr rfl rfl rfl d_Dr_hasGood_23
    · replace h := iN c61 h
      refine r_iload_n (pc := 12) C d_Dr_hasGood_12 rfl 1 rfl ?_
      refine r_bipush (pc := 13) (v := 6) C d_Dr_hasGood_13 (by decide) ?_
      refine r_icmp_ge (pc := 15) (tgt := 22) C d_Dr_hasGood_15 (by decide) (fun c60 => ?_) (fun c60 => ?_)
      · replace h := ip c60 h
        refine r_iconst (pc := 22) (v := 0) C d_Dr_hasGood_22 (by decide) ?_
        cases h
        exact r_iret (pc := 23) C hr rfl rfl rfl d_Dr_hasGood_23
      · replace h := iN c60 h
        refine r_iconst (pc := 18) (v := 1) C d_Dr_hasGood_18 (by decide) ?_
        refine r_goto (pc := 19) (tgt := 23) C d_Dr_hasGood_19 (by decide) ?_
        cases h
        exact r_iret (pc := 23) C hr rfl rfl rfl d_Dr_hasGood_23
def f_Dr_amountOf (d : DD) (p0 : Int32) : Option (Int32) :=
  Option.bind (f_Dr_has d p0) (fun q64 => (if q64 = 0 then some (0) else (if (p0 < 0 ∨ 30 ≤ p0.toNatClampNeg) then none else some (d.2.2.2.2.1 p0.toNatClampNeg))))
abbrev rm_Dr_amountOf : Room := { frames := 1, cells := 0, slots := 0, locals := 21 }
theorem hd_Dr_amountOf : y_Dr_amountOf.cls ≠ "java/lang/invoke/MethodHandle" ∧ y_Dr_amountOf.cls ≠ "java/lang/invoke/VarHandle" ∧ (parseMethodDescriptor y_Dr_amountOf.desc).map (fun d => d.parameters.length) = some 1 := by decide +kernel
set_option maxHeartbeats 4000000 in
set_option maxRecDepth 100000 in
theorem c_Dr_amountOf_D {l : Launch} {E : State → Heap → Prop} {D : va_G} {A : Nat → Prop} {cI cZ cJ : ClassId} (hE : stb A E) {ad : Nat → Nat} {x : Int32} {s : Int64} {d : DD} {o : (Nat → Int32)} {t : TT} {s2 : Int64} {d2 : DD} {rest : va_W} {p0 : Int32} {q : Int32} (h : f_Dr_amountOf d p0 = some q) : cm l E D clsA (TY cI cZ cJ) A GG y_Dr_amountOf b_Dr_amountOf 2 (some .int) rm_Dr_amountOf [.ref (ad 19), .int p0] (WC ad cI cZ x s d o t s2 d2 rest) (some (.int q)) (WC ad cI cZ x s d o t s2 d2 rest) := by
  refine r_met (own := R_Dr) rfl (by decide) (Nat.le_of_ble_eq_true rfl) rfl ?_
  intro p e sg m args below meth c C hr hnm hX
  unfold f_Dr_amountOf at h
  refine r_aload_n (pc := 0) C d_Dr_amountOf_0 rfl 0 rfl ?_
  refine r_iload_n (pc := 1) C d_Dr_amountOf_1 rfl 1 rfl ?_
  obtain ⟨q64, hq64, h⟩ := ob h
  refine r_callV (pc := 2) (As := [.int p0]) (rest := []) (st1 := [.int q64]) hE gg_good C hX (c_Dr_has_D hE hq64) m_17 m_10 m_11 m_12 m_13 hd_Dr_has 19 rfl rfl ⟨⟨(Nat.le_of_ble_eq_true rfl), (Nat.le_of_ble_eq_true rfl)⟩, (Nat.le_of_ble_eq_true rfl), (Nat.le_of_ble_eq_true rfl)⟩ (Nat.le_of_ble_eq_true rfl) rfl rfl d_Dr_amountOf_2 ?_
  refine r_if_eq (pc := 5) (tgt := 17) C d_Dr_amountOf_5 (by decide) (fun c66 => ?_) (fun c66 => ?_)
  · replace h := ip c66 h
    refine r_iconst (pc := 17) (v := 0) C d_Dr_amountOf_17 (by decide) ?_
    cases h
    exact r_iret (pc := 18) C hr rfl rfl rfl d_Dr_amountOf_18
  · replace h := iN c66 h
    refine r_aload_n (pc := 8) C d_Dr_amountOf_8 rfl 0 rfl ?_
    refine r_get (pc := 9) (v := .ref (ad 18)) C hin_Dr 19 rfl rfl 4 (by decide) m_40 rfl rfl d_Dr_amountOf_9 ?_
    refine r_iload_n (pc := 12) C d_Dr_amountOf_12 rfl 1 rfl ?_
    obtain ⟨hi65, h⟩ := ign h
    refine r_iald (pc := 13) C 18 0 rfl rfl hi65 d_Dr_amountOf_13 ?_
    refine r_goto (pc := 14) (tgt := 18) C d_Dr_amountOf_14 (by decide) ?_
    cases h
    exact r_iret (pc := 18) C hr rfl rfl rfl d_Dr_amountOf_18
def f_Dr_takes (d : DD) (p0 : Int32) : Option (Int32) :=
  Option.bind (f_Dr_has d p0) (fun q68 => (if q68 = 0 then some (0) else (if (p0 < 0 ∨ 30 ≤ p0.toNatClampNeg) then none else (if d.2.2.2.2.2.2.2.1 p0.toNatClampNeg = 0 then some (0) else some (1)))))
abbrev rm_Dr_takes : Room := { frames := 1, cells := 0, slots := 0, locals := 21 }
theorem hd_Dr_takes : y_Dr_takes.cls ≠ "java/lang/invoke/MethodHandle" ∧ y_Dr_takes.cls ≠ "java/lang/invoke/VarHandle" ∧ (parseMethodDescriptor y_Dr_takes.desc).map (fun d => d.parameters.length) = some 1 := by decide +kernel
set_option maxHeartbeats 4000000 in
set_option maxRecDepth 100000 in
theorem c_Dr_takes_D {l : Launch} {E : State → Heap → Prop} {D : va_G} {A : Nat → Prop} {cI cZ cJ : ClassId} (hE : stb A E) {ad : Nat → Nat} {x : Int32} {s : Int64} {d : DD} {o : (Nat → Int32)} {t : TT} {s2 : Int64} {d2 : DD} {rest : va_W} {p0 : Int32} {q : Int32} (h : f_Dr_takes d p0 = some q) : cm l E D clsA (TY cI cZ cJ) A GG y_Dr_takes b_Dr_takes 2 (some .boolean) rm_Dr_takes [.ref (ad 19), .int p0] (WC ad cI cZ x s d o t s2 d2 rest) (some (.int q)) (WC ad cI cZ x s d o t s2 d2 rest) := by
  refine r_met (own := R_Dr) rfl (by decide) (Nat.le_of_ble_eq_true rfl) rfl ?_
  intro p e sg m args below meth c C hr hnm hX
  unfold f_Dr_takes at h
  refine r_aload_n (pc := 0) C d_Dr_takes_0 rfl 0 rfl ?_
  refine r_iload_n (pc := 1) C d_Dr_takes_1 rfl 1 rfl ?_
  obtain ⟨q68, hq68, h⟩ := ob h
  refine r_callV (pc := 2) (As := [.int p0]) (rest := []) (st1 := [.int q68]) hE gg_good C hX (c_Dr_has_D hE hq68) m_17 m_10 m_11 m_12 m_13 hd_Dr_has 19 rfl rfl ⟨⟨(Nat.le_of_ble_eq_true rfl), (Nat.le_of_ble_eq_true rfl)⟩, (Nat.le_of_ble_eq_true rfl), (Nat.le_of_ble_eq_true rfl)⟩ (Nat.le_of_ble_eq_true rfl) rfl rfl d_Dr_takes_2 ?_
  refine r_if_eq (pc := 5) (tgt := 21) C d_Dr_takes_5 (by decide) (fun c71 => ?_) (fun c71 => ?_)
  · replace h := ip c71 h
    refine r_iconst (pc := 21) (v := 0) C d_Dr_takes_21 (by decide) ?_
    cases h
    exact r_iret (pc := 22) C hr rfl rfl rfl d_Dr_takes_22
  · replace h := iN c71 h
    refine r_aload_n (pc := 8) C d_Dr_takes_8 rfl 0 rfl ?_
    refine r_get (pc := 9) (v := .ref (ad 15)) C hin_Dr 19 rfl rfl 7 (by decide) m_41 rfl rfl d_Dr_takes_9 ?_
    refine r_iload_n (pc := 12) C d_Dr_takes_12 rfl 1 rfl ?_
    obtain ⟨hi70, h⟩ := ign h
    refine r_zald (pc := 13) C 15 1 rfl rfl hi70 d_Dr_takes_13 ?_
    refine r_if_eq (pc := 14) (tgt := 21) C d_Dr_takes_14 (by decide) (fun c69 => ?_) (fun c69 => ?_)
    · replace h := ip c69 h
      refine r_iconst (pc := 21) (v := 0) C d_Dr_takes_21 (by decide) ?_
      cases h
      exact r_iret (pc := 22) C hr rfl rfl rfl d_Dr_takes_22
    · replace h := iN c69 h
      refine r_iconst (pc := 17) (v := 1) C d_Dr_takes_17 (by decide) ?_
      refine r_goto (pc := 18) (tgt := 22) C d_Dr_takes_18 (by decide) ?_
      cases h
      exact r_iret (pc := 22) C hr rfl rfl rfl d_Dr_takes_22
