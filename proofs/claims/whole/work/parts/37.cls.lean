def bd_Dr_hasThePartsOf_37 (d : DD) (d2 : DD) (kx : Int32 → Option (Int32)) (rec : Int32 → Option (Int32)) (z : Int32) : Option (Int32) :=
  (if d.2.1 ≤ z then kx z else Option.bind (f_Dr_isPartLike d d2 z) (fun q594 => (if q594 = 0 then some (0) else rec (z + 1))))
def f_Dr_hasThePartsOf (d : DD) (d2 : DD) : Option (Int32) :=
  (if d.2.1 = d2.2.1 then (if d.2.2.1 = d2.2.2.1 then (if d.2.2.2.1 = d2.2.2.2.1 then (itn (bd_Dr_hasThePartsOf_37 d d2 (fun z600 => some (1))) 70 (0)) else some (0)) else some (0)) else some (0))
abbrev rm_Dr_hasThePartsOf : Room := { frames := 3, cells := 0, slots := 0, locals := 64 }
theorem hd_Dr_hasThePartsOf : y_Dr_hasThePartsOf.cls ≠ "java/lang/invoke/MethodHandle" ∧ y_Dr_hasThePartsOf.cls ≠ "java/lang/invoke/VarHandle" ∧ (parseMethodDescriptor y_Dr_hasThePartsOf.desc).map (fun d => d.parameters.length) = some 1 := by decide +kernel
set_option maxHeartbeats 4000000 in
set_option maxRecDepth 100000 in
theorem vl_Dr_hasThePartsOf_37_D {l : Launch} {E : State → Heap → Prop} {D : va_G} {A : Nat → Prop} {cI cZ cJ : ClassId} (hE : stb A E) {ad : Nat → Nat} {x : Int32} {s : Int64} {d : DD} {o : (Nat → Int32)} {t : TT} {s2 : Int64} {d2 : DD} {rest : va_W} {p : Program} {e : Env} {sg : State} {m : MethodId} {args : Array Value} {below : List Frame} {meth : Method} {c : Code} (C : cx p sg m args meth c D clsA (TY cI cZ cJ) A GG R_Dr b_Dr_hasThePartsOf 3) (hr : meth.sig.returnType = (some .boolean)) (hX : E sg sg.heap) {q : Int32} {kx : Int32 → Option (Int32)} (K : ∀ z : Int32, kx z = some q → vv p l e rm_Dr_hasThePartsOf sg m args below meth c D clsA A 3 0 0 (MQ below (qcI D clsA A (some (.int q)) (WC ad cI cZ x s d o t s2 d2 rest)) args sg rm_Dr_hasThePartsOf.cells rm_Dr_hasThePartsOf.slots A) 62 [(0, .ref (ad 19)), (1, .ref (ad 5)), (2, .int z)] [] (WC ad cI cZ x s d o t s2 d2 rest)) :
    ∀ (n : Nat) (z : Int32), itn (bd_Dr_hasThePartsOf_37 d d2 kx) n z = some q → vv p l e rm_Dr_hasThePartsOf sg m args below meth c D clsA A 3 0 0 (MQ below (qcI D clsA A (some (.int q)) (WC ad cI cZ x s d o t s2 d2 rest)) args sg rm_Dr_hasThePartsOf.cells rm_Dr_hasThePartsOf.slots A) 37 [(0, .ref (ad 19)), (1, .ref (ad 5)), (2, .int z)] [] (WC ad cI cZ x s d o t s2 d2 rest) := by
  have _ := hE
  intro n
  induction n with
  | zero => intro z h; cases h
  | succ n ih =>
    intro zv0 h
    have _ := h
    replace h : bd_Dr_hasThePartsOf_37 d d2 kx (itn (bd_Dr_hasThePartsOf_37 d d2 kx) n) zv0 = some q := h
    unfold bd_Dr_hasThePartsOf_37 at h
    (try dsimp only at h)
    show vv p l e rm_Dr_hasThePartsOf sg m args below meth c D clsA A 3 0 0 (MQ below (qcI D clsA A (some (.int q)) (WC ad cI cZ x s d o t s2 d2 rest)) args sg rm_Dr_hasThePartsOf.cells rm_Dr_hasThePartsOf.slots A) 37 [(0, .ref (ad 19)), (1, .ref (ad 5)), (2, .int zv0)] [] (WC ad cI cZ x s d o t s2 d2 rest)
    refine r_iload_n (pc := 37) C d_Dr_hasThePartsOf_37 rfl 2 rfl ?_
    refine r_aload_n (pc := 38) C d_Dr_hasThePartsOf_38 rfl 0 rfl ?_
    refine r_get (pc := 39) (v := .int d.2.1) C hin_Dr 19 rfl rfl 1 (by decide) m_5 rfl rfl d_Dr_hasThePartsOf_39 ?_
    refine r_icmp_ge (pc := 42) (tgt := 62) C d_Dr_hasThePartsOf_42 (by decide) (fun c599 => ?_) (fun c599 => ?_)
    · replace h := ip c599 h
      refine r_loc (lv' := [(0, .ref (ad 19)), (1, .ref (ad 5)), (2, .int zv0)]) [0, 1, 2] rfl ?_
      exact K zv0 h
    · replace h := iN c599 h
      refine r_aload_n (pc := 45) C d_Dr_hasThePartsOf_45 rfl 0 rfl ?_
      refine r_iload_n (pc := 46) C d_Dr_hasThePartsOf_46 rfl 2 rfl ?_
      refine r_aload_n (pc := 47) C d_Dr_hasThePartsOf_47 rfl 1 rfl ?_
      obtain ⟨q597, hq597, h⟩ := ob h
      refine r_callV (pc := 48) (As := [.int zv0, .ref (ad 5)]) (rest := []) (st1 := [.int q597]) hE gg_good C hX (c_Dr_isPartLike_D hE hq597) m_199 m_200 m_201 m_12 m_202 hd_Dr_isPartLike 19 rfl rfl ⟨⟨(Nat.le_of_ble_eq_true rfl), (Nat.le_of_ble_eq_true rfl)⟩, (Nat.le_of_ble_eq_true rfl), (Nat.le_of_ble_eq_true rfl)⟩ (Nat.le_of_ble_eq_true rfl) rfl rfl d_Dr_hasThePartsOf_48 ?_
      refine r_if_ne (pc := 51) (tgt := 56) C d_Dr_hasThePartsOf_51 (by decide) (fun c598 => ?_) (fun c598 => ?_)
      · replace h := iN c598 h
        refine r_iincK (pc := 56) (w0 := 1) (lv' := [(2, .int (zv0 + 1)), (0, .ref (ad 19)), (1, .ref (ad 5))]) C d_Dr_hasThePartsOf_56 (by decide) 2 rfl (by decide) rfl ?_
        refine r_goto (pc := 59) (tgt := 37) C d_Dr_hasThePartsOf_59 (by decide) ?_
        refine r_loc (lv' := [(0, .ref (ad 19)), (1, .ref (ad 5)), (2, .int (zv0 + 1))]) [1, 2, 0] rfl ?_
        exact ih (zv0 + 1) h
      · replace h := ip c598 h
        refine r_iconst (pc := 54) (v := 0) C d_Dr_hasThePartsOf_54 (by decide) ?_
        cases h
        exact r_iret (pc := 55) C hr rfl rfl rfl d_Dr_hasThePartsOf_55
set_option maxHeartbeats 4000000 in
set_option maxRecDepth 100000 in
theorem c_Dr_hasThePartsOf_D {l : Launch} {E : State → Heap → Prop} {D : va_G} {A : Nat → Prop} {cI cZ cJ : ClassId} (hE : stb A E) {ad : Nat → Nat} {x : Int32} {s : Int64} {d : DD} {o : (Nat → Int32)} {t : TT} {s2 : Int64} {d2 : DD} {rest : va_W} {q : Int32} (h : f_Dr_hasThePartsOf d d2 = some q) : cm l E D clsA (TY cI cZ cJ) A GG y_Dr_hasThePartsOf b_Dr_hasThePartsOf 3 (some .boolean) rm_Dr_hasThePartsOf [.ref (ad 19), .ref (ad 5)] (WC ad cI cZ x s d o t s2 d2 rest) (some (.int q)) (WC ad cI cZ x s d o t s2 d2 rest) := by
  refine r_met (own := R_Dr) rfl (by decide) (Nat.le_of_ble_eq_true rfl) rfl ?_
  intro p e sg m args below meth c C hr hnm hX
  unfold f_Dr_hasThePartsOf at h
  refine r_aload_n (pc := 0) C d_Dr_hasThePartsOf_0 rfl 0 rfl ?_
  refine r_get (pc := 1) (v := .int d.2.1) C hin_Dr 19 rfl rfl 1 (by decide) m_5 rfl rfl d_Dr_hasThePartsOf_1 ?_
  refine r_aload_n (pc := 4) C d_Dr_hasThePartsOf_4 rfl 1 rfl ?_
  refine r_get (pc := 5) (v := .int d2.2.1) C hin_Dr 5 rfl rfl 1 (by decide) m_5 rfl rfl d_Dr_hasThePartsOf_5 ?_
  refine r_icmp_ne (pc := 8) (tgt := 33) C d_Dr_hasThePartsOf_8 (by decide) (fun c603 => ?_) (fun c603 => ?_)
  · replace h := iN c603 h
    refine r_iconst (pc := 33) (v := 0) C d_Dr_hasThePartsOf_33 (by decide) ?_
    cases h
    exact r_iret (pc := 34) C hr rfl rfl rfl d_Dr_hasThePartsOf_34
  · replace h := ip c603 h
    refine r_aload_n (pc := 11) C d_Dr_hasThePartsOf_11 rfl 0 rfl ?_
    refine r_get (pc := 12) (v := .int d.2.2.1) C hin_Dr 19 rfl rfl 2 (by decide) m_14 rfl rfl d_Dr_hasThePartsOf_12 ?_
    refine r_aload_n (pc := 15) C d_Dr_hasThePartsOf_15 rfl 1 rfl ?_
    refine r_get (pc := 16) (v := .int d2.2.2.1) C hin_Dr 5 rfl rfl 2 (by decide) m_14 rfl rfl d_Dr_hasThePartsOf_16 ?_
    refine r_icmp_ne (pc := 19) (tgt := 33) C d_Dr_hasThePartsOf_19 (by decide) (fun c602 => ?_) (fun c602 => ?_)
    · replace h := iN c602 h
      refine r_iconst (pc := 33) (v := 0) C d_Dr_hasThePartsOf_33 (by decide) ?_
      cases h
      exact r_iret (pc := 34) C hr rfl rfl rfl d_Dr_hasThePartsOf_34
    · replace h := ip c602 h
      refine r_aload_n (pc := 22) C d_Dr_hasThePartsOf_22 rfl 0 rfl ?_
      refine r_get (pc := 23) (v := .int d.2.2.2.1) C hin_Dr 19 rfl rfl 3 (by decide) m_15 rfl rfl d_Dr_hasThePartsOf_23 ?_
      refine r_aload_n (pc := 26) C d_Dr_hasThePartsOf_26 rfl 1 rfl ?_
      refine r_get (pc := 27) (v := .int d2.2.2.2.1) C hin_Dr 5 rfl rfl 3 (by decide) m_15 rfl rfl d_Dr_hasThePartsOf_27 ?_
      refine r_icmp_eq (pc := 30) (tgt := 35) C d_Dr_hasThePartsOf_30 (by decide) (fun c601 => ?_) (fun c601 => ?_)
      · replace h := ip c601 h
        refine r_iconst (pc := 35) (v := 0) C d_Dr_hasThePartsOf_35 (by decide) ?_
        refine r_istore_n (pc := 36) (lv' := [(2, .int (0)), (0, .ref (ad 19)), (1, .ref (ad 5))]) C d_Dr_hasThePartsOf_36 rfl (by decide) rfl ?_
        refine r_loc (lv' := [(0, .ref (ad 19)), (1, .ref (ad 5)), (2, .int (0))]) [1, 2, 0] rfl ?_
        refine vl_Dr_hasThePartsOf_37_D hE C hr hX (fun z600 h => ?_) 70 (0) h
        refine r_iconst (pc := 62) (v := 1) C d_Dr_hasThePartsOf_62 (by decide) ?_
        cases h
        exact r_iret (pc := 63) C hr rfl rfl rfl d_Dr_hasThePartsOf_63
      · replace h := iN c601 h
        refine r_iconst (pc := 33) (v := 0) C d_Dr_hasThePartsOf_33 (by decide) ?_
        cases h
        exact r_iret (pc := 34) C hr rfl rfl rfl d_Dr_hasThePartsOf_34
def bd_Re_partLeftAt_4 (d : DD) (o : (Nat → Int32)) (kx : Int32 × Int32 × Int32 → Option (Int32)) (rec : Int32 × Int32 × Int32 → Option (Int32)) (z : Int32 × Int32 × Int32) : Option (Int32) :=
  Option.bind (f_Dr_partCount d) (fun q604 => (if q604 ≤ z.2.2 then kx (z.1, z.2.1, z.2.2) else Option.bind (f_Re_isLeft d o z.2.2) (fun q605 => (if q605 = 0 then rec (z.1, z.2.1, z.2.2 + 1) else (if z.2.1 = z.1 then some z.2.2 else rec (z.1, z.2.1 + 1, z.2.2 + 1))))))
def f_Re_partLeftAt (d : DD) (o : (Nat → Int32)) (p0 : Int32) : Option (Int32) :=
  (itn (bd_Re_partLeftAt_4 d o (fun z614 => some (-1))) 70 (p0, 0, 0))
abbrev rm_Re_partLeftAt : Room := { frames := 2, cells := 0, slots := 0, locals := 42 }
theorem hd_Re_partLeftAt : y_Re_partLeftAt.cls ≠ "java/lang/invoke/MethodHandle" ∧ y_Re_partLeftAt.cls ≠ "java/lang/invoke/VarHandle" ∧ (parseMethodDescriptor y_Re_partLeftAt.desc).map (fun d => d.parameters.length) = some 1 := by decide +kernel
set_option maxHeartbeats 4000000 in
set_option maxRecDepth 100000 in
theorem vl_Re_partLeftAt_4_R {l : Launch} {E : State → Heap → Prop} {D : va_G} {A : Nat → Prop} {cI cZ cJ : ClassId} (hE : stb A E) {ad : Nat → Nat} {x : Int32} {s : Int64} {d : DD} {o : (Nat → Int32)} {t : TT} {s2 : Int64} {d2 : DD} {rest : va_W} {p : Program} {e : Env} {sg : State} {m : MethodId} {args : Array Value} {below : List Frame} {meth : Method} {c : Code} (C : cx p sg m args meth c D clsA (TY cI cZ cJ) A GG R_Re b_Re_partLeftAt 4) (hr : meth.sig.returnType = (some .int)) (hX : E sg sg.heap) {q : Int32} {kx : Int32 × Int32 × Int32 → Option (Int32)} (K : ∀ z : Int32 × Int32 × Int32, kx z = some q → vv p l e rm_Re_partLeftAt sg m args below meth c D clsA A 4 0 0 (MQ below (qcI D clsA A (some (.int q)) (WC ad cI cZ x s d o t s2 d2 rest)) args sg rm_Re_partLeftAt.cells rm_Re_partLeftAt.slots A) 39 [(0, .ref (ad 13)), (1, .int z.1), (2, .int z.2.1), (3, .int z.2.2)] [] (WC ad cI cZ x s d o t s2 d2 rest)) :
    ∀ (n : Nat) (z : Int32 × Int32 × Int32), itn (bd_Re_partLeftAt_4 d o kx) n z = some q → vv p l e rm_Re_partLeftAt sg m args below meth c D clsA A 4 0 0 (MQ below (qcI D clsA A (some (.int q)) (WC ad cI cZ x s d o t s2 d2 rest)) args sg rm_Re_partLeftAt.cells rm_Re_partLeftAt.slots A) 4 [(0, .ref (ad 13)), (1, .int z.1), (2, .int z.2.1), (3, .int z.2.2)] [] (WC ad cI cZ x s d o t s2 d2 rest) := by
  have _ := hE
  intro n
  induction n with
  | zero => intro z h; cases h
  | succ n ih =>
    intro z h
    obtain ⟨zv0, zv1, zv2⟩ := z
    replace h : bd_Re_partLeftAt_4 d o kx (itn (bd_Re_partLeftAt_4 d o kx) n) (zv0, zv1, zv2) = some q := h
    unfold bd_Re_partLeftAt_4 at h
    (try dsimp only at h)
    show vv p l e rm_Re_partLeftAt sg m args below meth c D clsA A 4 0 0 (MQ below (qcI D clsA A (some (.int q)) (WC ad cI cZ x s d o t s2 d2 rest)) args sg rm_Re_partLeftAt.cells rm_Re_partLeftAt.slots A) 4 [(0, .ref (ad 13)), (1, .int zv0), (2, .int zv1), (3, .int zv2)] [] (WC ad cI cZ x s d o t s2 d2 rest)
    refine r_iload_n (pc := 4) C d_Re_partLeftAt_4 rfl 3 rfl ?_
    refine r_aload_n (pc := 5) C d_Re_partLeftAt_5 rfl 0 rfl ?_
    refine r_get (pc := 6) (v := .ref (ad 19)) C hin_Re 13 rfl rfl 0 (by decide) m_7 rfl rfl d_Re_partLeftAt_6 ?_
    obtain ⟨q609, hq609, h⟩ := ob h
    refine r_callV (pc := 9) (As := []) (rest := [.int zv2]) (st1 := [.int q609, .int zv2]) hE gg_good C hX (c_Dr_partCount_D hE hq609) m_147 m_97 m_98 m_12 m_99 hd_Dr_partCount 19 rfl rfl ⟨⟨(Nat.le_of_ble_eq_true rfl), (Nat.le_of_ble_eq_true rfl)⟩, (Nat.le_of_ble_eq_true rfl), (Nat.le_of_ble_eq_true rfl)⟩ (Nat.le_of_ble_eq_true rfl) rfl rfl d_Re_partLeftAt_9 ?_
    refine r_icmp_ge (pc := 12) (tgt := 39) C d_Re_partLeftAt_12 (by decide) (fun c613 => ?_) (fun c613 => ?_)
    · replace h := ip c613 h
      refine r_loc (lv' := [(0, .ref (ad 13)), (1, .int zv0), (2, .int zv1), (3, .int zv2)]) [0, 1, 2, 3] rfl ?_
      exact K (zv0, zv1, zv2) h
    · replace h := iN c613 h
      refine r_aload_n (pc := 15) C d_Re_partLeftAt_15 rfl 0 rfl ?_
      refine r_iload_n (pc := 16) C d_Re_partLeftAt_16 rfl 3 rfl ?_
      obtain ⟨q610, hq610, h⟩ := ob h
      refine r_callV (pc := 17) (As := [.int zv2]) (rest := []) (st1 := [.int q610]) hE gg_good C hX (c_Re_isLeft_R hE hq610) m_19 m_20 m_21 m_22 m_23 hd_Re_isLeft 13 rfl rfl ⟨⟨(Nat.le_of_ble_eq_true rfl), (Nat.le_of_ble_eq_true rfl)⟩, (Nat.le_of_ble_eq_true rfl), (Nat.le_of_ble_eq_true rfl)⟩ (Nat.le_of_ble_eq_true rfl) rfl rfl d_Re_partLeftAt_17 ?_
      refine r_if_eq (pc := 20) (tgt := 33) C d_Re_partLeftAt_20 (by decide) (fun c612 => ?_) (fun c612 => ?_)
      · replace h := ip c612 h
        refine r_iincK (pc := 33) (w0 := 1) (lv' := [(3, .int (zv2 + 1)), (0, .ref (ad 13)), (1, .int zv0), (2, .int zv1)]) C d_Re_partLeftAt_33 (by decide) 3 rfl (by decide) rfl ?_
        refine r_goto (pc := 36) (tgt := 4) C d_Re_partLeftAt_36 (by decide) ?_
        refine r_loc (lv' := [(0, .ref (ad 13)), (1, .int zv0), (2, .int zv1), (3, .int (zv2 + 1))]) [1, 2, 3, 0] rfl ?_
        exact ih (zv0, zv1, zv2 + 1) h
      · replace h := iN c612 h
        refine r_iload_n (pc := 23) C d_Re_partLeftAt_23 rfl 2 rfl ?_
        refine r_iload_n (pc := 24) C d_Re_partLeftAt_24 rfl 1 rfl ?_
        refine r_icmp_ne (pc := 25) (tgt := 30) C d_Re_partLeftAt_25 (by decide) (fun c611 => ?_) (fun c611 => ?_)
        · replace h := iN c611 h
          refine r_iincK (pc := 30) (w0 := 1) (lv' := [(2, .int (zv1 + 1)), (0, .ref (ad 13)), (1, .int zv0), (3, .int zv2)]) C d_Re_partLeftAt_30 (by decide) 2 rfl (by decide) rfl ?_
          refine r_iincK (pc := 33) (w0 := 1) (lv' := [(3, .int (zv2 + 1)), (2, .int (zv1 + 1)), (0, .ref (ad 13)), (1, .int zv0)]) C d_Re_partLeftAt_33 (by decide) 3 rfl (by decide) rfl ?_
          refine r_goto (pc := 36) (tgt := 4) C d_Re_partLeftAt_36 (by decide) ?_
          refine r_loc (lv' := [(0, .ref (ad 13)), (1, .int zv0), (2, .int (zv1 + 1)), (3, .int (zv2 + 1))]) [2, 3, 1, 0] rfl ?_
          exact ih (zv0, zv1 + 1, zv2 + 1) h
        · replace h := ip c611 h
          refine r_iload_n (pc := 28) C d_Re_partLeftAt_28 rfl 3 rfl ?_
          cases h
          exact r_iret (pc := 29) C hr rfl rfl rfl d_Re_partLeftAt_29
set_option maxHeartbeats 4000000 in
set_option maxRecDepth 100000 in
theorem c_Re_partLeftAt_R {l : Launch} {E : State → Heap → Prop} {D : va_G} {A : Nat → Prop} {cI cZ cJ : ClassId} (hE : stb A E) {ad : Nat → Nat} {x : Int32} {s : Int64} {d : DD} {o : (Nat → Int32)} {t : TT} {s2 : Int64} {d2 : DD} {rest : va_W} {p0 : Int32} {q : Int32} (h : f_Re_partLeftAt d o p0 = some q) : cm l E D clsA (TY cI cZ cJ) A GG y_Re_partLeftAt b_Re_partLeftAt 4 (some .int) rm_Re_partLeftAt [.ref (ad 13), .int p0] (WC ad cI cZ x s d o t s2 d2 rest) (some (.int q)) (WC ad cI cZ x s d o t s2 d2 rest) := by
  refine r_met (own := R_Re) rfl (by decide) (Nat.le_of_ble_eq_true rfl) rfl ?_
  intro p e sg m args below meth c C hr hnm hX
  unfold f_Re_partLeftAt at h
  refine r_iconst (pc := 0) (v := 0) C d_Re_partLeftAt_0 (by decide) ?_
  refine r_istore_n (pc := 1) (lv' := [(2, .int (0)), (0, .ref (ad 13)), (1, .int p0)]) C d_Re_partLeftAt_1 rfl (by decide) rfl ?_
  refine r_iconst (pc := 2) (v := 0) C d_Re_partLeftAt_2 (by decide) ?_
  refine r_istore_n (pc := 3) (lv' := [(3, .int (0)), (2, .int (0)), (0, .ref (ad 13)), (1, .int p0)]) C d_Re_partLeftAt_3 rfl (by decide) rfl ?_
  refine r_loc (lv' := [(0, .ref (ad 13)), (1, .int p0), (2, .int (0)), (3, .int (0))]) [2, 3, 1, 0] rfl ?_
  refine vl_Re_partLeftAt_4_R hE C hr hX (fun z614 h => ?_) 70 (p0, 0, 0) h
  refine r_iconst (pc := 39) (v := (-1)) C d_Re_partLeftAt_39 (by decide) ?_
  cases h
  exact r_iret (pc := 40) C hr rfl rfl rfl d_Re_partLeftAt_40
set_option maxHeartbeats 4000000 in
set_option maxRecDepth 100000 in
theorem c_So_restart_S2 {l : Launch} {E : State → Heap → Prop} {D : va_G} {A : Nat → Prop} {cI cZ cJ : ClassId} (hE : stb A E) {ad : Nat → Nat} {x : Int32} {s : Int64} {d : DD} {o : (Nat → Int32)} {t : TT} {s2 : Int64} {d2 : DD} {rest : va_W} {p0 : Int64} {q : Int64} (h : f_So_restart p0 = some q) : cm l E D clsA (TY cI cZ cJ) A GG y_So_restart b_So_restart 3 none rm_So_restart [.ref (ad 6), .long p0] (WC ad cI cZ x s d o t s2 d2 rest) none (WC ad cI cZ x s d o t q d2 rest) := by
  refine r_met (own := R_So) rfl (by decide) (Nat.le_of_ble_eq_true rfl) rfl ?_
  intro p e sg m args below meth c C hr hnm hX
  unfold f_So_restart at h
  refine r_aload_n (pc := 0) C d_So_restart_0 rfl 0 rfl ?_
  refine r_lload_n (pc := 1) C d_So_restart_1 rfl 1 rfl ?_
  refine r_put (pc := 2) (ty := .long) (ws' := WC ad cI cZ x s d o t p0 d2 rest) C hin_So t_So t_So_ok n_So 6 rfl rfl 0 (by decide) m_141 rfl rfl pd_J rfl rfl (Nat.le_of_ble_eq_true rfl) rfl d_So_restart_2 ?_
  cases h
  exact r_vret (pc := 5) C hr rfl rfl d_So_restart_5
def f_Dr_numberOf (d : DD) (p0 : Int32) : Option (Int32) :=
  Option.bind (f_Dr_kindOf d p0) (fun q615 => (if q615 = 0 then some p0 else (if q615 = 1 then some (p0 - d.2.2.1) else some ((p0 - d.2.2.1) - d.2.2.2.1))))
abbrev rm_Dr_numberOf : Room := { frames := 1, cells := 0, slots := 0, locals := 21 }
theorem hd_Dr_numberOf : y_Dr_numberOf.cls ≠ "java/lang/invoke/MethodHandle" ∧ y_Dr_numberOf.cls ≠ "java/lang/invoke/VarHandle" ∧ (parseMethodDescriptor y_Dr_numberOf.desc).map (fun d => d.parameters.length) = some 1 := by decide +kernel
set_option maxHeartbeats 4000000 in
set_option maxRecDepth 100000 in
theorem c_Dr_numberOf_D {l : Launch} {E : State → Heap → Prop} {D : va_G} {A : Nat → Prop} {cI cZ cJ : ClassId} (hE : stb A E) {ad : Nat → Nat} {x : Int32} {s : Int64} {d : DD} {o : (Nat → Int32)} {t : TT} {s2 : Int64} {d2 : DD} {rest : va_W} {p0 : Int32} {q : Int32} (h : f_Dr_numberOf d p0 = some q) : cm l E D clsA (TY cI cZ cJ) A GG y_Dr_numberOf b_Dr_numberOf 2 (some .int) rm_Dr_numberOf [.ref (ad 19), .int p0] (WC ad cI cZ x s d o t s2 d2 rest) (some (.int q)) (WC ad cI cZ x s d o t s2 d2 rest) := by
  refine r_met (own := R_Dr) rfl (by decide) (Nat.le_of_ble_eq_true rfl) rfl ?_
  intro p e sg m args below meth c C hr hnm hX
  unfold f_Dr_numberOf at h
  refine r_aload_n (pc := 0) C d_Dr_numberOf_0 rfl 0 rfl ?_
  refine r_iload_n (pc := 1) C d_Dr_numberOf_1 rfl 1 rfl ?_
  obtain ⟨q615, hq615, h⟩ := ob h
  refine r_callV (pc := 2) (As := [.int p0]) (rest := []) (st1 := [.int q615]) hE gg_good C hX (c_Dr_kindOf_D hE hq615) m_203 m_37 m_38 m_12 m_39 hd_Dr_kindOf 19 rfl rfl ⟨⟨(Nat.le_of_ble_eq_true rfl), (Nat.le_of_ble_eq_true rfl)⟩, (Nat.le_of_ble_eq_true rfl), (Nat.le_of_ble_eq_true rfl)⟩ (Nat.le_of_ble_eq_true rfl) rfl rfl d_Dr_numberOf_2 ?_
  by_cases c616 : q615 = 0
  · replace h := ip c616 h
    refine r_lcase (pc := 5) (tgt := 32) C d_Dr_numberOf_5 c616 (by decide) rfl (by decide) ?_
    refine r_iload_n (pc := 32) C d_Dr_numberOf_32 rfl 1 rfl ?_
    cases h
    exact r_iret (pc := 33) C hr rfl rfl rfl d_Dr_numberOf_33
  replace h := iN c616 h
  by_cases c617 : q615 = 1
  · replace h := ip c617 h
    refine r_lcase (pc := 5) (tgt := 34) C d_Dr_numberOf_5 c617 (by decide) rfl (by decide) ?_
    refine r_iload_n (pc := 34) C d_Dr_numberOf_34 rfl 1 rfl ?_
    refine r_aload_n (pc := 35) C d_Dr_numberOf_35 rfl 0 rfl ?_
    refine r_get (pc := 36) (v := .int d.2.2.1) C hin_Dr 19 rfl rfl 2 (by decide) m_14 rfl rfl d_Dr_numberOf_36 ?_
    refine r_isub (pc := 39) C d_Dr_numberOf_39 ?_
    cases h
    exact r_iret (pc := 40) C hr rfl rfl rfl d_Dr_numberOf_40
  replace h := iN c617 h
  refine r_lookup (pc := 5) (off := 36) (tgt := 41) C d_Dr_numberOf_5 (by decide) (by show Op.lookupswitch.offset ([(0, 27), (1, 29)]) _ _ = _; rw [lv_osw c616 (by decide), lv_osw c617 (by decide)]; try rfl) (by decide) ?_
  refine r_iload_n (pc := 41) C d_Dr_numberOf_41 rfl 1 rfl ?_
  refine r_aload_n (pc := 42) C d_Dr_numberOf_42 rfl 0 rfl ?_
  refine r_get (pc := 43) (v := .int d.2.2.1) C hin_Dr 19 rfl rfl 2 (by decide) m_14 rfl rfl d_Dr_numberOf_43 ?_
  refine r_isub (pc := 46) C d_Dr_numberOf_46 ?_
  refine r_aload_n (pc := 47) C d_Dr_numberOf_47 rfl 0 rfl ?_
  refine r_get (pc := 48) (v := .int d.2.2.2.1) C hin_Dr 19 rfl rfl 3 (by decide) m_15 rfl rfl d_Dr_numberOf_48 ?_
  refine r_isub (pc := 51) C d_Dr_numberOf_51 ?_
  cases h
  exact r_iret (pc := 52) C hr rfl rfl rfl d_Dr_numberOf_52
def f_St_heaviestAt (d : DD) (t : TT) (p0 : Int32) : Option (Int32) :=
  Option.bind (f_Dr_hasPlace d p0) (fun q618 => (if q618 = 0 then some (0) else (if (p0 < 0 ∨ 6 ≤ p0.toNatClampNeg) then none else some (t.2.1 p0.toNatClampNeg))))
abbrev rm_St_heaviestAt : Room := { frames := 1, cells := 0, slots := 0, locals := 21 }
theorem hd_St_heaviestAt : y_St_heaviestAt.cls ≠ "java/lang/invoke/MethodHandle" ∧ y_St_heaviestAt.cls ≠ "java/lang/invoke/VarHandle" ∧ (parseMethodDescriptor y_St_heaviestAt.desc).map (fun d => d.parameters.length) = some 1 := by decide +kernel
set_option maxHeartbeats 4000000 in
set_option maxRecDepth 100000 in
theorem c_St_heaviestAt_T {l : Launch} {E : State → Heap → Prop} {D : va_G} {A : Nat → Prop} {cI cZ cJ : ClassId} (hE : stb A E) {ad : Nat → Nat} {x : Int32} {s : Int64} {d : DD} {o : (Nat → Int32)} {t : TT} {s2 : Int64} {d2 : DD} {rest : va_W} {p0 : Int32} {q : Int32} (h : f_St_heaviestAt d t p0 = some q) : cm l E D clsA (TY cI cZ cJ) A GG y_St_heaviestAt b_St_heaviestAt 2 (some .int) rm_St_heaviestAt [.ref (ad 10), .int p0] (WC ad cI cZ x s d o t s2 d2 rest) (some (.int q)) (WC ad cI cZ x s d o t s2 d2 rest) := by
  refine r_met (own := R_St) rfl (by decide) (Nat.le_of_ble_eq_true rfl) rfl ?_
  intro p e sg m args below meth c C hr hnm hX
  unfold f_St_heaviestAt at h
  refine r_aload_n (pc := 0) C d_St_heaviestAt_0 rfl 0 rfl ?_
  refine r_get (pc := 1) (v := .ref (ad 19)) C hin_St 10 rfl rfl 0 (by decide) m_4 rfl rfl d_St_heaviestAt_1 ?_
  refine r_iload_n (pc := 4) C d_St_heaviestAt_4 rfl 1 rfl ?_
  obtain ⟨q618, hq618, h⟩ := ob h
  refine r_callV (pc := 5) (As := [.int p0]) (rest := []) (st1 := [.int q618]) hE gg_good C hX (c_Dr_hasPlace_D hE hq618) m_59 m_60 m_61 m_12 m_62 hd_Dr_hasPlace 19 rfl rfl ⟨⟨(Nat.le_of_ble_eq_true rfl), (Nat.le_of_ble_eq_true rfl)⟩, (Nat.le_of_ble_eq_true rfl), (Nat.le_of_ble_eq_true rfl)⟩ (Nat.le_of_ble_eq_true rfl) rfl rfl d_St_heaviestAt_5 ?_
  refine r_if_eq (pc := 8) (tgt := 20) C d_St_heaviestAt_8 (by decide) (fun c620 => ?_) (fun c620 => ?_)
  · replace h := ip c620 h
    refine r_iconst (pc := 20) (v := 0) C d_St_heaviestAt_20 (by decide) ?_
    cases h
    exact r_iret (pc := 21) C hr rfl rfl rfl d_St_heaviestAt_21
  · replace h := iN c620 h
    refine r_aload_n (pc := 11) C d_St_heaviestAt_11 rfl 0 rfl ?_
    refine r_get (pc := 12) (v := .ref (ad 8)) C hin_St 10 rfl rfl 3 (by decide) m_2 rfl rfl d_St_heaviestAt_12 ?_
    refine r_iload_n (pc := 15) C d_St_heaviestAt_15 rfl 1 rfl ?_
    obtain ⟨hi619, h⟩ := ign h
    refine r_iald (pc := 16) C 8 0 rfl rfl hi619 d_St_heaviestAt_16 ?_
    refine r_goto (pc := 17) (tgt := 21) C d_St_heaviestAt_17 (by decide) ?_
    cases h
    exact r_iret (pc := 21) C hr rfl rfl rfl d_St_heaviestAt_21
