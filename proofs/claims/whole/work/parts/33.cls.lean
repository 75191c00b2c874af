def bd_SD_minimal_11 (x : Int32) (d : DD) (kx : Int32 × ((Nat → Int32)) × TT → Option (Int32 × ((Nat → Int32)) × TT)) (rec : Int32 × ((Nat → Int32)) × TT → Option (Int32 × ((Nat → Int32)) × TT)) (z : Int32 × ((Nat → Int32)) × TT) : Option (Int32 × ((Nat → Int32)) × TT) :=
  Option.bind (f_Dr_partCount d) (fun q307 => (if q307 ≤ z.1 then kx (z.1, z.2.1, z.2.2) else Option.bind (f_Re_isLeft d z.2.1 z.1) (fun q308 => (if q308 = 0 then rec (z.1 + 1, z.2.1, z.2.2) else Option.bind (f_SD_verdictIsMetWithout x d z.2.1 z.2.2 z.1) (fun q309 => (if q309.1 = 0 then rec (z.1 + 1, q309.2.1, q309.2.2) else some (0, q309.2.1, q309.2.2)))))))
def f_SD_minimal (x : Int32) (d : DD) (o : (Nat → Int32)) (t : TT) : Option (Int32 × ((Nat → Int32)) × TT) :=
  Option.bind (f_SD_verdictIsMet x d o t) (fun q306 => (if q306.1 = 0 then some (0, o, q306.2) else (itn (bd_SD_minimal_11 x d (fun z319 => some (1, z319.2.1, z319.2.2))) 70 (0, o, q306.2))))
abbrev rm_SD_minimal : Room := { frames := 6, cells := 0, slots := 0, locals := 131 }
theorem hd_SD_minimal : y_SD_minimal.cls ≠ "java/lang/invoke/MethodHandle" ∧ y_SD_minimal.cls ≠ "java/lang/invoke/VarHandle" ∧ (parseMethodDescriptor y_SD_minimal.desc).map (fun d => d.parameters.length) = some 0 := by decide +kernel
set_option maxHeartbeats 4000000 in
set_option maxRecDepth 100000 in
theorem vl_SD_minimal_11_X {l : Launch} {E : State → Heap → Prop} {D : va_G} {A : Nat → Prop} {cI cZ cJ : ClassId} (hE : stb A E) {ad : Nat → Nat} {x : Int32} {s : Int64} {d : DD} {s2 : Int64} {d2 : DD} {rest : va_W} {p : Program} {e : Env} {sg : State} {m : MethodId} {args : Array Value} {below : List Frame} {meth : Method} {c : Code} (C : cx p sg m args meth c D clsA (TY cI cZ cJ) A GG R_SD b_SD_minimal 2) (hr : meth.sig.returnType = (some .boolean)) (hX : E sg sg.heap) {q : Int32 × ((Nat → Int32)) × TT} {kx : Int32 × ((Nat → Int32)) × TT → Option (Int32 × ((Nat → Int32)) × TT)} (K : ∀ z : Int32 × ((Nat → Int32)) × TT, kx z = some q → vv p l e rm_SD_minimal sg m args below meth c D clsA A 2 0 0 (MQ below (qcI D clsA A (some (.int q.1)) (WC ad cI cZ x s d q.2.1 q.2.2 s2 d2 rest)) args sg rm_SD_minimal.cells rm_SD_minimal.slots A) 49 [(0, .ref (ad 20)), (1, .int z.1)] [] (WC ad cI cZ x s d z.2.1 z.2.2 s2 d2 rest)) :
    ∀ (n : Nat) (z : Int32 × ((Nat → Int32)) × TT), itn (bd_SD_minimal_11 x d kx) n z = some q → vv p l e rm_SD_minimal sg m args below meth c D clsA A 2 0 0 (MQ below (qcI D clsA A (some (.int q.1)) (WC ad cI cZ x s d q.2.1 q.2.2 s2 d2 rest)) args sg rm_SD_minimal.cells rm_SD_minimal.slots A) 11 [(0, .ref (ad 20)), (1, .int z.1)] [] (WC ad cI cZ x s d z.2.1 z.2.2 s2 d2 rest) := by
  have _ := hE
  intro n
  induction n with
  | zero => intro z h; cases h
  | succ n ih =>
    intro z h
    obtain ⟨zv0, zv1, zv2⟩ := z
    replace h : bd_SD_minimal_11 x d kx (itn (bd_SD_minimal_11 x d kx) n) (zv0, zv1, zv2) = some q := h
    unfold bd_SD_minimal_11 at h
    (try dsimp only at h)
    show vv p l e rm_SD_minimal sg m args below meth c D clsA A 2 0 0 (MQ below (qcI D clsA A (some (.int q.1)) (WC ad cI cZ x s d q.2.1 q.2.2 s2 d2 rest)) args sg rm_SD_minimal.cells rm_SD_minimal.slots A) 11 [(0, .ref (ad 20)), (1, .int zv0)] [] (WC ad cI cZ x s d zv1 zv2 s2 d2 rest)
    refine r_iload_n (pc := 11) C d_SD_minimal_11 rfl 1 rfl ?_
    refine r_aload_n (pc := 12) C d_SD_minimal_12 rfl 0 rfl ?_
    refine r_get (pc := 13) (v := .ref (ad 19)) C hin_SD 20 rfl rfl 1 (by decide) m_123 rfl rfl d_SD_minimal_13 ?_
    obtain ⟨q313, hq313, h⟩ := ob h
    refine r_callV (pc := 16) (As := []) (rest := [.int zv0]) (st1 := [.int q313, .int zv0]) hE gg_good C hX (c_Dr_partCount_D hE hq313) m_139 m_97 m_98 m_12 m_99 hd_Dr_partCount 19 rfl rfl ⟨⟨(Nat.le_of_ble_eq_true rfl), (Nat.le_of_ble_eq_true rfl)⟩, (Nat.le_of_ble_eq_true rfl), (Nat.le_of_ble_eq_true rfl)⟩ (Nat.le_of_ble_eq_true rfl) rfl rfl d_SD_minimal_16 ?_
    refine r_icmp_ge (pc := 19) (tgt := 49) C d_SD_minimal_19 (by decide) (fun c318 => ?_) (fun c318 => ?_)
    · replace h := ip c318 h
      refine r_loc (lv' := [(0, .ref (ad 20)), (1, .int zv0)]) [0, 1] rfl ?_
      exact K (zv0, zv1, zv2) h
    · replace h := iN c318 h
      refine r_aload_n (pc := 22) C d_SD_minimal_22 rfl 0 rfl ?_
      refine r_get (pc := 23) (v := .ref (ad 13)) C hin_SD 20 rfl rfl 2 (by decide) m_124 rfl rfl d_SD_minimal_23 ?_
      refine r_iload_n (pc := 26) C d_SD_minimal_26 rfl 1 rfl ?_
      obtain ⟨q314, hq314, h⟩ := ob h
      refine r_callV (pc := 27) (As := [.int zv0]) (rest := []) (st1 := [.int q314]) hE gg_good C hX (c_Re_isLeft_R hE hq314) m_138 m_20 m_21 m_22 m_23 hd_Re_isLeft 13 rfl rfl ⟨⟨(Nat.le_of_ble_eq_true rfl), (Nat.le_of_ble_eq_true rfl)⟩, (Nat.le_of_ble_eq_true rfl), (Nat.le_of_ble_eq_true rfl)⟩ (Nat.le_of_ble_eq_true rfl) rfl rfl d_SD_minimal_27 ?_
      refine r_if_eq (pc := 30) (tgt := 43) C d_SD_minimal_30 (by decide) (fun c317 => ?_) (fun c317 => ?_)
      · replace h := ip c317 h
        refine r_iincK (pc := 43) (w0 := 1) (lv' := [(1, .int (zv0 + 1)), (0, .ref (ad 20))]) C d_SD_minimal_43 (by decide) 1 rfl (by decide) rfl ?_
        refine r_goto (pc := 46) (tgt := 11) C d_SD_minimal_46 (by decide) ?_
        refine r_loc (lv' := [(0, .ref (ad 20)), (1, .int (zv0 + 1))]) [1, 0] rfl ?_
        exact ih (zv0 + 1, zv1, zv2) h
      · replace h := iN c317 h
        refine r_aload_n (pc := 33) C d_SD_minimal_33 rfl 0 rfl ?_
        refine r_iload_n (pc := 34) C d_SD_minimal_34 rfl 1 rfl ?_
        obtain ⟨q315, hq315, h⟩ := ob h
        refine r_callV (pc := 35) (As := [.int zv0]) (rest := []) (st1 := [.int q315.1]) hE gg_good C hX (c_SD_verdictIsMetWithout_X hE hq315) m_134 m_135 m_136 m_132 m_137 hd_SD_verdictIsMetWithout 20 rfl rfl ⟨⟨(Nat.le_of_ble_eq_true rfl), (Nat.le_of_ble_eq_true rfl)⟩, (Nat.le_of_ble_eq_true rfl), (Nat.le_of_ble_eq_true rfl)⟩ (Nat.le_of_ble_eq_true rfl) rfl rfl d_SD_minimal_35 ?_
        refine r_if_eq (pc := 38) (tgt := 43) C d_SD_minimal_38 (by decide) (fun c316 => ?_) (fun c316 => ?_)
        · replace h := ip c316 h
          refine r_iincK (pc := 43) (w0 := 1) (lv' := [(1, .int (zv0 + 1)), (0, .ref (ad 20))]) C d_SD_minimal_43 (by decide) 1 rfl (by decide) rfl ?_
          refine r_goto (pc := 46) (tgt := 11) C d_SD_minimal_46 (by decide) ?_
          refine r_loc (lv' := [(0, .ref (ad 20)), (1, .int (zv0 + 1))]) [1, 0] rfl ?_
          exact ih (zv0 + 1, q315.2.1, q315.2.2) h
        · replace h := iN c316 h
          refine r_iconst (pc := 41) (v := 0) C d_SD_minimal_41 (by decide) ?_
          cases h
          exact r_iret (pc := 42) C hr rfl rfl rfl d_SD_minimal_42
set_option maxHeartbeats 4000000 in
set_option maxRecDepth 100000 in
theorem c_SD_minimal_X {l : Launch} {E : State → Heap → Prop} {D : va_G} {A : Nat → Prop} {cI cZ cJ : ClassId} (hE : stb A E) {ad : Nat → Nat} {x : Int32} {s : Int64} {d : DD} {o : (Nat → Int32)} {t : TT} {s2 : Int64} {d2 : DD} {rest : va_W} {q : Int32 × ((Nat → Int32)) × TT} (h : f_SD_minimal x d o t = some q) : cm l E D clsA (TY cI cZ cJ) A GG y_SD_minimal b_SD_minimal 2 (some .boolean) rm_SD_minimal [.ref (ad 20)] (WC ad cI cZ x s d o t s2 d2 rest) (some (.int q.1)) (WC ad cI cZ x s d q.2.1 q.2.2 s2 d2 rest) := by
  refine r_met (own := R_SD) rfl (by decide) (Nat.le_of_ble_eq_true rfl) rfl ?_
  intro p e sg m args below meth c C hr hnm hX
  unfold f_SD_minimal at h
  refine r_aload_n (pc := 0) C d_SD_minimal_0 rfl 0 rfl ?_
  obtain ⟨q306, hq306, h⟩ := ob h
  refine r_callV (pc := 1) (As := []) (rest := []) (st1 := [.int q306.1]) hE gg_good C hX (c_SD_verdictIsMet_X hE hq306) m_129 m_130 m_131 m_132 m_133 hd_SD_verdictIsMet 20 rfl rfl ⟨⟨(Nat.le_of_ble_eq_true rfl), (Nat.le_of_ble_eq_true rfl)⟩, (Nat.le_of_ble_eq_true rfl), (Nat.le_of_ble_eq_true rfl)⟩ (Nat.le_of_ble_eq_true rfl) rfl rfl d_SD_minimal_1 ?_
  refine r_if_ne (pc := 4) (tgt := 9) C d_SD_minimal_4 (by decide) (fun c320 => ?_) (fun c320 => ?_)
  · replace h := iN c320 h
    refine r_iconst (pc := 9) (v := 0) C d_SD_minimal_9 (by decide) ?_
    refine r_istore_n (pc := 10) (lv' := [(1, .int (0)), (0, .ref (ad 20))]) C d_SD_minimal_10 rfl (by decide) rfl ?_
    refine r_loc (lv' := [(0, .ref (ad 20)), (1, .int (0))]) [1, 0] rfl ?_
    refine vl_SD_minimal_11_X hE C hr hX (fun z319 h => ?_) 70 (0, o, q306.2) h
    refine r_iconst (pc := 49) (v := 1) C d_SD_minimal_49 (by decide) ?_
    cases h
    exact r_iret (pc := 50) C hr rfl rfl rfl d_SD_minimal_50
  · replace h := ip c320 h
    refine r_iconst (pc := 7) (v := 0) C d_SD_minimal_7 (by decide) ?_
    cases h
    exact r_iret (pc := 8) C hr rfl rfl rfl d_SD_minimal_8
def f_SD_holds (x : Int32) (d : DD) (o : (Nat → Int32)) (t : TT) : Option (Int32 × TT) :=
  Option.bind (f_SD_verdictIsMet x d o t) (fun q323 => (if q323.1 = 0 ∨ q323.1 = 1 then some (q323.1, q323.2) else none))
abbrev rm_SD_holds : Room := { frames := 5, cells := 0, slots := 0, locals := 109 }
theorem hd_SD_holds : y_SD_holds.cls ≠ "java/lang/invoke/MethodHandle" ∧ y_SD_holds.cls ≠ "java/lang/invoke/VarHandle" ∧ (parseMethodDescriptor y_SD_holds.desc).map (fun d => d.parameters.length) = some 0 := by decide +kernel
set_option maxHeartbeats 4000000 in
set_option maxRecDepth 100000 in
theorem c_SD_holds_X {l : Launch} {E : State → Heap → Prop} {D : va_G} {A : Nat → Prop} {cI cZ cJ : ClassId} (hE : stb A E) {ad : Nat → Nat} {x : Int32} {s : Int64} {d : DD} {o : (Nat → Int32)} {t : TT} {s2 : Int64} {d2 : DD} {rest : va_W} {q : Int32 × TT} (h : f_SD_holds x d o t = some q) : cm l E D clsA (TY cI cZ cJ) A GG y_SD_holds b_SD_holds 1 (some .boolean) rm_SD_holds [.ref (ad 20)] (WC ad cI cZ x s d o t s2 d2 rest) (some (.int q.1)) (WC ad cI cZ x s d o q.2 s2 d2 rest) := by
  refine r_met (own := R_SD) rfl (by decide) (Nat.le_of_ble_eq_true rfl) rfl ?_
  intro p e sg m args below meth c C hr hnm hX
  unfold f_SD_holds at h
  refine r_aload_n (pc := 0) C d_SD_holds_0 rfl 0 rfl ?_
  obtain ⟨q323, hq323, h⟩ := ob h
  refine r_callV (pc := 1) (As := []) (rest := []) (st1 := [.int q323.1]) hE gg_good C hX (c_SD_verdictIsMet_X hE hq323) m_129 m_130 m_131 m_132 m_133 hd_SD_verdictIsMet 20 rfl rfl ⟨⟨(Nat.le_of_ble_eq_true rfl), (Nat.le_of_ble_eq_true rfl)⟩, (Nat.le_of_ble_eq_true rfl), (Nat.le_of_ble_eq_true rfl)⟩ (Nat.le_of_ble_eq_true rfl) rfl rfl d_SD_holds_1 ?_
  obtain ⟨hb324, h⟩ := ig h
  cases h
  exact r_iret (pc := 4) C hr (nb01 hb324) rfl rfl d_SD_holds_4
def f_SD_conditions (d : DD) (o : (Nat → Int32)) (t : TT) : Option (Int32 × TT) :=
  Option.bind (f_St_tell d o t) (fun q326 => some (q326.1, q326.2))
abbrev rm_SD_conditions : Room := { frames := 4, cells := 0, slots := 0, locals := 89 }
theorem hd_SD_conditions : y_SD_conditions.cls ≠ "java/lang/invoke/MethodHandle" ∧ y_SD_conditions.cls ≠ "java/lang/invoke/VarHandle" ∧ (parseMethodDescriptor y_SD_conditions.desc).map (fun d => d.parameters.length) = some 0 := by decide +kernel
set_option maxHeartbeats 4000000 in
set_option maxRecDepth 100000 in
theorem c_SD_conditions_X {l : Launch} {E : State → Heap → Prop} {D : va_G} {A : Nat → Prop} {cI cZ cJ : ClassId} (hE : stb A E) {ad : Nat → Nat} {x : Int32} {s : Int64} {d : DD} {o : (Nat → Int32)} {t : TT} {s2 : Int64} {d2 : DD} {rest : va_W} {q : Int32 × TT} (h : f_SD_conditions d o t = some q) : cm l E D clsA (TY cI cZ cJ) A GG y_SD_conditions b_SD_conditions 1 (some .int) rm_SD_conditions [.ref (ad 20)] (WC ad cI cZ x s d o t s2 d2 rest) (some (.int q.1)) (WC ad cI cZ x s d o q.2 s2 d2 rest) := by
  refine r_met (own := R_SD) rfl (by decide) (Nat.le_of_ble_eq_true rfl) rfl ?_
  intro p e sg m args below meth c C hr hnm hX
  unfold f_SD_conditions at h
  refine r_aload_n (pc := 0) C d_SD_conditions_0 rfl 0 rfl ?_
  refine r_get (pc := 1) (v := .ref (ad 10)) C hin_SD 20 rfl rfl 3 (by decide) m_117 rfl rfl d_SD_conditions_1 ?_
  obtain ⟨q326, hq326, h⟩ := ob h
  refine r_callV (pc := 4) (As := []) (rest := []) (st1 := [.int q326.1]) hE gg_good C hX (c_St_tell_T hE hq326) m_119 m_120 m_121 m_73 m_122 hd_St_tell 10 rfl rfl ⟨⟨(Nat.le_of_ble_eq_true rfl), (Nat.le_of_ble_eq_true rfl)⟩, (Nat.le_of_ble_eq_true rfl), (Nat.le_of_ble_eq_true rfl)⟩ (Nat.le_of_ble_eq_true rfl) rfl rfl d_SD_conditions_4 ?_
  cases h
  exact r_iret (pc := 7) C hr rfl rfl rfl d_SD_conditions_7
def f_So_restart (p0 : Int64) : Option (Int64) :=
  some p0
abbrev rm_So_restart : Room := { frames := 0, cells := 0, slots := 0, locals := 0 }
theorem hd_So_restart : y_So_restart.cls ≠ "java/lang/invoke/MethodHandle" ∧ y_So_restart.cls ≠ "java/lang/invoke/VarHandle" ∧ (parseMethodDescriptor y_So_restart.desc).map (fun d => d.parameters.length) = some 1 := by decide +kernel
set_option maxHeartbeats 4000000 in
set_option maxRecDepth 100000 in
theorem c_So_restart_S {l : Launch} {E : State → Heap → Prop} {D : va_G} {A : Nat → Prop} {cI cZ cJ : ClassId} (hE : stb A E) {ad : Nat → Nat} {x : Int32} {s : Int64} {d : DD} {o : (Nat → Int32)} {t : TT} {s2 : Int64} {d2 : DD} {rest : va_W} {p0 : Int64} {q : Int64} (h : f_So_restart p0 = some q) : cm l E D clsA (TY cI cZ cJ) A GG y_So_restart b_So_restart 3 none rm_So_restart [.ref (ad 11), .long p0] (WC ad cI cZ x s d o t s2 d2 rest) none (WC ad cI cZ x q d o t s2 d2 rest) := by
  refine r_met (own := R_So) rfl (by decide) (Nat.le_of_ble_eq_true rfl) rfl ?_
  intro p e sg m args below meth c C hr hnm hX
  unfold f_So_restart at h
  refine r_aload_n (pc := 0) C d_So_restart_0 rfl 0 rfl ?_
  refine r_lload_n (pc := 1) C d_So_restart_1 rfl 1 rfl ?_
  refine r_put (pc := 2) (ty := .long) (ws' := WC ad cI cZ x p0 d o t s2 d2 rest) C hin_So t_So t_So_ok n_So 11 rfl rfl 0 (by decide) m_141 rfl rfl pd_J rfl rfl (Nat.le_of_ble_eq_true rfl) rfl d_So_restart_2 ?_
  cases h
  exact r_vret (pc := 5) C hr rfl rfl d_So_restart_5
def f_SD_again (p0 : Int64) : Option (Int64) :=
  Option.bind (f_So_restart p0) (fun q328 => some q328)
abbrev rm_SD_again : Room := { frames := 1, cells := 0, slots := 0, locals := 22 }
theorem hd_SD_again : y_SD_again.cls ≠ "java/lang/invoke/MethodHandle" ∧ y_SD_again.cls ≠ "java/lang/invoke/VarHandle" ∧ (parseMethodDescriptor y_SD_again.desc).map (fun d => d.parameters.length) = some 1 := by decide +kernel
set_option maxHeartbeats 4000000 in
set_option maxRecDepth 100000 in
theorem c_SD_again_X {l : Launch} {E : State → Heap → Prop} {D : va_G} {A : Nat → Prop} {cI cZ cJ : ClassId} (hE : stb A E) {ad : Nat → Nat} {x : Int32} {s : Int64} {d : DD} {o : (Nat → Int32)} {t : TT} {s2 : Int64} {d2 : DD} {rest : va_W} {p0 : Int64} {q : Int64} (h : f_SD_again p0 = some q) : cm l E D clsA (TY cI cZ cJ) A GG y_SD_again b_SD_again 3 none rm_SD_again [.ref (ad 20), .long p0] (WC ad cI cZ x s d o t s2 d2 rest) none (WC ad cI cZ x q d o t s2 d2 rest) := by
  refine r_met (own := R_SD) rfl (by decide) (Nat.le_of_ble_eq_true rfl) rfl ?_
  intro p e sg m args below meth c C hr hnm hX
  unfold f_SD_again at h
  refine r_aload_n (pc := 0) C d_SD_again_0 rfl 0 rfl ?_
  refine r_get (pc := 1) (v := .ref (ad 11)) C hin_SD 20 rfl rfl 0 (by decide) m_140 rfl rfl d_SD_again_1 ?_
  refine r_lload_n (pc := 4) C d_SD_again_4 rfl 1 rfl ?_
  obtain ⟨q328, hq328, h⟩ := ob h
  refine r_callV (pc := 5) (As := [.long p0]) (rest := []) (st1 := []) hE gg_good C hX (c_So_restart_S hE hq328) m_142 m_143 m_144 m_145 m_146 hd_So_restart 11 rfl rfl ⟨⟨(Nat.le_of_ble_eq_true rfl), (Nat.le_of_ble_eq_true rfl)⟩, (Nat.le_of_ble_eq_true rfl), (Nat.le_of_ble_eq_true rfl)⟩ (Nat.le_of_ble_eq_true rfl) rfl rfl d_SD_again_5 ?_
  cases h
  exact r_vret (pc := 8) C hr rfl rfl d_SD_again_8
def bd_Re_leftCount_4 (d : DD) (o : (Nat → Int32)) (kx : Int32 × Int32 → Option (Int32)) (rec : Int32 × Int32 → Option (Int32)) (z : Int32 × Int32) : Option (Int32) :=
  Option.bind (f_Dr_partCount d) (fun q330 => (if q330 ≤ z.2 then kx (z.1, z.2) else Option.bind (f_Re_isLeft d o z.2) (fun q331 => (if q331 = 0 then rec (z.1, z.2 + 1) else rec (z.1 + 1, z.2 + 1)))))
def f_Re_leftCount (d : DD) (o : (Nat → Int32)) : Option (Int32) :=
  (itn (bd_Re_leftCount_4 d o (fun z338 => some z338.1)) 70 (0, 0))
abbrev rm_Re_leftCount : Room := { frames := 2, cells := 0, slots := 0, locals := 42 }
theorem hd_Re_leftCount : y_Re_leftCount.cls ≠ "java/lang/invoke/MethodHandle" ∧ y_Re_leftCount.cls ≠ "java/lang/invoke/VarHandle" ∧ (parseMethodDescriptor y_Re_leftCount.desc).map (fun d => d.parameters.length) = some 0 := by decide +kernel
set_option maxHeartbeats 4000000 in
set_option maxRecDepth 100000 in
theorem vl_Re_leftCount_4_R {l : Launch} {E : State → Heap → Prop} {D : va_G} {A : Nat → Prop} {cI cZ cJ : ClassId} (hE : stb A E) {ad : Nat → Nat} {x : Int32} {s : Int64} {d : DD} {o : (Nat → Int32)} {t : TT} {s2 : Int64} {d2 : DD} {rest : va_W} {p : Program} {e : Env} {sg : State} {m : MethodId} {args : Array Value} {below : List Frame} {meth : Method} {c : Code} (C : cx p sg m args meth c D clsA (TY cI cZ cJ) A GG R_Re b_Re_leftCount 3) (hr : meth.sig.returnType = (some .int)) (hX : E sg sg.heap) {q : Int32} {kx : Int32 × Int32 → Option (Int32)} (K : ∀ z : Int32 × Int32, kx z = some q → vv p l e rm_Re_leftCount sg m args below meth c D clsA A 3 0 0 (MQ below (qcI D clsA A (some (.int q)) (WC ad cI cZ x s d o t s2 d2 rest)) args sg rm_Re_leftCount.cells rm_Re_leftCount.slots A) 32 [(0, .ref (ad 13)), (1, .int z.1), (2, .int z.2)] [] (WC ad cI cZ x s d o t s2 d2 rest)) :
    ∀ (n : Nat) (z : Int32 × Int32), itn (bd_Re_leftCount_4 d o kx) n z = some q → vv p l e rm_Re_leftCount sg m args below meth c D clsA A 3 0 0 (MQ below (qcI D clsA A (some (.int q)) (WC ad cI cZ x s d o t s2 d2 rest)) args sg rm_Re_leftCount.cells rm_Re_leftCount.slots A) 4 [(0, .ref (ad 13)), (1, .int z.1), (2, .int z.2)] [] (WC ad cI cZ x s d o t s2 d2 rest) := by
  have _ := hE
  intro n
  induction n with
  | zero => intro z h; cases h
  | succ n ih =>
    intro z h
    obtain ⟨zv0, zv1⟩ := z
    replace h : bd_Re_leftCount_4 d o kx (itn (bd_Re_leftCount_4 d o kx) n) (zv0, zv1) = some q := h
    unfold bd_Re_leftCount_4 at h
    (try dsimp only at h)
    show vv p l e rm_Re_leftCount sg m args below meth c D clsA A 3 0 0 (MQ below (qcI D clsA A (some (.int q)) (WC ad cI cZ x s d o t s2 d2 rest)) args sg rm_Re_leftCount.cells rm_Re_leftCount.slots A) 4 [(0, .ref (ad 13)), (1, .int zv0), (2, .int zv1)] [] (WC ad cI cZ x s d o t s2 d2 rest)
    refine r_iload_n (pc := 4) C d_Re_leftCount_4 rfl 2 rfl ?_
    refine r_aload_n (pc := 5) C d_Re_leftCount_5 rfl 0 rfl ?_
    refine r_get (pc := 6) (v := .ref (ad 19)) C hin_Re 13 rfl rfl 0 (by decide) m_7 rfl rfl d_Re_leftCount_6 ?_
    obtain ⟨q334, hq334, h⟩ := ob h
    refine r_callV (pc := 9) (As := []) (rest := [.int zv1]) (st1 := [.int q334, .int zv1]) hE gg_good C hX (c_Dr_partCount_D hE hq334) m_147 m_97 m_98 m_12 m_99 hd_Dr_partCount 19 rfl rfl ⟨⟨(Nat.le_of_ble_eq_true rfl), (Nat.le_of_ble_eq_true rfl)⟩, (Nat.le_of_ble_eq_true rfl), (Nat.le_of_ble_eq_true rfl)⟩ (Nat.le_of_ble_eq_true rfl) rfl rfl d_Re_leftCount_9 ?_
    refine r_icmp_ge (pc := 12) (tgt := 32) C d_Re_leftCount_12 (by decide) (fun c337 => ?_) (fun c337 => ?_)
    · replace h := ip c337 h
      refine r_loc (lv' := [(0, .ref (ad 13)), (1, .int zv0), (2, .int zv1)]) [0, 1, 2] rfl ?_
      exact K (zv0, zv1) h
    · replace h := iN c337 h
      refine r_aload_n (pc := 15) C d_Re_leftCount_15 rfl 0 rfl ?_
      refine r_iload_n (pc := 16) C d_Re_leftCount_16 rfl 2 rfl ?_
      obtain ⟨q335, hq335, h⟩ := ob h
      refine r_callV (pc := 17) (As := [.int zv1]) (rest := []) (st1 := [.int q335]) hE gg_good C hX (c_Re_isLeft_R hE hq335) m_19 m_20 m_21 m_22 m_23 hd_Re_isLeft 13 rfl rfl ⟨⟨(Nat.le_of_ble_eq_true rfl), (Nat.le_of_ble_eq_true rfl)⟩, (Nat.le_of_ble_eq_true rfl), (Nat.le_of_ble_eq_true rfl)⟩ (Nat.le_of_ble_eq_true rfl) rfl rfl d_Re_leftCount_17 ?_
      refine r_if_eq (pc := 20) (tgt := 26) C d_Re_leftCount_20 (by decide) (fun c336 => ?_) (fun c336 => ?_)
      · replace h := ip c336 h
        refine r_iincK (pc := 26) (w0 := 1) (lv' := [(2, .int (zv1 + 1)), (0, .ref (ad 13)), (1, .int zv0)]) C d_Re_leftCount_26 (by decide) 2 rfl (by decide) rfl ?_
        refine r_goto (pc := 29) (tgt := 4) C d_Re_leftCount_29 (by decide) ?_
        refine r_loc (lv' := [(0, .ref (ad 13)), (1, .int zv0), (2, .int (zv1 + 1))]) [1, 2, 0] rfl ?_
        exact ih (zv0, zv1 + 1) h
      · replace h := iN c336 h
        refine r_iincK (pc := 23) (w0 := 1) (lv' := [(1, .int (zv0 + 1)), (0, .ref (ad 13)), (2, .int zv1)]) C d_Re_leftCount_23 (by decide) 1 rfl (by decide) rfl ?_
        refine r_iincK (pc := 26) (w0 := 1) (lv' := [(2, .int (zv1 + 1)), (1, .int (zv0 + 1)), (0, .ref (ad 13))]) C d_Re_leftCount_26 (by decide) 2 rfl (by decide) rfl ?_
        refine r_goto (pc := 29) (tgt := 4) C d_Re_leftCount_29 (by decide) ?_
        refine r_loc (lv' := [(0, .ref (ad 13)), (1, .int (zv0 + 1)), (2, .int (zv1 + 1))]) [2, 1, 0] rfl ?_
        exact ih (zv0 + 1, zv1 + 1) h
set_option maxHeartbeats 4000000 in
set_option maxRecDepth 100000 in
theorem c_Re_leftCount_R {l : Launch} {E : State → Heap → Prop} {D : va_G} {A : Nat → Prop} {cI cZ cJ : ClassId} (hE : stb A E) {ad : Nat → Nat} {x : Int32} {s : Int64} {d : DD} {o : (Nat → Int32)} {t : TT} {s2 : Int64} {d2 : DD} {rest : va_W} {q : Int32} (h : f_Re_leftCount d o = some q) : cm l E D clsA (TY cI cZ cJ) A GG y_Re_leftCount b_Re_leftCount 3 (some .int) rm_Re_leftCount [.ref (ad 13)] (WC ad cI cZ x s d o t s2 d2 rest) (some (.int q)) (WC ad cI cZ x s d o t s2 d2 rest) := by
  refine r_met (own := R_Re) rfl (by decide) (Nat.le_of_ble_eq_true rfl) rfl ?_
  intro p e sg m args below meth c C hr hnm hX
  unfold f_Re_leftCount at h
  refine r_iconst (pc := 0) (v := 0) C d_Re_leftCount_0 (by decide) ?_
  refine r_istore_n (pc := 1) (lv' := [(1, .int (0)), (0, .ref (ad 13))]) C d_Re_leftCount_1 rfl (by decide) rfl ?_
  refine r_iconst (pc := 2) (v := 0) C d_Re_leftCount_2 (by decide) ?_
  refine r_istore_n (pc := 3) (lv' := [(2, .int (0)), (1, .int (0)), (0, .ref (ad 13))]) C d_Re_leftCount_3 rfl (by decide) rfl ?_
  refine r_loc (lv' := [(0, .ref (ad 13)), (1, .int (0)), (2, .int (0))]) [2, 1, 0] rfl ?_
  refine vl_Re_leftCount_4_R hE C hr hX (fun z338 h => ?_) 70 (0, 0) h
  refine r_iload_n (pc := 32) C d_Re_leftCount_32 rfl 1 rfl ?_
  cases h
  exact r_iret (pc := 33) C hr rfl rfl rfl d_Re_leftCount_33
def bd_Re_takeAllBack_2 (kx : Int32 × ((Nat → Int32)) → Option ((Nat → Int32))) (rec : Int32 × ((Nat → Int32)) → Option ((Nat → Int32))) (z : Int32 × ((Nat → Int32))) : Option ((Nat → Int32)) :=
  (if (30 : Int32) ≤ z.1 then kx (z.1, z.2) else (if (z.1 < 0 ∨ 30 ≤ z.1.toNatClampNeg) then none else rec (z.1 + 1, upd z.2 z.1.toNatClampNeg (vp_nar .boolean (0)))))
def f_Re_takeAllBack (o : (Nat → Int32)) : Option ((Nat → Int32)) :=
  (itn (bd_Re_takeAllBack_2 (fun z349 => some z349.2)) 70 (0, o))
abbrev rm_Re_takeAllBack : Room := { frames := 0, cells := 0, slots := 0, locals := 0 }
theorem hd_Re_takeAllBack : y_Re_takeAllBack.cls ≠ "java/lang/invoke/MethodHandle" ∧ y_Re_takeAllBack.cls ≠ "java/lang/invoke/VarHandle" ∧ (parseMethodDescriptor y_Re_takeAllBack.desc).map (fun d => d.parameters.length) = some 0 := by decide +kernel
set_option maxHeartbeats 4000000 in
set_option maxRecDepth 100000 in
theorem vl_Re_takeAllBack_2_R {l : Launch} {E : State → Heap → Prop} {D : va_G} {A : Nat → Prop} {cI cZ cJ : ClassId} (hE : stb A E) {ad : Nat → Nat} {x : Int32} {s : Int64} {d : DD} {t : TT} {s2 : Int64} {d2 : DD} {rest : va_W} {p : Program} {e : Env} {sg : State} {m : MethodId} {args : Array Value} {below : List Frame} {meth : Method} {c : Code} (C : cx p sg m args meth c D clsA (TY cI cZ cJ) A GG R_Re b_Re_takeAllBack 2) (hr : meth.sig.returnType = none) (hX : E sg sg.heap) {q : (Nat → Int32)} {kx : Int32 × ((Nat → Int32)) → Option ((Nat → Int32))} (K : ∀ z : Int32 × ((Nat → Int32)), kx z = some q → vv p l e rm_Re_takeAllBack sg m args below meth c D clsA A 2 0 0 (MQ below (qcI D clsA A none (WC ad cI cZ x s d q t s2 d2 rest)) args sg rm_Re_takeAllBack.cells rm_Re_takeAllBack.slots A) 21 [(0, .ref (ad 13)), (1, .int z.1)] [] (WC ad cI cZ x s d z.2 t s2 d2 rest)) :
    ∀ (n : Nat) (z : Int32 × ((Nat → Int32))), itn (bd_Re_takeAllBack_2 kx) n z = some q → vv p l e rm_Re_takeAllBack sg m args below meth c D clsA A 2 0 0 (MQ below (qcI D clsA A none (WC ad cI cZ x s d q t s2 d2 rest)) args sg rm_Re_takeAllBack.cells rm_Re_takeAllBack.slots A) 2 [(0, .ref (ad 13)), (1, .int z.1)] [] (WC ad cI cZ x s d z.2 t s2 d2 rest) := by
  have _ := hE
  intro n
  induction n with
  | zero => intro z h; cases h
  | succ n ih =>
    intro z h
    obtain ⟨zv0, zv1⟩ := z
    replace h : bd_Re_takeAllBack_2 kx (itn (bd_Re_takeAllBack_2 kx) n) (zv0, zv1) = some q := h
    unfold bd_Re_takeAllBack_2 at h
    (try dsimp only at h)
    show vv p l e rm_Re_takeAllBack sg m args below meth c D clsA A 2 0 0 (MQ below (qcI D clsA A none (WC ad cI cZ x s d q t s2 d2 rest)) args sg rm_Re_takeAllBack.cells rm_Re_takeAllBack.slots A) 2 [(0, .ref (ad 13)), (1, .int zv0)] [] (WC ad cI cZ x s d zv1 t s2 d2 rest)
    refine r_iload_n (pc := 2) C d_Re_takeAllBack_2 rfl 1 rfl ?_
    refine r_bipush (pc := 3) (v := 30) C d_Re_takeAllBack_3 (by decide) ?_
    refine r_icmp_ge (pc := 5) (tgt := 21) C d_Re_takeAllBack_5 (by decide) (fun c348 => ?_) (fun c348 => ?_)
    · replace h := ip c348 h
      refine r_loc (lv' := [(0, .ref (ad 13)), (1, .int zv0)]) [0, 1] rfl ?_
      exact K (zv0, zv1) h
    · replace h := iN c348 h
      refine r_aload_n (pc := 8) C d_Re_takeAllBack_8 rfl 0 rfl ?_
      refine r_get (pc := 9) (v := .ref (ad 12)) C hin_Re 13 rfl rfl 1 (by decide) m_8 rfl rfl d_Re_takeAllBack_9 ?_
      refine r_iload_n (pc := 12) C d_Re_takeAllBack_12 rfl 1 rfl ?_
      refine r_iconst (pc := 13) (v := 0) C d_Re_takeAllBack_13 (by decide) ?_
      obtain ⟨hi347, h⟩ := ign h
      refine r_zast (pc := 14) (ws' := WC ad cI cZ x s d (upd zv1 zv0.toNatClampNeg (vp_nar .boolean (0))) t s2 d2 rest) C 12 1 rfl rfl hi347 rfl d_Re_takeAllBack_14 ?_
      refine r_iincK (pc := 15) (w0 := 1) (lv' := [(1, .int (zv0 + 1)), (0, .ref (ad 13))]) C d_Re_takeAllBack_15 (by decide) 1 rfl (by decide) rfl ?_
      refine r_goto (pc := 18) (tgt := 2) C d_Re_takeAllBack_18 (by decide) ?_
      refine r_loc (lv' := [(0, .ref (ad 13)), (1, .int (zv0 + 1))]) [1, 0] rfl ?_
      exact ih (zv0 + 1, upd zv1 zv0.toNatClampNeg (vp_nar .boolean (0))) h
set_option maxHeartbeats 4000000 in
set_option maxRecDepth 100000 in
theorem c_Re_takeAllBack_R {l : Launch} {E : State → Heap → Prop} {D : va_G} {A : Nat → Prop} {cI cZ cJ : ClassId} (hE : stb A E) {ad : Nat → Nat} {x : Int32} {s : Int64} {d : DD} {o : (Nat → Int32)} {t : TT} {s2 : Int64} {d2 : DD} {rest : va_W} {q : (Nat → Int32)} (h : f_Re_takeAllBack o = some q) : cm l E D clsA (TY cI cZ cJ) A GG y_Re_takeAllBack b_Re_takeAllBack 2 none rm_Re_takeAllBack [.ref (ad 13)] (WC ad cI cZ x s d o t s2 d2 rest) none (WC ad cI cZ x s d q t s2 d2 rest) := by
  refine r_met (own := R_Re) rfl (by decide) (Nat.le_of_ble_eq_true rfl) rfl ?_
  intro p e sg m args below meth c C hr hnm hX
  unfold f_Re_takeAllBack at h
  refine r_iconst (pc := 0) (v := 0) C d_Re_takeAllBack_0 (by decide) ?_
  refine r_istore_n (pc := 1) (lv' := [(1, .int (0)), (0, .ref (ad 13))]) C d_Re_takeAllBack_1 rfl (by decide) rfl ?_
  refine r_loc (lv' := [(0, .ref (ad 13)), (1, .int (0))]) [1, 0] rfl ?_
  refine vl_Re_takeAllBack_2_R hE C hr hX (fun z349 h => ?_) 70 (0, o) h
  cases h
  exact r_vret (pc := 21) C hr rfl rfl d_Re_takeAllBack_21
def f_SD_whole (d : DD) (o : (Nat → Int32)) : Option (Int32 × ((Nat → Int32))) :=
  Option.bind (f_Dr_partCount d) (fun q351 => Option.bind (f_Re_leftCount d o) (fun q352 => Option.bind (f_Re_takeAllBack o) (fun q353 => some (q351 - q352, q353))))
abbrev rm_SD_whole : Room := { frames := 3, cells := 0, slots := 0, locals := 64 }
theorem hd_SD_whole : y_SD_whole.cls ≠ "java/lang/invoke/MethodHandle" ∧ y_SD_whole.cls ≠ "java/lang/invoke/VarHandle" ∧ (parseMethodDescriptor y_SD_whole.desc).map (fun d => d.parameters.length) = some 0 := by decide +kernel
set_option maxHeartbeats 4000000 in
set_option maxRecDepth 100000 in
theorem c_SD_whole_X {l : Launch} {E : State → Heap → Prop} {D : va_G} {A : Nat → Prop} {cI cZ cJ : ClassId} (hE : stb A E) {ad : Nat → Nat} {x : Int32} {s : Int64} {d : DD} {o : (Nat → Int32)} {t : TT} {s2 : Int64} {d2 : DD} {rest : va_W} {q : Int32 × ((Nat → Int32))} (h : f_SD_whole d o = some q) : cm l E D clsA (TY cI cZ cJ) A GG y_SD_whole b_SD_whole 2 (some .int) rm_SD_whole [.ref (ad 20)] (WC ad cI cZ x s d o t s2 d2 rest) (some (.int q.1)) (WC ad cI cZ x s d q.2 t s2 d2 rest) := by
  refine r_met (own := R_SD) rfl (by decide) (Nat.le_of_ble_eq_true rfl) rfl ?_
  intro p e sg m args below meth c C hr hnm hX
  unfold f_SD_whole at h
  refine r_aload_n (pc := 0) C d_SD_whole_0 rfl 0 rfl ?_
  refine r_get (pc := 1) (v := .ref (ad 19)) C hin_SD 20 rfl rfl 1 (by decide) m_123 rfl rfl d_SD_whole_1 ?_
  obtain ⟨q351, hq351, h⟩ := ob h
  refine r_callV (pc := 4) (As := []) (rest := []) (st1 := [.int q351]) hE gg_good C hX (c_Dr_partCount_D hE hq351) m_139 m_97 m_98 m_12 m_99 hd_Dr_partCount 19 rfl rfl ⟨⟨(Nat.le_of_ble_eq_true rfl), (Nat.le_of_ble_eq_true rfl)⟩, (Nat.le_of_ble_eq_true rfl), (Nat.le_of_ble_eq_true rfl)⟩ (Nat.le_of_ble_eq_true rfl) rfl rfl d_SD_whole_4 ?_
  refine r_aload_n (pc := 7) C d_SD_whole_7 rfl 0 rfl ?_
  refine r_get (pc := 8) (v := .ref (ad 13)) C hin_SD 20 rfl rfl 2 (by decide) m_124 rfl rfl d_SD_whole_8 ?_
  obtain ⟨q352, hq352, h⟩ := ob h
  refine r_callV (pc := 11) (As := []) (rest := [.int q351]) (st1 := [.int q352, .int q351]) hE gg_good C hX (c_Re_leftCount_R hE hq352) m_152 m_153 m_154 m_22 m_155 hd_Re_leftCount 13 rfl rfl ⟨⟨(Nat.le_of_ble_eq_true rfl), (Nat.le_of_ble_eq_true rfl)⟩, (Nat.le_of_ble_eq_true rfl), (Nat.le_of_ble_eq_true rfl)⟩ (Nat.le_of_ble_eq_true rfl) rfl rfl d_SD_whole_11 ?_
  refine r_isub (pc := 14) C d_SD_whole_14 ?_
  refine r_istore_n (pc := 15) (lv' := [(1, .int (q351 - q352)), (0, .ref (ad 20))]) C d_SD_whole_15 rfl (by decide) rfl ?_
  refine r_aload_n (pc := 16) C d_SD_whole_16 rfl 1 rfl ?_
  refine r_get (pc := 17) (v := .ref (ad 13)) C hin_SD 20 rfl rfl 2 (by decide) m_124 rfl rfl d_SD_whole_17 ?_
  obtain ⟨q353, hq353, h⟩ := ob h
  refine r_callV (pc := 20) (As := []) (rest := []) (st1 := []) hE gg_good C hX (c_Re_takeAllBack_R hE hq353) m_148 m_149 m_150 m_22 m_151 hd_Re_takeAllBack 13 rfl rfl ⟨⟨(Nat.le_of_ble_eq_true rfl), (Nat.le_of_ble_eq_true rfl)⟩, (Nat.le_of_ble_eq_true rfl), (Nat.le_of_ble_eq_true rfl)⟩ (Nat.le_of_ble_eq_true rfl) rfl rfl d_SD_whole_20 ?_
  refine r_iload_n (pc := 23) C d_SD_whole_23 rfl 0 rfl ?_
  cases h
  exact r_iret (pc := 24) C hr rfl rfl rfl d_SD_whole_24
def f_So_below (s : Int64) (p0 : Int32) : Option (Int32 × Int64) :=
  (if (1 : Int32) ≤ p0 then (if p0.toInt64 = (0 : Int64) then none else some ((((((s * (6364136223846793005 : Int64)) + (1442695040888963407 : Int64)).toUInt64 >>> ((33 : Int32).toInt64.toUInt64 &&& Int64.toUInt64 63)).toInt64) - ((((s * (6364136223846793005 : Int64)) + (1442695040888963407 : Int64)).toUInt64 >>> ((33 : Int32).toInt64.toUInt64 &&& Int64.toUInt64 63)).toInt64) / p0.toInt64 * p0.toInt64).toInt32, (s * (6364136223846793005 : Int64)) + (1442695040888963407 : Int64))) else some (0, (s * (6364136223846793005 : Int64)) + (1442695040888963407 : Int64)))
abbrev rm_So_below : Room := { frames := 0, cells := 0, slots := 0, locals := 0 }
theorem hd_So_below : y_So_below.cls ≠ "java/lang/invoke/MethodHandle" ∧ y_So_below.cls ≠ "java/lang/invoke/VarHandle" ∧ (parseMethodDescriptor y_So_below.desc).map (fun d => d.parameters.length) = some 1 := by decide +kernel
set_option maxHeartbeats 4000000 in
set_option maxRecDepth 100000 in
theorem c_So_below_S {l : Launch} {E : State → Heap → Prop} {D : va_G} {A : Nat → Prop} {cI cZ cJ : ClassId} (hE : stb A E) {ad : Nat → Nat} {x : Int32} {s : Int64} {d : DD} {o : (Nat → Int32)} {t : TT} {s2 : Int64} {d2 : DD} {rest : va_W} {p0 : Int32} {q : Int32 × Int64} (h : f_So_below s p0 = some q) : cm l E D clsA (TY cI cZ cJ) A GG y_So_below b_So_below 2 (some .int) rm_So_below [.ref (ad 11), .int p0] (WC ad cI cZ x s d o t s2 d2 rest) (some (.int q.1)) (WC ad cI cZ x q.2 d o t s2 d2 rest) := by
  refine r_met (own := R_So) rfl (by decide) (Nat.le_of_ble_eq_true rfl) rfl ?_
  intro p e sg m args below meth c C hr hnm hX
  unfold f_So_below at h
  refine r_aload_n (pc := 0) C d_So_below_0 rfl 0 rfl ?_
  refine r_aload_n (pc := 1) C d_So_below_1 rfl 0 rfl ?_
  refine r_get (pc := 2) (v := .long s) C hin_So 11 rfl rfl 0 (by decide) m_141 rfl rfl d_So_below_2 ?_
  refine r_ldc2 (pc := 5) (v := 6364136223846793005) C m_157 d_So_below_5 ?_
  refine r_lmul (pc := 8) C d_So_below_8 ?_
  refine r_ldc2 (pc := 9) (v := 1442695040888963407) C m_158 d_So_below_9 ?_
  refine r_ladd (pc := 12) C d_So_below_12 ?_
  refine r_put (pc := 13) (ty := .long) (ws' := WC ad cI cZ x ((s * (6364136223846793005 : Int64)) + (1442695040888963407 : Int64)) d o t s2 d2 rest) C hin_So t_So t_So_ok n_So 11 rfl rfl 0 (by decide) m_141 rfl rfl pd_J rfl rfl (Nat.le_of_ble_eq_true rfl) rfl d_So_below_13 ?_
  refine r_iload_n (pc := 16) C d_So_below_16 rfl 1 rfl ?_
  refine r_iconst (pc := 17) (v := 1) C d_So_below_17 (by decide) ?_
  refine r_icmp_ge (pc := 18) (tgt := 25) C d_So_below_18 (by decide) (fun c357 => ?_) (fun c357 => ?_)
  · replace h := ip c357 h
    refine r_aload_n (pc := 25) C d_So_below_25 rfl 0 rfl ?_
    refine r_get (pc := 26) (v := .long ((s * (6364136223846793005 : Int64)) + (1442695040888963407 : Int64))) C hin_So 11 rfl rfl 0 (by decide) m_141 rfl rfl d_So_below_26 ?_
    refine r_bipush (pc := 29) (v := 33) C d_So_below_29 (by decide) ?_
    refine r_lushr (pc := 31) C d_So_below_31 ?_
    refine r_iload_n (pc := 32) C d_So_below_32 rfl 1 rfl ?_
    refine r_i2l (pc := 33) C d_So_below_33 ?_
    obtain ⟨hz356, h⟩ := ign h
    refine r_lrem (pc := 34) C d_So_below_34 hz356 ?_
    refine r_l2i (pc := 35) C d_So_below_35 ?_
    cases h
    exact r_iret (pc := 36) C hr rfl rfl rfl d_So_below_36
  · replace h := iN c357 h
    refine r_iconst (pc := 21) (v := 0) C d_So_below_21 (by decide) ?_
    refine r_goto (pc := 22) (tgt := 36) C d_So_below_22 (by decide) ?_
    cases h
    exact r_iret (pc := 36) C hr rfl rfl rfl d_So_below_36
def f_Dr_add (d : DD) (p0 : Int32) (p1 : Int32) (p2 : Int32) (p3 : Int32) (p4 : Int32) : Option (DD) :=
  (if d.2.1 < 0 then some d else (if d.2.1 < 30 then (if (d.2.1 < 0 ∨ 30 ≤ d.2.1.toNatClampNeg) then none else (if (d.2.1 < 0 ∨ 30 ≤ d.2.1.toNatClampNeg) then none else (if (d.2.1 < 0 ∨ 30 ≤ d.2.1.toNatClampNeg) then none else (if (d.2.1 < 0 ∨ 30 ≤ d.2.1.toNatClampNeg) then none else (if (d.2.1 < 0 ∨ 30 ≤ d.2.1.toNatClampNeg) then none else some (d.1, d.2.1 + (1 : Int32), d.2.2.1, d.2.2.2.1, upd d.2.2.2.2.1 d.2.1.toNatClampNeg p0, upd d.2.2.2.2.2.1 d.2.1.toNatClampNeg p1, upd d.2.2.2.2.2.2.1 d.2.1.toNatClampNeg p2, upd d.2.2.2.2.2.2.2.1 d.2.1.toNatClampNeg (vp_nar .boolean p3), upd d.2.2.2.2.2.2.2.2 d.2.1.toNatClampNeg (vp_nar .boolean p4))))))) else some d))
abbrev rm_Dr_add : Room := { frames := 0, cells := 0, slots := 0, locals := 0 }
theorem hd_Dr_add : y_Dr_add.cls ≠ "java/lang/invoke/MethodHandle" ∧ y_Dr_add.cls ≠ "java/lang/invoke/VarHandle" ∧ (parseMethodDescriptor y_Dr_add.desc).map (fun d => d.parameters.length) = some 5 := by decide +kernel
set_option maxHeartbeats 4000000 in
set_option maxRecDepth 100000 in
theorem c_Dr_add_D {l : Launch} {E : State → Heap → Prop} {D : va_G} {A : Nat → Prop} {cI cZ cJ : ClassId} (hE : stb A E) {ad : Nat → Nat} {x : Int32} {s : Int64} {d : DD} {o : (Nat → Int32)} {t : TT} {s2 : Int64} {d2 : DD} {rest : va_W} {p0 : Int32} {p1 : Int32} {p2 : Int32} {p3 : Int32} {p4 : Int32} {q : DD} (h : f_Dr_add d p0 p1 p2 p3 p4 = some q) : cm l E D clsA (TY cI cZ cJ) A GG y_Dr_add b_Dr_add 6 none rm_Dr_add [.ref (ad 19), .int p0, .int p1, .int p2, .int p3, .int p4] (WC ad cI cZ x s d o t s2 d2 rest) none (WC ad cI cZ x s q o t s2 d2 rest) := by
  refine r_met (own := R_Dr) rfl (by decide) (Nat.le_of_ble_eq_true rfl) rfl ?_
  intro p e sg m args below meth c C hr hnm hX
  unfold f_Dr_add at h
  refine r_aload_n (pc := 0) C d_Dr_add_0 rfl 0 rfl ?_
  refine r_get (pc := 1) (v := .int d.2.1) C hin_Dr 19 rfl rfl 1 (by decide) m_5 rfl rfl d_Dr_add_1 ?_
  refine r_if_lt (pc := 4) (tgt := 16) C d_Dr_add_4 (by decide) (fun c373 => ?_) (fun c373 => ?_)
  · replace h := ip c373 h
    cases h
    exact r_vret (pc := 16) C hr rfl rfl d_Dr_add_16
  · replace h := iN c373 h
    refine r_aload_n (pc := 7) C d_Dr_add_7 rfl 0 rfl ?_
    refine r_get (pc := 8) (v := .int d.2.1) C hin_Dr 19 rfl rfl 1 (by decide) m_5 rfl rfl d_Dr_add_8 ?_
    refine r_bipush (pc := 11) (v := 30) C d_Dr_add_11 (by decide) ?_
    refine r_icmp_lt (pc := 13) (tgt := 17) C d_Dr_add_13 (by decide) (fun c372 => ?_) (fun c372 => ?_)
    · replace h := ip c372 h
      refine r_aload_n (pc := 17) C d_Dr_add_17 rfl 0 rfl ?_
      refine r_get (pc := 18) (v := .ref (ad 18)) C hin_Dr 19 rfl rfl 4 (by decide) m_40 rfl rfl d_Dr_add_18 ?_
      refine r_aload_n (pc := 21) C d_Dr_add_21 rfl 0 rfl ?_
      refine r_get (pc := 22) (v := .int d.2.1) C hin_Dr 19 rfl rfl 1 (by decide) m_5 rfl rfl d_Dr_add_22 ?_
      refine r_iload_n (pc := 25) C d_Dr_add_25 rfl 1 rfl ?_
      obtain ⟨hi371, h⟩ := ign h
      refine r_iast (pc := 26) (ws' := WC ad cI cZ x s (d.1, d.2.1, d.2.2.1, d.2.2.2.1, upd d.2.2.2.2.1 d.2.1.toNatClampNeg p0, d.2.2.2.2.2.1, d.2.2.2.2.2.2.1, d.2.2.2.2.2.2.2.1, d.2.2.2.2.2.2.2.2) o t s2 d2 rest) C 18 0 rfl rfl hi371 rfl d_Dr_add_26 ?_
      refine r_aload_n (pc := 27) C d_Dr_add_27 rfl 0 rfl ?_
      refine r_get (pc := 28) (v := .ref (ad 17)) C hin_Dr 19 rfl rfl 5 (by decide) m_16 rfl rfl d_Dr_add_28 ?_
      refine r_aload_n (pc := 31) C d_Dr_add_31 rfl 0 rfl ?_
      refine r_get (pc := 32) (v := .int d.2.1) C hin_Dr 19 rfl rfl 1 (by decide) m_5 rfl rfl d_Dr_add_32 ?_
      refine r_iload_n (pc := 35) C d_Dr_add_35 rfl 2 rfl ?_
      obtain ⟨hi370, h⟩ := ign h
      refine r_iast (pc := 36) (ws' := WC ad cI cZ x s (d.1, d.2.1, d.2.2.1, d.2.2.2.1, upd d.2.2.2.2.1 d.2.1.toNatClampNeg p0, upd d.2.2.2.2.2.1 d.2.1.toNatClampNeg p1, d.2.2.2.2.2.2.1, d.2.2.2.2.2.2.2.1, d.2.2.2.2.2.2.2.2) o t s2 d2 rest) C 17 0 rfl rfl hi370 rfl d_Dr_add_36 ?_
      refine r_aload_n (pc := 37) C d_Dr_add_37 rfl 0 rfl ?_
      refine r_get (pc := 38) (v := .ref (ad 16)) C hin_Dr 19 rfl rfl 6 (by decide) m_18 rfl rfl d_Dr_add_38 ?_
      refine r_aload_n (pc := 41) C d_Dr_add_41 rfl 0 rfl ?_
      refine r_get (pc := 42) (v := .int d.2.1) C hin_Dr 19 rfl rfl 1 (by decide) m_5 rfl rfl d_Dr_add_42 ?_
      refine r_iload_n (pc := 45) C d_Dr_add_45 rfl 3 rfl ?_
      obtain ⟨hi369, h⟩ := ign h
      refine r_iast (pc := 46) (ws' := WC ad cI cZ x s (d.1, d.2.1, d.2.2.1, d.2.2.2.1, upd d.2.2.2.2.1 d.2.1.toNatClampNeg p0, upd d.2.2.2.2.2.1 d.2.1.toNatClampNeg p1, upd d.2.2.2.2.2.2.1 d.2.1.toNatClampNeg p2, d.2.2.2.2.2.2.2.1, d.2.2.2.2.2.2.2.2) o t s2 d2 rest) C 16 0 rfl rfl hi369 rfl d_Dr_add_46 ?_
      refine r_aload_n (pc := 47) C d_Dr_add_47 rfl 0 rfl ?_
      refine r_get (pc := 48) (v := .ref (ad 15)) C hin_Dr 19 rfl rfl 7 (by decide) m_41 rfl rfl d_Dr_add_48 ?_
      refine r_aload_n (pc := 51) C d_Dr_add_51 rfl 0 rfl ?_
      refine r_get (pc := 52) (v := .int d.2.1) C hin_Dr 19 rfl rfl 1 (by decide) m_5 rfl rfl d_Dr_add_52 ?_
      refine r_iload (pc := 55) C d_Dr_add_55 4 rfl ?_
      obtain ⟨hi368, h⟩ := ign h
      refine r_zast (pc := 57) (ws' := WC ad cI cZ x s (d.1, d.2.1, d.2.2.1, d.2.2.2.1, upd d.2.2.2.2.1 d.2.1.toNatClampNeg p0, upd d.2.2.2.2.2.1 d.2.1.toNatClampNeg p1, upd d.2.2.2.2.2.2.1 d.2.1.toNatClampNeg p2, upd d.2.2.2.2.2.2.2.1 d.2.1.toNatClampNeg (vp_nar .boolean p3), d.2.2.2.2.2.2.2.2) o t s2 d2 rest) C 15 1 rfl rfl hi368 rfl d_Dr_add_57 ?_
      refine r_aload_n (pc := 58) C d_Dr_add_58 rfl 0 rfl ?_
      refine r_get (pc := 59) (v := .ref (ad 14)) C hin_Dr 19 rfl rfl 8 (by decide) m_42 rfl rfl d_Dr_add_59 ?_
      refine r_aload_n (pc := 62) C d_Dr_add_62 rfl 0 rfl ?_
      refine r_get (pc := 63) (v := .int d.2.1) C hin_Dr 19 rfl rfl 1 (by decide) m_5 rfl rfl d_Dr_add_63 ?_
      refine r_iload (pc := 66) C d_Dr_add_66 5 rfl ?_
      obtain ⟨hi367, h⟩ := ign h
      refine r_zast (pc := 68) (ws' := WC ad cI cZ x s (d.1, d.2.1, d.2.2.1, d.2.2.2.1, upd d.2.2.2.2.1 d.2.1.toNatClampNeg p0, upd d.2.2.2.2.2.1 d.2.1.toNatClampNeg p1, upd d.2.2.2.2.2.2.1 d.2.1.toNatClampNeg p2, upd d.2.2.2.2.2.2.2.1 d.2.1.toNatClampNeg (vp_nar .boolean p3), upd d.2.2.2.2.2.2.2.2 d.2.1.toNatClampNeg (vp_nar .boolean p4)) o t s2 d2 rest) C 14 1 rfl rfl hi367 rfl d_Dr_add_68 ?_
      refine r_aload_n (pc := 69) C d_Dr_add_69 rfl 0 rfl ?_
      refine r_dup (pc := 70) C d_Dr_add_70 rfl ?_
      refine r_get (pc := 71) (v := .int d.2.1) C hin_Dr 19 rfl rfl 1 (by decide) m_5 rfl rfl d_Dr_add_71 ?_
      refine r_iconst (pc := 74) (v := 1) C d_Dr_add_74 (by decide) ?_
      refine r_iadd (pc := 75) C d_Dr_add_75 ?_
      refine r_put (pc := 76) (ty := .int) (ws' := WC ad cI cZ x s (d.1, d.2.1 + (1 : Int32), d.2.2.1, d.2.2.2.1, upd d.2.2.2.2.1 d.2.1.toNatClampNeg p0, upd d.2.2.2.2.2.1 d.2.1.toNatClampNeg p1, upd d.2.2.2.2.2.2.1 d.2.1.toNatClampNeg p2, upd d.2.2.2.2.2.2.2.1 d.2.1.toNatClampNeg (vp_nar .boolean p3), upd d.2.2.2.2.2.2.2.2 d.2.1.toNatClampNeg (vp_nar .boolean p4)) o t s2 d2 rest) C hin_Dr t_Dr t_Dr_ok n_Dr 19 rfl rfl 1 (by decide) m_5 rfl rfl pd_I rfl rfl (Nat.le_of_ble_eq_true rfl) rfl d_Dr_add_76 ?_
      cases h
      exact r_vret (pc := 79) C hr rfl rfl d_Dr_add_79
    · replace h := iN c372 h
      cases h
      exact r_vret (pc := 16) C hr rfl rfl d_Dr_add_16
def f_Dr_addThing (d : DD) (p0 : Int32) : Option (DD) :=
  Option.bind (f_Dr_add d p0 (-1) (-1) (0) (0)) (fun q375 => some q375)
abbrev rm_Dr_addThing : Room := { frames := 1, cells := 0, slots := 0, locals := 25 }
theorem hd_Dr_addThing : y_Dr_addThing.cls ≠ "java/lang/invoke/MethodHandle" ∧ y_Dr_addThing.cls ≠ "java/lang/invoke/VarHandle" ∧ (parseMethodDescriptor y_Dr_addThing.desc).map (fun d => d.parameters.length) = some 1 := by decide +kernel
set_option maxHeartbeats 4000000 in
set_option maxRecDepth 100000 in
theorem c_Dr_addThing_D {l : Launch} {E : State → Heap → Prop} {D : va_G} {A : Nat → Prop} {cI cZ cJ : ClassId} (hE : stb A E) {ad : Nat → Nat} {x : Int32} {s : Int64} {d : DD} {o : (Nat → Int32)} {t : TT} {s2 : Int64} {d2 : DD} {rest : va_W} {p0 : Int32} {q : DD} (h : f_Dr_addThing d p0 = some q) : cm l E D clsA (TY cI cZ cJ) A GG y_Dr_addThing b_Dr_addThing 2 none rm_Dr_addThing [.ref (ad 19), .int p0] (WC ad cI cZ x s d o t s2 d2 rest) none (WC ad cI cZ x s q o t s2 d2 rest) := by
  refine r_met (own := R_Dr) rfl (by decide) (Nat.le_of_ble_eq_true rfl) rfl ?_
  intro p e sg m args below meth c C hr hnm hX
  unfold f_Dr_addThing at h
  refine r_aload_n (pc := 0) C d_Dr_addThing_0 rfl 0 rfl ?_
  refine r_iload_n (pc := 1) C d_Dr_addThing_1 rfl 1 rfl ?_
  refine r_iconst (pc := 2) (v := (-1)) C d_Dr_addThing_2 (by decide) ?_
  refine r_iconst (pc := 3) (v := (-1)) C d_Dr_addThing_3 (by decide) ?_
  refine r_iconst (pc := 4) (v := 0) C d_Dr_addThing_4 (by decide) ?_
  refine r_iconst (pc := 5) (v := 0) C d_Dr_addThing_5 (by decide) ?_
  obtain ⟨q375, hq375, h⟩ := ob h
  refine r_callV (pc := 6) (As := [.int p0, .int (-1), .int (-1), .int (0), .int (0)]) (rest := []) (st1 := []) hE gg_good C hX (c_Dr_add_D hE hq375) m_159 m_160 m_161 m_12 m_162 hd_Dr_add 19 rfl rfl ⟨⟨(Nat.le_of_ble_eq_true rfl), (Nat.le_of_ble_eq_true rfl)⟩, (Nat.le_of_ble_eq_true rfl), (Nat.le_of_ble_eq_true rfl)⟩ (Nat.le_of_ble_eq_true rfl) rfl rfl d_Dr_addThing_6 ?_
  cases h
  exact r_vret (pc := 9) C hr rfl rfl d_Dr_addThing_9
