def f_Dr_addAct (s : Int64) (d : DD) : Option (Int64 × DD) :=
  Option.bind (f_So_below s d.2.2.1) (fun q404 => Option.bind (f_So_below q404.2 d.2.2.2.1) (fun q405 => Option.bind (f_So_below q405.2 (5)) (fun q406 => Option.bind (f_So_below q406.2 (3)) (fun q407 => (if q407.1 = 2 then Option.bind (f_So_below q407.2 (6)) (fun q412 => (if q412.1 = 0 then Option.bind (f_Dr_add d ((1 : Int32) + q406.1) q404.1 q405.1 (1) (1)) (fun q414 => some (q412.2, q414)) else Option.bind (f_Dr_add d ((1 : Int32) + q406.1) q404.1 q405.1 (1) (0)) (fun q413 => some (q412.2, q413)))) else Option.bind (f_So_below q407.2 (6)) (fun q408 => (if q408.1 = 0 then Option.bind (f_Dr_add d ((1 : Int32) + q406.1) q404.1 q405.1 (0) (1)) (fun q410 => some (q408.2, q410)) else Option.bind (f_Dr_add d ((1 : Int32) + q406.1) q404.1 q405.1 (0) (0)) (fun q409 => some (q408.2, q409)))))))))
abbrev rm_Dr_addAct : Room := { frames := 1, cells := 0, slots := 0, locals := 25 }
theorem hd_Dr_addAct : y_Dr_addAct.cls ≠ "java/lang/invoke/MethodHandle" ∧ y_Dr_addAct.cls ≠ "java/lang/invoke/VarHandle" ∧ (parseMethodDescriptor y_Dr_addAct.desc).map (fun d => d.parameters.length) = some 1 := by decide +kernel
set_option maxHeartbeats 4000000 in
set_option maxRecDepth 100000 in
theorem c_Dr_addAct_D {l : Launch} {E : State → Heap → Prop} {D : va_G} {A : Nat → Prop} {cI cZ cJ : ClassId} (hE : stb A E) {ad : Nat → Nat} {x : Int32} {s : Int64} {d : DD} {o : (Nat → Int32)} {t : TT} {s2 : Int64} {d2 : DD} {rest : va_W} {q : Int64 × DD} (h : f_Dr_addAct s d = some q) : cm l E D clsA (TY cI cZ cJ) A GG y_Dr_addAct b_Dr_addAct 7 none rm_Dr_addAct [.ref (ad 19), .ref (ad 11)] (WC ad cI cZ x s d o t s2 d2 rest) none (WC ad cI cZ x q.1 q.2 o t s2 d2 rest) := by
  refine r_met (own := R_Dr) rfl (by decide) (Nat.le_of_ble_eq_true rfl) rfl ?_
  intro p e sg m args below meth c C hr hnm hX
  unfold f_Dr_addAct at h
  refine r_aload_n (pc := 0) C d_Dr_addAct_0 rfl 1 rfl ?_
  refine r_aload_n (pc := 1) C d_Dr_addAct_1 rfl 0 rfl ?_
  refine r_get (pc := 2) (v := .int d.2.2.1) C hin_Dr 19 rfl rfl 2 (by decide) m_14 rfl rfl d_Dr_addAct_2 ?_
  obtain ⟨q404, hq404, h⟩ := ob h
  refine r_callV (pc := 5) (As := [.int d.2.2.1]) (rest := []) (st1 := [.int q404.1]) hE gg_good C hX (c_So_below_S hE hq404) m_167 m_168 m_169 m_145 m_170 hd_So_below 11 rfl rfl ⟨⟨(Nat.le_of_ble_eq_true rfl), (Nat.le_of_ble_eq_true rfl)⟩, (Nat.le_of_ble_eq_true rfl), (Nat.le_of_ble_eq_true rfl)⟩ (Nat.le_of_ble_eq_true rfl) rfl rfl d_Dr_addAct_5 ?_
  refine r_istore_n (pc := 8) (lv' := [(2, .int q404.1), (0, .ref (ad 19)), (1, .ref (ad 11))]) C d_Dr_addAct_8 rfl (by decide) rfl ?_
  refine r_aload_n (pc := 9) C d_Dr_addAct_9 rfl 2 rfl ?_
  refine r_aload_n (pc := 10) C d_Dr_addAct_10 rfl 1 rfl ?_
  refine r_get (pc := 11) (v := .int d.2.2.2.1) C hin_Dr 19 rfl rfl 3 (by decide) m_15 rfl rfl d_Dr_addAct_11 ?_
  obtain ⟨q405, hq405, h⟩ := ob h
  refine r_callV (pc := 14) (As := [.int d.2.2.2.1]) (rest := []) (st1 := [.int q405.1]) hE gg_good C hX (c_So_below_S hE hq405) m_167 m_168 m_169 m_145 m_170 hd_So_below 11 rfl rfl ⟨⟨(Nat.le_of_ble_eq_true rfl), (Nat.le_of_ble_eq_true rfl)⟩, (Nat.le_of_ble_eq_true rfl), (Nat.le_of_ble_eq_true rfl)⟩ (Nat.le_of_ble_eq_true rfl) rfl rfl d_Dr_addAct_14 ?_
  refine r_istore_n (pc := 17) (lv' := [(3, .int q405.1), (2, .int q404.1), (0, .ref (ad 19)), (1, .ref (ad 11))]) C d_Dr_addAct_17 rfl (by decide) rfl ?_
  refine r_iconst (pc := 18) (v := 1) C d_Dr_addAct_18 (by decide) ?_
  refine r_aload_n (pc := 19) C d_Dr_addAct_19 rfl 3 rfl ?_
  refine r_iconst (pc := 20) (v := 5) C d_Dr_addAct_20 (by decide) ?_
  obtain ⟨q406, hq406, h⟩ := ob h
  refine r_callV (pc := 21) (As := [.int (5)]) (rest := [.int (1)]) (st1 := [.int q406.1, .int (1)]) hE gg_good C hX (c_So_below_S hE hq406) m_167 m_168 m_169 m_145 m_170 hd_So_below 11 rfl rfl ⟨⟨(Nat.le_of_ble_eq_true rfl), (Nat.le_of_ble_eq_true rfl)⟩, (Nat.le_of_ble_eq_true rfl), (Nat.le_of_ble_eq_true rfl)⟩ (Nat.le_of_ble_eq_true rfl) rfl rfl d_Dr_addAct_21 ?_
  refine r_iadd (pc := 24) C d_Dr_addAct_24 ?_
  refine r_istore (pc := 25) (lv' := [(4, .int ((1 : Int32) + q406.1)), (3, .int q405.1), (2, .int q404.1), (0, .ref (ad 19)), (1, .ref (ad 11))]) C d_Dr_addAct_25 (by decide) rfl ?_
  refine r_aload_n (pc := 27) C d_Dr_addAct_27 rfl 4 rfl ?_
  refine r_iconst (pc := 28) (v := 3) C d_Dr_addAct_28 (by decide) ?_
  obtain ⟨q407, hq407, h⟩ := ob h
  refine r_callV (pc := 29) (As := [.int (3)]) (rest := []) (st1 := [.int q407.1]) hE gg_good C hX (c_So_below_S hE hq407) m_167 m_168 m_169 m_145 m_170 hd_So_below 11 rfl rfl ⟨⟨(Nat.le_of_ble_eq_true rfl), (Nat.le_of_ble_eq_true rfl)⟩, (Nat.le_of_ble_eq_true rfl), (Nat.le_of_ble_eq_true rfl)⟩ (Nat.le_of_ble_eq_true rfl) rfl rfl d_Dr_addAct_29 ?_
  refine r_iconst (pc := 32) (v := 2) C d_Dr_addAct_32 (by decide) ?_
  refine r_icmp_ne (pc := 33) (tgt := 40) C d_Dr_addAct_33 (by decide) (fun c416 => ?_) (fun c416 => ?_)
  · replace h := iN c416 h
    refine r_iconst (pc := 40) (v := 0) C d_Dr_addAct_40 (by decide) ?_
    refine r_istore (pc := 41) (lv' := [(5, .int (0)), (4, .int ((1 : Int32) + q406.1)), (3, .int q405.1), (2, .int q404.1), (0, .ref (ad 19)), (1, .ref (ad 11))]) C d_Dr_addAct_41 (by decide) rfl ?_
    refine r_aload_n (pc := 43) C d_Dr_addAct_43 rfl 5 rfl ?_
    refine r_bipush (pc := 44) (v := 6) C d_Dr_addAct_44 (by decide) ?_
    obtain ⟨q408, hq408, h⟩ := ob h
    refine r_callV (pc := 46) (As := [.int (6)]) (rest := []) (st1 := [.int q408.1]) hE gg_good C hX (c_So_below_S hE hq408) m_167 m_168 m_169 m_145 m_170 hd_So_below 11 rfl rfl ⟨⟨(Nat.le_of_ble_eq_true rfl), (Nat.le_of_ble_eq_true rfl)⟩, (Nat.le_of_ble_eq_true rfl), (Nat.le_of_ble_eq_true rfl)⟩ (Nat.le_of_ble_eq_true rfl) rfl rfl d_Dr_addAct_46 ?_
    refine r_if_ne (pc := 49) (tgt := 56) C d_Dr_addAct_49 (by decide) (fun c411 => ?_) (fun c411 => ?_)
    · replace h := iN c411 h
      refine r_iconst (pc := 56) (v := 0) C d_Dr_addAct_56 (by decide) ?_
      refine r_istore (pc := 57) (lv' := [(6, .int (0)), (5, .int (0)), (4, .int ((1 : Int32) + q406.1)), (3, .int q405.1), (2, .int q404.1), (0, .ref (ad 19)), (1, .ref (ad 11))]) C d_Dr_addAct_57 (by decide) rfl ?_
      refine r_aload_n (pc := 59) C d_Dr_addAct_59 rfl 5 rfl ?_
      refine r_iload (pc := 60) C d_Dr_addAct_60 2 rfl ?_
      refine r_iload_n (pc := 62) C d_Dr_addAct_62 rfl 4 rfl ?_
      refine r_iload_n (pc := 63) C d_Dr_addAct_63 rfl 3 rfl ?_
      refine r_iload (pc := 64) C d_Dr_addAct_64 1 rfl ?_
      refine r_iload (pc := 66) C d_Dr_addAct_66 0 rfl ?_
      obtain ⟨q409, hq409, h⟩ := ob h
      refine r_callV (pc := 68) (As := [.int ((1 : Int32) + q406.1), .int q404.1, .int q405.1, .int (0), .int (0)]) (rest := []) (st1 := []) hE gg_good C hX (c_Dr_add_D hE hq409) m_159 m_160 m_161 m_12 m_162 hd_Dr_add 19 rfl rfl ⟨⟨(Nat.le_of_ble_eq_true rfl), (Nat.le_of_ble_eq_true rfl)⟩, (Nat.le_of_ble_eq_true rfl), (Nat.le_of_ble_eq_true rfl)⟩ (Nat.le_of_ble_eq_true rfl) rfl rfl d_Dr_addAct_68 ?_
      cases h
      exact r_vret (pc := 71) C hr rfl rfl d_Dr_addAct_71
    · replace h := ip c411 h
      refine r_iconst (pc := 52) (v := 1) C d_Dr_addAct_52 (by decide) ?_
      refine r_goto (pc := 53) (tgt := 57) C d_Dr_addAct_53 (by decide) ?_
      refine r_istore (pc := 57) (lv' := [(6, .int (1)), (5, .int (0)), (4, .int ((1 : Int32) + q406.1)), (3, .int q405.1), (2, .int q404.1), (0, .ref (ad 19)), (1, .ref (ad 11))]) C d_Dr_addAct_57 (by decide) rfl ?_
      refine r_aload_n (pc := 59) C d_Dr_addAct_59 rfl 5 rfl ?_
      refine r_iload (pc := 60) C d_Dr_addAct_60 2 rfl ?_
      refine r_iload_n (pc := 62) C d_Dr_addAct_62 rfl 4 rfl ?_
      refine r_iload_n (pc := 63) C d_Dr_addAct_63 rfl 3 rfl ?_
      refine r_iload (pc := 64) C d_Dr_addAct_64 1 rfl ?_
      refine r_iload (pc := 66) C d_Dr_addAct_66 0 rfl ?_
      obtain ⟨q410, hq410, h⟩ := ob h
      refine r_callV (pc := 68) (As := [.int ((1 : Int32) + q406.1), .int q404.1, .int q405.1, .int (0), .int (1)]) (rest := []) (st1 := []) hE gg_good C hX (c_Dr_add_D hE hq410) m_159 m_160 m_161 m_12 m_162 hd_Dr_add 19 rfl rfl ⟨⟨(Nat.le_of_ble_eq_true rfl), (Nat.le_of_ble_eq_true rfl)⟩, (Nat.le_of_ble_eq_true rfl), (Nat.le_of_ble_eq_true rfl)⟩ (Nat.le_of_ble_eq_true rfl) rfl rfl d_Dr_addAct_68 ?_
      cases h
      exact r_vret (pc := 71) C hr rfl rfl d_Dr_addAct_71
  · replace h := ip c416 h
    refine r_iconst (pc := 36) (v := 1) C d_Dr_addAct_36 (by decide) ?_
    refine r_goto (pc := 37) (tgt := 41) C d_Dr_addAct_37 (by decide) ?_
    refine r_istore (pc := 41) (lv' := [(5, .int (1)), (4, .int ((1 : Int32) + q406.1)), (3, .int q405.1), (2, .int q404.1), (0, .ref (ad 19)), (1, .ref (ad 11))]) C d_Dr_addAct_41 (by decide) rfl ?_
    refine r_aload_n (pc := 43) C d_Dr_addAct_43 rfl 5 rfl ?_
    refine r_bipush (pc := 44) (v := 6) C d_Dr_addAct_44 (by decide) ?_
    obtain ⟨q412, hq412, h⟩ := ob h
    refine r_callV (pc := 46) (As := [.int (6)]) (rest := []) (st1 := [.int q412.1]) hE gg_good C hX (c_So_below_S hE hq412) m_167 m_168 m_169 m_145 m_170 hd_So_below 11 rfl rfl ⟨⟨(Nat.le_of_ble_eq_true rfl), (Nat.le_of_ble_eq_true rfl)⟩, (Nat.le_of_ble_eq_true rfl), (Nat.le_of_ble_eq_true rfl)⟩ (Nat.le_of_ble_eq_true rfl) rfl rfl d_Dr_addAct_46 ?_
    refine r_if_ne (pc := 49) (tgt := 56) C d_Dr_addAct_49 (by decide) (fun c415 => ?_) (fun c415 => ?_)
    · replace h := iN c415 h
      refine r_iconst (pc := 56) (v := 0) C d_Dr_addAct_56 (by decide) ?_
      refine r_istore (pc := 57) (lv' := [(6, .int (0)), (5, .int (1)), (4, .int ((1 : Int32) + q406.1)), (3, .int q405.1), (2, .int q404.1), (0, .ref (ad 19)), (1, .ref (ad 11))]) C d_Dr_addAct_57 (by decide) rfl ?_
      refine r_aload_n (pc := 59) C d_Dr_addAct_59 rfl 5 rfl ?_
      refine r_iload (pc := 60) C d_Dr_addAct_60 2 rfl ?_
      refine r_iload_n (pc := 62) C d_Dr_addAct_62 rfl 4 rfl ?_
      refine r_iload_n (pc := 63) C d_Dr_addAct_63 rfl 3 rfl ?_
      refine r_iload (pc := 64) C d_Dr_addAct_64 1 rfl ?_
      refine r_iload (pc := 66) C d_Dr_addAct_66 0 rfl ?_
      obtain ⟨q413, hq413, h⟩ := ob h
      refine r_callV (pc := 68) (As := [.int ((1 : Int32) + q406.1), .int q404.1, .int q405.1, .int (1), .int (0)]) (rest := []) (st1 := []) hE gg_good C hX (c_Dr_add_D hE hq413) m_159 m_160 m_161 m_12 m_162 hd_Dr_add 19 rfl rfl ⟨⟨(Nat.le_of_ble_eq_true rfl), (Nat.le_of_ble_eq_true rfl)⟩, (Nat.le_of_ble_eq_true rfl), (Nat.le_of_ble_eq_true rfl)⟩ (Nat.le_of_ble_eq_true rfl) rfl rfl d_Dr_addAct_68 ?_
      cases h
      exact r_vret (pc := 71) C hr rfl rfl d_Dr_addAct_71
    · replace h := ip c415 h
      refine r_iconst (pc := 52) (v := 1) C d_Dr_addAct_52 (by decide) ?_
      refine r_goto (pc := 53) (tgt := 57) C d_Dr_addAct_53 (by decide) ?_
      refine r_istore (pc := 57) (lv' := [(6, .int (1)), (5, .int (1)), (4, .int ((1 : Int32) + q406.1)), (3, .int q405.1), (2, .int q404.1), (0, .ref (ad 19)), (1, .ref (ad 11))]) C d_Dr_addAct_57 (by decide) rfl ?_
      refine r_aload_n (pc := 59) C d_Dr_addAct_59 rfl 5 rfl ?_
      refine r_iload (pc := 60) C d_Dr_addAct_60 2 rfl ?_
      refine r_iload_n (pc := 62) C d_Dr_addAct_62 rfl 4 rfl ?_
      refine r_iload_n (pc := 63) C d_Dr_addAct_63 rfl 3 rfl ?_
      refine r_iload (pc := 64) C d_Dr_addAct_64 1 rfl ?_
      refine r_iload (pc := 66) C d_Dr_addAct_66 0 rfl ?_
      obtain ⟨q414, hq414, h⟩ := ob h
      refine r_callV (pc := 68) (As := [.int ((1 : Int32) + q406.1), .int q404.1, .int q405.1, .int (1), .int (1)]) (rest := []) (st1 := []) hE gg_good C hX (c_Dr_add_D hE hq414) m_159 m_160 m_161 m_12 m_162 hd_Dr_add 19 rfl rfl ⟨⟨(Nat.le_of_ble_eq_true rfl), (Nat.le_of_ble_eq_true rfl)⟩, (Nat.le_of_ble_eq_true rfl), (Nat.le_of_ble_eq_true rfl)⟩ (Nat.le_of_ble_eq_true rfl) rfl rfl d_Dr_addAct_68 ?_
      cases h
      exact r_vret (pc := 71) C hr rfl rfl d_Dr_addAct_71
def bd_Dr_redraw_28 (kx : Int32 × Int32 × Int64 × DD → Option (Int64 × DD)) (rec : Int32 × Int32 × Int64 × DD → Option (Int64 × DD)) (z : Int32 × Int32 × Int64 × DD) : Option (Int64 × DD) :=
  (if z.2.2.2.2.2.1 ≤ z.2.1 then kx (z.1, z.2.1, z.2.2.1, z.2.2.2) else Option.bind (f_So_below z.2.2.1 (20)) (fun q423 => Option.bind (f_Dr_addThing z.2.2.2 ((4 : Int32) + q423.1)) (fun q424 => rec (z.1, z.2.1 + 1, q423.2, q424))))
def bd_Dr_redraw_72 (kx : Int32 × Int32 × Int64 × DD → Option (Int64 × DD)) (rec : Int32 × Int32 × Int64 × DD → Option (Int64 × DD)) (z : Int32 × Int32 × Int64 × DD) : Option (Int64 × DD) :=
  (if z.2.2.2.2.2.2.1 ≤ z.2.1 then kx (z.1, z.2.1, z.2.2.1, z.2.2.2) else Option.bind (f_So_below z.2.2.1 (6)) (fun q431 => Option.bind (f_Dr_addThing z.2.2.2 ((1 : Int32) + q431.1)) (fun q432 => rec (z.1, z.2.1 + 1, q431.2, q432))))
def bd_Dr_redraw_114 (kx : Int32 × Int32 × Int32 × Int64 × DD → Option (Int64 × DD)) (rec : Int32 × Int32 × Int32 × Int64 × DD → Option (Int64 × DD)) (z : Int32 × Int32 × Int32 × Int64 × DD) : Option (Int64 × DD) :=
  (if z.2.1 ≤ z.2.2.1 then kx (z.1, z.2.1, z.2.2.1, z.2.2.2.1, z.2.2.2.2) else Option.bind (f_Dr_addAct z.2.2.2.1 z.2.2.2.2) (fun q439 => rec (z.1, z.2.1, z.2.2.1 + 1, q439.1, q439.2)))
def f_Dr_redraw (s : Int64) (d : DD) (p1 : Int32) : Option (Int64 × DD) :=
  Option.bind (f_So_below s (p1 + (1 : Int32))) (fun q422 => (itn (bd_Dr_redraw_28 (fun z429 => Option.bind (f_So_below z429.2.2.1 (z429.2.2.2.1 + (1 : Int32))) (fun q430 => (itn (bd_Dr_redraw_72 (fun z437 => Option.bind (f_So_below z437.2.2.1 (4)) (fun q438 => (itn (bd_Dr_redraw_114 (fun z443 => some (z443.2.2.2.1, z443.2.2.2.2))) 70 (z437.1, ((3 : Int32) * z437.2.2.2.1) + q438.1, 0, q438.2, z437.2.2.2))))) 70 (z429.1, 0, q430.2, (z429.2.2.2.1, z429.2.2.2.2.1, z429.2.2.2.2.2.1, (1 : Int32) + q430.1, z429.2.2.2.2.2.2.2.1, z429.2.2.2.2.2.2.2.2.1, z429.2.2.2.2.2.2.2.2.2.1, z429.2.2.2.2.2.2.2.2.2.2.1, z429.2.2.2.2.2.2.2.2.2.2.2)))))) 70 (p1, 0, q422.2, (p1, 0, (1 : Int32) + q422.1, d.2.2.2.1, d.2.2.2.2.1, d.2.2.2.2.2.1, d.2.2.2.2.2.2.1, d.2.2.2.2.2.2.2.1, d.2.2.2.2.2.2.2.2))))
abbrev rm_Dr_redraw : Room := { frames := 2, cells := 0, slots := 0, locals := 51 }
theorem hd_Dr_redraw : y_Dr_redraw.cls ≠ "java/lang/invoke/MethodHandle" ∧ y_Dr_redraw.cls ≠ "java/lang/invoke/VarHandle" ∧ (parseMethodDescriptor y_Dr_redraw.desc).map (fun d => d.parameters.length) = some 2 := by decide +kernel
set_option maxHeartbeats 4000000 in
set_option maxRecDepth 100000 in
theorem vl_Dr_redraw_28_D {l : Launch} {E : State → Heap → Prop} {D : va_G} {A : Nat → Prop} {cI cZ cJ : ClassId} (hE : stb A E) {ad : Nat → Nat} {x : Int32} {o : (Nat → Int32)} {t : TT} {s2 : Int64} {d2 : DD} {rest : va_W} {p : Program} {e : Env} {sg : State} {m : MethodId} {args : Array Value} {below : List Frame} {meth : Method} {c : Code} (C : cx p sg m args meth c D clsA (TY cI cZ cJ) A GG R_Dr b_Dr_redraw 5) (hr : meth.sig.returnType = none) (hX : E sg sg.heap) {q : Int64 × DD} {kx : Int32 × Int32 × Int64 × DD → Option (Int64 × DD)} (K : ∀ z : Int32 × Int32 × Int64 × DD, kx z = some q → vv p l e rm_Dr_redraw sg m args below meth c D clsA A 5 0 0 (MQ below (qcI D clsA A none (WC ad cI cZ x q.1 q.2 o t s2 d2 rest)) args sg rm_Dr_redraw.cells rm_Dr_redraw.slots A) 54 [(0, .ref (ad 19)), (1, .ref (ad 11)), (2, .int z.1), (3, .int z.2.1)] [] (WC ad cI cZ x z.2.2.1 z.2.2.2 o t s2 d2 rest)) :
    ∀ (n : Nat) (z : Int32 × Int32 × Int64 × DD), itn (bd_Dr_redraw_28 kx) n z = some q → vv p l e rm_Dr_redraw sg m args below meth c D clsA A 5 0 0 (MQ below (qcI D clsA A none (WC ad cI cZ x q.1 q.2 o t s2 d2 rest)) args sg rm_Dr_redraw.cells rm_Dr_redraw.slots A) 28 [(0, .ref (ad 19)), (1, .ref (ad 11)), (2, .int z.1), (3, .int z.2.1)] [] (WC ad cI cZ x z.2.2.1 z.2.2.2 o t s2 d2 rest) := by
  have _ := hE
  intro n
  induction n with
  | zero => intro z h; cases h
  | succ n ih =>
    intro z h
    obtain ⟨zv0, zv1, zv2, zv3⟩ := z
    replace h : bd_Dr_redraw_28 kx (itn (bd_Dr_redraw_28 kx) n) (zv0, zv1, zv2, zv3) = some q := h
    unfold bd_Dr_redraw_28 at h
    (try dsimp only at h)
    show vv p l e rm_Dr_redraw sg m args below meth c D clsA A 5 0 0 (MQ below (qcI D clsA A none (WC ad cI cZ x q.1 q.2 o t s2 d2 rest)) args sg rm_Dr_redraw.cells rm_Dr_redraw.slots A) 28 [(0, .ref (ad 19)), (1, .ref (ad 11)), (2, .int zv0), (3, .int zv1)] [] (WC ad cI cZ x zv2 zv3 o t s2 d2 rest)
    refine r_iload_n (pc := 28) C d_Dr_redraw_28 rfl 3 rfl ?_
    refine r_aload_n (pc := 29) C d_Dr_redraw_29 rfl 0 rfl ?_
    refine r_get (pc := 30) (v := .int zv3.2.2.1) C hin_Dr 19 rfl rfl 2 (by decide) m_14 rfl rfl d_Dr_redraw_30 ?_
    refine r_icmp_ge (pc := 33) (tgt := 54) C d_Dr_redraw_33 (by decide) (fun c428 => ?_) (fun c428 => ?_)
    · replace h := ip c428 h
      refine r_loc (lv' := [(0, .ref (ad 19)), (1, .ref (ad 11)), (2, .int zv0), (3, .int zv1)]) [0, 1, 2, 3] rfl ?_
      exact K (zv0, zv1, zv2, zv3) h
    · replace h := iN c428 h
      refine r_aload_n (pc := 36) C d_Dr_redraw_36 rfl 0 rfl ?_
      refine r_iconst (pc := 37) (v := 4) C d_Dr_redraw_37 (by decide) ?_
      refine r_aload_n (pc := 38) C d_Dr_redraw_38 rfl 1 rfl ?_
      refine r_bipush (pc := 39) (v := 20) C d_Dr_redraw_39 (by decide) ?_
      obtain ⟨q426, hq426, h⟩ := ob h
      refine r_callV (pc := 41) (As := [.int (20)]) (rest := [.int (4), .ref (ad 19)]) (st1 := [.int q426.1, .int (4), .ref (ad 19)]) hE gg_good C hX (c_So_below_S hE hq426) m_167 m_168 m_169 m_145 m_170 hd_So_below 11 rfl rfl ⟨⟨(Nat.le_of_ble_eq_true rfl), (Nat.le_of_ble_eq_true rfl)⟩, (Nat.le_of_ble_eq_true rfl), (Nat.le_of_ble_eq_true rfl)⟩ (Nat.le_of_ble_eq_true rfl) rfl rfl d_Dr_redraw_41 ?_
      refine r_iadd (pc := 44) C d_Dr_redraw_44 ?_
      obtain ⟨q427, hq427, h⟩ := ob h
      refine r_callV (pc := 45) (As := [.int ((4 : Int32) + q426.1)]) (rest := []) (st1 := []) hE gg_good C hX (c_Dr_addThing_D hE hq427) m_163 m_164 m_165 m_12 m_166 hd_Dr_addThing 19 rfl rfl ⟨⟨(Nat.le_of_ble_eq_true rfl), (Nat.le_of_ble_eq_true rfl)⟩, (Nat.le_of_ble_eq_true rfl), (Nat.le_of_ble_eq_true rfl)⟩ (Nat.le_of_ble_eq_true rfl) rfl rfl d_Dr_redraw_45 ?_
      refine r_iincK (pc := 48) (w0 := 1) (lv' := [(3, .int (zv1 + 1)), (0, .ref (ad 19)), (1, .ref (ad 11)), (2, .int zv0)]) C d_Dr_redraw_48 (by decide) 3 rfl (by decide) rfl ?_
      refine r_goto (pc := 51) (tgt := 28) C d_Dr_redraw_51 (by decide) ?_
      refine r_loc (lv' := [(0, .ref (ad 19)), (1, .ref (ad 11)), (2, .int zv0), (3, .int (zv1 + 1))]) [1, 2, 3, 0] rfl ?_
      exact ih (zv0, zv1 + 1, q426.2, q427) h
set_option maxHeartbeats 4000000 in
set_option maxRecDepth 100000 in
theorem vl_Dr_redraw_72_D {l : Launch} {E : State → Heap → Prop} {D : va_G} {A : Nat → Prop} {cI cZ cJ : ClassId} (hE : stb A E) {ad : Nat → Nat} {x : Int32} {o : (Nat → Int32)} {t : TT} {s2 : Int64} {d2 : DD} {rest : va_W} {p : Program} {e : Env} {sg : State} {m : MethodId} {args : Array Value} {below : List Frame} {meth : Method} {c : Code} (C : cx p sg m args meth c D clsA (TY cI cZ cJ) A GG R_Dr b_Dr_redraw 5) (hr : meth.sig.returnType = none) (hX : E sg sg.heap) {q : Int64 × DD} {kx : Int32 × Int32 × Int64 × DD → Option (Int64 × DD)} (K : ∀ z : Int32 × Int32 × Int64 × DD, kx z = some q → vv p l e rm_Dr_redraw sg m args below meth c D clsA A 5 0 0 (MQ below (qcI D clsA A none (WC ad cI cZ x q.1 q.2 o t s2 d2 rest)) args sg rm_Dr_redraw.cells rm_Dr_redraw.slots A) 98 [(0, .ref (ad 19)), (1, .ref (ad 11)), (2, .int z.1), (3, .int z.2.1)] [] (WC ad cI cZ x z.2.2.1 z.2.2.2 o t s2 d2 rest)) :
    ∀ (n : Nat) (z : Int32 × Int32 × Int64 × DD), itn (bd_Dr_redraw_72 kx) n z = some q → vv p l e rm_Dr_redraw sg m args below meth c D clsA A 5 0 0 (MQ below (qcI D clsA A none (WC ad cI cZ x q.1 q.2 o t s2 d2 rest)) args sg rm_Dr_redraw.cells rm_Dr_redraw.slots A) 72 [(0, .ref (ad 19)), (1, .ref (ad 11)), (2, .int z.1), (3, .int z.2.1)] [] (WC ad cI cZ x z.2.2.1 z.2.2.2 o t s2 d2 rest) := by
  have _ := hE
  intro n
  induction n with
  | zero => intro z h; cases h
  | succ n ih =>
    intro z h
    obtain ⟨zv0, zv1, zv2, zv3⟩ := z
    replace h : bd_Dr_redraw_72 kx (itn (bd_Dr_redraw_72 kx) n) (zv0, zv1, zv2, zv3) = some q := h
    unfold bd_Dr_redraw_72 at h
    (try dsimp only at h)
    show vv p l e rm_Dr_redraw sg m args below meth c D clsA A 5 0 0 (MQ below (qcI D clsA A none (WC ad cI cZ x q.1 q.2 o t s2 d2 rest)) args sg rm_Dr_redraw.cells rm_Dr_redraw.slots A) 72 [(0, .ref (ad 19)), (1, .ref (ad 11)), (2, .int zv0), (3, .int zv1)] [] (WC ad cI cZ x zv2 zv3 o t s2 d2 rest)
    refine r_iload_n (pc := 72) C d_Dr_redraw_72 rfl 3 rfl ?_
    refine r_aload_n (pc := 73) C d_Dr_redraw_73 rfl 0 rfl ?_
    refine r_get (pc := 74) (v := .int zv3.2.2.2.1) C hin_Dr 19 rfl rfl 3 (by decide) m_15 rfl rfl d_Dr_redraw_74 ?_
    refine r_icmp_ge (pc := 77) (tgt := 98) C d_Dr_redraw_77 (by decide) (fun c436 => ?_) (fun c436 => ?_)
    · replace h := ip c436 h
      refine r_loc (lv' := [(0, .ref (ad 19)), (1, .ref (ad 11)), (2, .int zv0), (3, .int zv1)]) [0, 1, 2, 3] rfl ?_
      exact K (zv0, zv1, zv2, zv3) h
    · replace h := iN c436 h
      refine r_aload_n (pc := 80) C d_Dr_redraw_80 rfl 0 rfl ?_
      refine r_iconst (pc := 81) (v := 1) C d_Dr_redraw_81 (by decide) ?_
      refine r_aload_n (pc := 82) C d_Dr_redraw_82 rfl 1 rfl ?_
      refine r_bipush (pc := 83) (v := 6) C d_Dr_redraw_83 (by decide) ?_
      obtain ⟨q434, hq434, h⟩ := ob h
      refine r_callV (pc := 85) (As := [.int (6)]) (rest := [.int (1), .ref (ad 19)]) (st1 := [.int q434.1, .int (1), .ref (ad 19)]) hE gg_good C hX (c_So_below_S hE hq434) m_167 m_168 m_169 m_145 m_170 hd_So_below 11 rfl rfl ⟨⟨(Nat.le_of_ble_eq_true rfl), (Nat.le_of_ble_eq_true rfl)⟩, (Nat.le_of_ble_eq_true rfl), (Nat.le_of_ble_eq_true rfl)⟩ (Nat.le_of_ble_eq_true rfl) rfl rfl d_Dr_redraw_85 ?_
      refine r_iadd (pc := 88) C d_Dr_redraw_88 ?_
      obtain ⟨q435, hq435, h⟩ := ob h
      refine r_callV (pc := 89) (As := [.int ((1 : Int32) + q434.1)]) (rest := []) (st1 := []) hE gg_good C hX (c_Dr_addThing_D hE hq435) m_163 m_164 m_165 m_12 m_166 hd_Dr_addThing 19 rfl rfl ⟨⟨(Nat.le_of_ble_eq_true rfl), (Nat.le_of_ble_eq_true rfl)⟩, (Nat.le_of_ble_eq_true rfl), (Nat.le_of_ble_eq_true rfl)⟩ (Nat.le_of_ble_eq_true rfl) rfl rfl d_Dr_redraw_89 ?_
      refine r_iincK (pc := 92) (w0 := 1) (lv' := [(3, .int (zv1 + 1)), (0, .ref (ad 19)), (1, .ref (ad 11)), (2, .int zv0)]) C d_Dr_redraw_92 (by decide) 3 rfl (by decide) rfl ?_
      refine r_goto (pc := 95) (tgt := 72) C d_Dr_redraw_95 (by decide) ?_
      refine r_loc (lv' := [(0, .ref (ad 19)), (1, .ref (ad 11)), (2, .int zv0), (3, .int (zv1 + 1))]) [1, 2, 3, 0] rfl ?_
      exact ih (zv0, zv1 + 1, q434.2, q435) h
set_option maxHeartbeats 4000000 in
set_option maxRecDepth 100000 in
theorem vl_Dr_redraw_114_D {l : Launch} {E : State → Heap → Prop} {D : va_G} {A : Nat → Prop} {cI cZ cJ : ClassId} (hE : stb A E) {ad : Nat → Nat} {x : Int32} {o : (Nat → Int32)} {t : TT} {s2 : Int64} {d2 : DD} {rest : va_W} {p : Program} {e : Env} {sg : State} {m : MethodId} {args : Array Value} {below : List Frame} {meth : Method} {c : Code} (C : cx p sg m args meth c D clsA (TY cI cZ cJ) A GG R_Dr b_Dr_redraw 5) (hr : meth.sig.returnType = none) (hX : E sg sg.heap) {q : Int64 × DD} {kx : Int32 × Int32 × Int32 × Int64 × DD → Option (Int64 × DD)} (K : ∀ z : Int32 × Int32 × Int32 × Int64 × DD, kx z = some q → vv p l e rm_Dr_redraw sg m args below meth c D clsA A 5 0 0 (MQ below (qcI D clsA A none (WC ad cI cZ x q.1 q.2 o t s2 d2 rest)) args sg rm_Dr_redraw.cells rm_Dr_redraw.slots A) 131 [(0, .ref (ad 19)), (1, .ref (ad 11)), (2, .int z.1), (3, .int z.2.1), (4, .int z.2.2.1)] [] (WC ad cI cZ x z.2.2.2.1 z.2.2.2.2 o t s2 d2 rest)) :
    ∀ (n : Nat) (z : Int32 × Int32 × Int32 × Int64 × DD), itn (bd_Dr_redraw_114 kx) n z = some q → vv p l e rm_Dr_redraw sg m args below meth c D clsA A 5 0 0 (MQ below (qcI D clsA A none (WC ad cI cZ x q.1 q.2 o t s2 d2 rest)) args sg rm_Dr_redraw.cells rm_Dr_redraw.slots A) 114 [(0, .ref (ad 19)), (1, .ref (ad 11)), (2, .int z.1), (3, .int z.2.1), (4, .int z.2.2.1)] [] (WC ad cI cZ x z.2.2.2.1 z.2.2.2.2 o t s2 d2 rest) := by
  have _ := hE
  intro n
  induction n with
  | zero => intro z h; cases h
  | succ n ih =>
    intro z h
    obtain ⟨zv0, zv1, zv2, zv3, zv4⟩ := z
    replace h : bd_Dr_redraw_114 kx (itn (bd_Dr_redraw_114 kx) n) (zv0, zv1, zv2, zv3, zv4) = some q := h
    unfold bd_Dr_redraw_114 at h
    (try dsimp only at h)
    show vv p l e rm_Dr_redraw sg m args below meth c D clsA A 5 0 0 (MQ below (qcI D clsA A none (WC ad cI cZ x q.1 q.2 o t s2 d2 rest)) args sg rm_Dr_redraw.cells rm_Dr_redraw.slots A) 114 [(0, .ref (ad 19)), (1, .ref (ad 11)), (2, .int zv0), (3, .int zv1), (4, .int zv2)] [] (WC ad cI cZ x zv3 zv4 o t s2 d2 rest)
    refine r_iload (pc := 114) C d_Dr_redraw_114 4 rfl ?_
    refine r_iload_n (pc := 116) C d_Dr_redraw_116 rfl 3 rfl ?_
    refine r_icmp_ge (pc := 117) (tgt := 131) C d_Dr_redraw_117 (by decide) (fun c442 => ?_) (fun c442 => ?_)
    · replace h := ip c442 h
      refine r_loc (lv' := [(0, .ref (ad 19)), (1, .ref (ad 11)), (2, .int zv0), (3, .int zv1), (4, .int zv2)]) [0, 1, 2, 3, 4] rfl ?_
      exact K (zv0, zv1, zv2, zv3, zv4) h
    · replace h := iN c442 h
      refine r_aload_n (pc := 120) C d_Dr_redraw_120 rfl 0 rfl ?_
      refine r_aload_n (pc := 121) C d_Dr_redraw_121 rfl 1 rfl ?_
      obtain ⟨q441, hq441, h⟩ := ob h
      refine r_callV (pc := 122) (As := [.ref (ad 11)]) (rest := []) (st1 := []) hE gg_good C hX (c_Dr_addAct_D hE hq441) m_171 m_172 m_173 m_12 m_174 hd_Dr_addAct 19 rfl rfl ⟨⟨(Nat.le_of_ble_eq_true rfl), (Nat.le_of_ble_eq_true rfl)⟩, (Nat.le_of_ble_eq_true rfl), (Nat.le_of_ble_eq_true rfl)⟩ (Nat.le_of_ble_eq_true rfl) rfl rfl d_Dr_redraw_122 ?_
      refine r_iincK (pc := 125) (w0 := 1) (lv' := [(4, .int (zv2 + 1)), (0, .ref (ad 19)), (1, .ref (ad 11)), (2, .int zv0), (3, .int zv1)]) C d_Dr_redraw_125 (by decide) 4 rfl (by decide) rfl ?_
      refine r_goto (pc := 128) (tgt := 114) C d_Dr_redraw_128 (by decide) ?_
      refine r_loc (lv' := [(0, .ref (ad 19)), (1, .ref (ad 11)), (2, .int zv0), (3, .int zv1), (4, .int (zv2 + 1))]) [1, 2, 3, 4, 0] rfl ?_
      exact ih (zv0, zv1, zv2 + 1, q441.1, q441.2) h
set_option maxHeartbeats 4000000 in
set_option maxRecDepth 100000 in
theorem c_Dr_redraw_D {l : Launch} {E : State → Heap → Prop} {D : va_G} {A : Nat → Prop} {cI cZ cJ : ClassId} (hE : stb A E) {ad : Nat → Nat} {x : Int32} {s : Int64} {d : DD} {o : (Nat → Int32)} {t : TT} {s2 : Int64} {d2 : DD} {rest : va_W} {p1 : Int32} {q : Int64 × DD} (h : f_Dr_redraw s d p1 = some q) : cm l E D clsA (TY cI cZ cJ) A GG y_Dr_redraw b_Dr_redraw 5 none rm_Dr_redraw [.ref (ad 19), .ref (ad 11), .int p1] (WC ad cI cZ x s d o t s2 d2 rest) none (WC ad cI cZ x q.1 q.2 o t s2 d2 rest) := by
  refine r_met (own := R_Dr) rfl (by decide) (Nat.le_of_ble_eq_true rfl) rfl ?_
  intro p e sg m args below meth c C hr hnm hX
  unfold f_Dr_redraw at h
  refine r_aload_n (pc := 0) C d_Dr_redraw_0 rfl 0 rfl ?_
  refine r_iload_n (pc := 1) C d_Dr_redraw_1 rfl 2 rfl ?_
  refine r_put (pc := 2) (ty := .int) (ws' := WC ad cI cZ x s (p1, d.2.1, d.2.2.1, d.2.2.2.1, d.2.2.2.2.1, d.2.2.2.2.2.1, d.2.2.2.2.2.2.1, d.2.2.2.2.2.2.2.1, d.2.2.2.2.2.2.2.2) o t s2 d2 rest) C hin_Dr t_Dr t_Dr_ok n_Dr 19 rfl rfl 0 (by decide) m_156 rfl rfl pd_I rfl rfl (Nat.le_of_ble_eq_true rfl) rfl d_Dr_redraw_2 ?_
  refine r_aload_n (pc := 5) C d_Dr_redraw_5 rfl 0 rfl ?_
  refine r_iconst (pc := 6) (v := 0) C d_Dr_redraw_6 (by decide) ?_
  refine r_put (pc := 7) (ty := .int) (ws' := WC ad cI cZ x s (p1, 0, d.2.2.1, d.2.2.2.1, d.2.2.2.2.1, d.2.2.2.2.2.1, d.2.2.2.2.2.2.1, d.2.2.2.2.2.2.2.1, d.2.2.2.2.2.2.2.2) o t s2 d2 rest) C hin_Dr t_Dr t_Dr_ok n_Dr 19 rfl rfl 1 (by decide) m_5 rfl rfl pd_I rfl rfl (Nat.le_of_ble_eq_true rfl) rfl d_Dr_redraw_7 ?_
  refine r_aload_n (pc := 10) C d_Dr_redraw_10 rfl 0 rfl ?_
  refine r_iconst (pc := 11) (v := 1) C d_Dr_redraw_11 (by decide) ?_
  refine r_aload_n (pc := 12) C d_Dr_redraw_12 rfl 1 rfl ?_
  refine r_aload_n (pc := 13) C d_Dr_redraw_13 rfl 0 rfl ?_
  refine r_get (pc := 14) (v := .int p1) C hin_Dr 19 rfl rfl 0 (by decide) m_156 rfl rfl d_Dr_redraw_14 ?_
  refine r_iconst (pc := 17) (v := 1) C d_Dr_redraw_17 (by decide) ?_
  refine r_iadd (pc := 18) C d_Dr_redraw_18 ?_
  obtain ⟨q422, hq422, h⟩ := ob h
  refine r_callV (pc := 19) (As := [.int (p1 + (1 : Int32))]) (rest := [.int (1), .ref (ad 19)]) (st1 := [.int q422.1, .int (1), .ref (ad 19)]) hE gg_good C hX (c_So_below_S hE hq422) m_167 m_168 m_169 m_145 m_170 hd_So_below 11 rfl rfl ⟨⟨(Nat.le_of_ble_eq_true rfl), (Nat.le_of_ble_eq_true rfl)⟩, (Nat.le_of_ble_eq_true rfl), (Nat.le_of_ble_eq_true rfl)⟩ (Nat.le_of_ble_eq_true rfl) rfl rfl d_Dr_redraw_19 ?_
  refine r_iadd (pc := 22) C d_Dr_redraw_22 ?_
  refine r_put (pc := 23) (ty := .int) (ws' := WC ad cI cZ x q422.2 (p1, 0, (1 : Int32) + q422.1, d.2.2.2.1, d.2.2.2.2.1, d.2.2.2.2.2.1, d.2.2.2.2.2.2.1, d.2.2.2.2.2.2.2.1, d.2.2.2.2.2.2.2.2) o t s2 d2 rest) C hin_Dr t_Dr t_Dr_ok n_Dr 19 rfl rfl 2 (by decide) m_14 rfl rfl pd_I rfl rfl (Nat.le_of_ble_eq_true rfl) rfl d_Dr_redraw_23 ?_
  refine r_iconst (pc := 26) (v := 0) C d_Dr_redraw_26 (by decide) ?_
  refine r_istore_n (pc := 27) (lv' := [(3, .int (0)), (0, .ref (ad 19)), (1, .ref (ad 11)), (2, .int p1)]) C d_Dr_redraw_27 rfl (by decide) rfl ?_
  refine r_loc (lv' := [(0, .ref (ad 19)), (1, .ref (ad 11)), (2, .int p1), (3, .int (0))]) [1, 2, 3, 0] rfl ?_
  refine vl_Dr_redraw_28_D hE C hr hX (fun z429 h => ?_) 70 (p1, 0, q422.2, (p1, 0, (1 : Int32) + q422.1, d.2.2.2.1, d.2.2.2.2.1, d.2.2.2.2.2.1, d.2.2.2.2.2.2.1, d.2.2.2.2.2.2.2.1, d.2.2.2.2.2.2.2.2)) h
  refine r_aload_n (pc := 54) C d_Dr_redraw_54 rfl 0 rfl ?_
  refine r_iconst (pc := 55) (v := 1) C d_Dr_redraw_55 (by decide) ?_
  refine r_aload_n (pc := 56) C d_Dr_redraw_56 rfl 1 rfl ?_
  refine r_aload_n (pc := 57) C d_Dr_redraw_57 rfl 0 rfl ?_
  refine r_get (pc := 58) (v := .int z429.2.2.2.1) C hin_Dr 19 rfl rfl 0 (by decide) m_156 rfl rfl d_Dr_redraw_58 ?_
  refine r_iconst (pc := 61) (v := 1) C d_Dr_redraw_61 (by decide) ?_
  refine r_iadd (pc := 62) C d_Dr_redraw_62 ?_
  obtain ⟨q430, hq430, h⟩ := ob h
  refine r_callV (pc := 63) (As := [.int (z429.2.2.2.1 + (1 : Int32))]) (rest := [.int (1), .ref (ad 19)]) (st1 := [.int q430.1, .int (1), .ref (ad 19)]) hE gg_good C hX (c_So_below_S hE hq430) m_167 m_168 m_169 m_145 m_170 hd_So_below 11 rfl rfl ⟨⟨(Nat.le_of_ble_eq_true rfl), (Nat.le_of_ble_eq_true rfl)⟩, (Nat.le_of_ble_eq_true rfl), (Nat.le_of_ble_eq_true rfl)⟩ (Nat.le_of_ble_eq_true rfl) rfl rfl d_Dr_redraw_63 ?_
  refine r_iadd (pc := 66) C d_Dr_redraw_66 ?_
  refine r_put (pc := 67) (ty := .int) (ws' := WC ad cI cZ x q430.2 (z429.2.2.2.1, z429.2.2.2.2.1, z429.2.2.2.2.2.1, (1 : Int32) + q430.1, z429.2.2.2.2.2.2.2.1, z429.2.2.2.2.2.2.2.2.1, z429.2.2.2.2.2.2.2.2.2.1, z429.2.2.2.2.2.2.2.2.2.2.1, z429.2.2.2.2.2.2.2.2.2.2.2) o t s2 d2 rest) C hin_Dr t_Dr t_Dr_ok n_Dr 19 rfl rfl 3 (by decide) m_15 rfl rfl pd_I rfl rfl (Nat.le_of_ble_eq_true rfl) rfl d_Dr_redraw_67 ?_
  refine r_iconst (pc := 70) (v := 0) C d_Dr_redraw_70 (by decide) ?_
  refine r_istore_n (pc := 71) (lv' := [(3, .int (0)), (0, .ref (ad 19)), (1, .ref (ad 11)), (2, .int z429.1)]) C d_Dr_redraw_71 rfl (by decide) rfl ?_
  refine r_loc (lv' := [(0, .ref (ad 19)), (1, .ref (ad 11)), (2, .int z429.1), (3, .int (0))]) [1, 2, 3, 0] rfl ?_
  refine vl_Dr_redraw_72_D hE C hr hX (fun z437 h => ?_) 70 (z429.1, 0, q430.2, (z429.2.2.2.1, z429.2.2.2.2.1, z429.2.2.2.2.2.1, (1 : Int32) + q430.1, z429.2.2.2.2.2.2.2.1, z429.2.2.2.2.2.2.2.2.1, z429.2.2.2.2.2.2.2.2.2.1, z429.2.2.2.2.2.2.2.2.2.2.1, z429.2.2.2.2.2.2.2.2.2.2.2)) h
  refine r_iconst (pc := 98) (v := 3) C d_Dr_redraw_98 (by decide) ?_
  refine r_aload_n (pc := 99) C d_Dr_redraw_99 rfl 0 rfl ?_
  refine r_get (pc := 100) (v := .int z437.2.2.2.1) C hin_Dr 19 rfl rfl 0 (by decide) m_156 rfl rfl d_Dr_redraw_100 ?_
  refine r_imul (pc := 103) C d_Dr_redraw_103 ?_
  refine r_aload_n (pc := 104) C d_Dr_redraw_104 rfl 1 rfl ?_
  refine r_iconst (pc := 105) (v := 4) C d_Dr_redraw_105 (by decide) ?_
  obtain ⟨q438, hq438, h⟩ := ob h
  refine r_callV (pc := 106) (As := [.int (4)]) (rest := [.int ((3 : Int32) * z437.2.2.2.1)]) (st1 := [.int q438.1, .int ((3 : Int32) * z437.2.2.2.1)]) hE gg_good C hX (c_So_below_S hE hq438) m_167 m_168 m_169 m_145 m_170 hd_So_below 11 rfl rfl ⟨⟨(Nat.le_of_ble_eq_true rfl), (Nat.le_of_ble_eq_true rfl)⟩, (Nat.le_of_ble_eq_true rfl), (Nat.le_of_ble_eq_true rfl)⟩ (Nat.le_of_ble_eq_true rfl) rfl rfl d_Dr_redraw_106 ?_
  refine r_iadd (pc := 109) C d_Dr_redraw_109 ?_
  refine r_istore_n (pc := 110) (lv' := [(3, .int (((3 : Int32) * z437.2.2.2.1) + q438.1)), (0, .ref (ad 19)), (1, .ref (ad 11)), (2, .int z437.1)]) C d_Dr_redraw_110 rfl (by decide) rfl ?_
  refine r_iconst (pc := 111) (v := 0) C d_Dr_redraw_111 (by decide) ?_
  refine r_istore (pc := 112) (lv' := [(4, .int (0)), (3, .int (((3 : Int32) * z437.2.2.2.1) + q438.1)), (0, .ref (ad 19)), (1, .ref (ad 11)), (2, .int z437.1)]) C d_Dr_redraw_112 (by decide) rfl ?_
  refine r_loc (lv' := [(0, .ref (ad 19)), (1, .ref (ad 11)), (2, .int z437.1), (3, .int (((3 : Int32) * z437.2.2.2.1) + q438.1)), (4, .int (0))]) [2, 3, 4, 1, 0] rfl ?_
  refine vl_Dr_redraw_114_D hE C hr hX (fun z443 h => ?_) 70 (z437.1, ((3 : Int32) * z437.2.2.2.1) + q438.1, 0, q438.2, z437.2.2.2) h
  cases h
  exact r_vret (pc := 131) C hr rfl rfl d_Dr_redraw_131
set_option maxHeartbeats 4000000 in
set_option maxRecDepth 100000 in
theorem c_So_below_S2 {l : Launch} {E : State → Heap → Prop} {D : va_G} {A : Nat → Prop} {cI cZ cJ : ClassId} (hE : stb A E) {ad : Nat → Nat} {x : Int32} {s : Int64} {d : DD} {o : (Nat → Int32)} {t : TT} {s2 : Int64} {d2 : DD} {rest : va_W} {p0 : Int32} {q : Int32 × Int64} (h : f_So_below s2 p0 = some q) : cm l E D clsA (TY cI cZ cJ) A GG y_So_below b_So_below 2 (some .int) rm_So_below [.ref (ad 6), .int p0] (WC ad cI cZ x s d o t s2 d2 rest) (some (.int q.1)) (WC ad cI cZ x s d o t q.2 d2 rest) := by
  refine r_met (own := R_So) rfl (by decide) (Nat.le_of_ble_eq_true rfl) rfl ?_
  intro p e sg m args below meth c C hr hnm hX
  unfold f_So_below at h
  refine r_aload_n (pc := 0) C d_So_below_0 rfl 0 rfl ?_
  refine r_aload_n (pc := 1) C d_So_below_1 rfl 0 rfl ?_
  refine r_get (pc := 2) (v := .long s2) C hin_So 6 rfl rfl 0 (by decide) m_141 rfl rfl d_So_below_2 ?_
  refine r_ldc2 (pc := 5) (v := 6364136223846793005) C m_157 d_So_below_5 ?_
  refine r_lmul (pc := 8) C d_So_below_8 ?_
  refine r_ldc2 (pc := 9) (v := 1442695040888963407) C m_158 d_So_below_9 ?_
  refine r_ladd (pc := 12) C d_So_below_12 ?_
  refine r_put (pc := 13) (ty := .long) (ws' := WC ad cI cZ x s d o t ((s2 * (6364136223846793005 : Int64)) + (1442695040888963407 : Int64)) d2 rest) C hin_So t_So t_So_ok n_So 6 rfl rfl 0 (by decide) m_141 rfl rfl pd_J rfl rfl (Nat.le_of_ble_eq_true rfl) rfl d_So_below_13 ?_
  refine r_iload_n (pc := 16) C d_So_below_16 rfl 1 rfl ?_
  refine r_iconst (pc := 17) (v := 1) C d_So_below_17 (by decide) ?_
  refine r_icmp_ge (pc := 18) (tgt := 25) C d_So_below_18 (by decide) (fun c445 => ?_) (fun c445 => ?_)
  · replace h := ip c445 h
    refine r_aload_n (pc := 25) C d_So_below_25 rfl 0 rfl ?_
    refine r_get (pc := 26) (v := .long ((s2 * (6364136223846793005 : Int64)) + (1442695040888963407 : Int64))) C hin_So 6 rfl rfl 0 (by decide) m_141 rfl rfl d_So_below_26 ?_
    refine r_bipush (pc := 29) (v := 33) C d_So_below_29 (by decide) ?_
    refine r_lushr (pc := 31) C d_So_below_31 ?_
    refine r_iload_n (pc := 32) C d_So_below_32 rfl 1 rfl ?_
    refine r_i2l (pc := 33) C d_So_below_33 ?_
    obtain ⟨hz444, h⟩ := ign h
    refine r_lrem (pc := 34) C d_So_below_34 hz444 ?_
    refine r_l2i (pc := 35) C d_So_below_35 ?_
    cases h
    exact r_iret (pc := 36) C hr rfl rfl rfl d_So_below_36
  · replace h := iN c445 h
    refine r_iconst (pc := 21) (v := 0) C d_So_below_21 (by decide) ?_
    refine r_goto (pc := 22) (tgt := 36) C d_So_below_22 (by decide) ?_
    cases h
    exact r_iret (pc := 36) C hr rfl rfl rfl d_So_below_36
set_option maxHeartbeats 4000000 in
set_option maxRecDepth 100000 in
theorem c_Dr_add_D2 {l : Launch} {E : State → Heap → Prop} {D : va_G} {A : Nat → Prop} {cI cZ cJ : ClassId} (hE : stb A E) {ad : Nat → Nat} {x : Int32} {s : Int64} {d : DD} {o : (Nat → Int32)} {t : TT} {s2 : Int64} {d2 : DD} {rest : va_W} {p0 : Int32} {p1 : Int32} {p2 : Int32} {p3 : Int32} {p4 : Int32} {q : DD} (h : f_Dr_add d2 p0 p1 p2 p3 p4 = some q) : cm l E D clsA (TY cI cZ cJ) A GG y_Dr_add b_Dr_add 6 none rm_Dr_add [.ref (ad 5), .int p0, .int p1, .int p2, .int p3, .int p4] (WC ad cI cZ x s d o t s2 d2 rest) none (WC ad cI cZ x s d o t s2 q rest) := by
  refine r_met (own := R_Dr) rfl (by decide) (Nat.le_of_ble_eq_true rfl) rfl ?_
  intro p e sg m args below meth c C hr hnm hX
  unfold f_Dr_add at h
  refine r_aload_n (pc := 0) C d_Dr_add_0 rfl 0 rfl ?_
  refine r_get (pc := 1) (v := .int d2.2.1) C hin_Dr 5 rfl rfl 1 (by decide) m_5 rfl rfl d_Dr_add_1 ?_
  refine r_if_lt (pc := 4) (tgt := 16) C d_Dr_add_4 (by decide) (fun c454 => ?_) (fun c454 => ?_)
  · replace h := ip c454 h
    cases h
    exact r_vret (pc := 16) C hr rfl rfl d_Dr_add_16
  · replace h := iN c454 h
    refine r_aload_n (pc := 7) C d_Dr_add_7 rfl 0 rfl ?_
    refine r_get (pc := 8) (v := .int d2.2.1) C hin_Dr 5 rfl rfl 1 (by decide) m_5 rfl rfl d_Dr_add_8 ?_
    refine r_bipush (pc := 11) (v := 30) C d_Dr_add_11 (by decide) ?_
    refine r_icmp_lt (pc := 13) (tgt := 17) C d_Dr_add_13 (by decide) (fun c453 => ?_) (fun c453 => ?_)
    · replace h := ip c453 h
      refine r_aload_n (pc := 17) C d_Dr_add_17 rfl 0 rfl ?_
      refine r_get (pc := 18) (v := .ref (ad 4)) C hin_Dr 5 rfl rfl 4 (by decide) m_40 rfl rfl d_Dr_add_18 ?_
      refine r_aload_n (pc := 21) C d_Dr_add_21 rfl 0 rfl ?_
      refine r_get (pc := 22) (v := .int d2.2.1) C hin_Dr 5 rfl rfl 1 (by decide) m_5 rfl rfl d_Dr_add_22 ?_
      refine r_iload_n (pc := 25) C d_Dr_add_25 rfl 1 rfl ?_
      obtain ⟨hi452, h⟩ := ign h
      refine r_iast (pc := 26) (ws' := WC ad cI cZ x s d o t s2 (d2.1, d2.2.1, d2.2.2.1, d2.2.2.2.1, upd d2.2.2.2.2.1 d2.2.1.toNatClampNeg p0, d2.2.2.2.2.2.1, d2.2.2.2.2.2.2.1, d2.2.2.2.2.2.2.2.1, d2.2.2.2.2.2.2.2.2) rest) C 4 0 rfl rfl hi452 rfl d_Dr_add_26 ?_
      refine r_aload_n (pc := 27) C d_Dr_add_27 rfl 0 rfl ?_
      refine r_get (pc := 28) (v := .ref (ad 3)) C hin_Dr 5 rfl rfl 5 (by decide) m_16 rfl rfl d_Dr_add_28 ?_
      refine r_aload_n (pc := 31) C d_Dr_add_31 rfl 0 rfl ?_
      refine r_get (pc := 32) (v := .int d2.2.1) C hin_Dr 5 rfl rfl 1 (by decide) m_5 rfl rfl d_Dr_add_32 ?_
      refine r_iload_n (pc := 35) C d_Dr_add_35 rfl 2 rfl ?_
      obtain ⟨hi451, h⟩ := ign h
      refine r_iast (pc := 36) (ws' := WC ad cI cZ x s d o t s2 (d2.1, d2.2.1, d2.2.2.1, d2.2.2.2.1, upd d2.2.2.2.2.1 d2.2.1.toNatClampNeg p0, upd d2.2.2.2.2.2.1 d2.2.1.toNatClampNeg p1, d2.2.2.2.2.2.2.1, d2.2.2.2.2.2.2.2.1, d2.2.2.2.2.2.2.2.2) rest) C 3 0 rfl rfl hi451 rfl d_Dr_add_36 ?_
      refine r_aload_n (pc := 37) C d_Dr_add_37 rfl 0 rfl ?_
      refine r_get (pc := 38) (v := .ref (ad 2)) C hin_Dr 5 rfl rfl 6 (by decide) m_18 rfl rfl d_Dr_add_38 ?_
      refine r_aload_n (pc := 41) C d_Dr_add_41 rfl 0 rfl ?_
      refine r_get (pc := 42) (v := .int d2.2.1) C hin_Dr 5 rfl rfl 1 (by decide) m_5 rfl rfl d_Dr_add_42 ?_
      refine r_iload_n (pc := 45) C d_Dr_add_45 rfl 3 rfl ?_
      obtain ⟨hi450, h⟩ := ign h
      refine r_iast (pc := 46) (ws' := WC ad cI cZ x s d o t s2 (d2.1, d2.2.1, d2.2.2.1, d2.2.2.2.1, upd d2.2.2.2.2.1 d2.2.1.toNatClampNeg p0, upd d2.2.2.2.2.2.1 d2.2.1.toNatClampNeg p1, upd d2.2.2.2.2.2.2.1 d2.2.1.toNatClampNeg p2, d2.2.2.2.2.2.2.2.1, d2.2.2.2.2.2.2.2.2) rest) C 2 0 rfl rfl hi450 rfl d_Dr_add_46 ?_
      refine r_aload_n (pc := 47) C d_Dr_add_47 rfl 0 rfl ?_
      refine r_get (pc := 48) (v := .ref (ad 1)) C hin_Dr 5 rfl rfl 7 (by decide) m_41 rfl rfl d_Dr_add_48 ?_
      refine r_aload_n (pc := 51) C d_Dr_add_51 rfl 0 rfl ?_
      refine r_get (pc := 52) (v := .int d2.2.1) C hin_Dr 5 rfl rfl 1 (by decide) m_5 rfl rfl d_Dr_add_52 ?_
      refine r_iload (pc := 55) C d_Dr_add_55 4 rfl ?_
      obtain ⟨hi449, h⟩ := ign h
      refine r_zast (pc := 57) (ws' := WC ad cI cZ x s d o t s2 (d2.1, d2.2.1, d2.2.2.1, d2.2.2.2.1, upd d2.2.2.2.2.1 d2.2.1.toNatClampNeg p0, upd d2.2.2.2.2.2.1 d2.2.1.toNatClampNeg p1, upd d2.2.2.2.2.2.2.1 d2.2.1.toNatClampNeg p2, upd d2.2.2.2.2.2.2.2.1 d2.2.1.toNatClampNeg (vp_nar .boolean p3), d2.2.2.2.2.2.2.2.2) rest) C 1 1 rfl rfl hi449 rfl d_Dr_add_57 ?_
      refine r_aload_n (pc := 58) C d_Dr_add_58 rfl 0 rfl ?_
      refine r_get (pc := 59) (v := .ref (ad 0)) C hin_Dr 5 rfl rfl 8 (by decide) m_42 rfl rfl d_Dr_add_59 ?_
      refine r_aload_n (pc := 62) C d_Dr_add_62 rfl 0 rfl ?_
      refine r_get (pc := 63) (v := .int d2.2.1) C hin_Dr 5 rfl rfl 1 (by decide) m_5 rfl rfl d_Dr_add_63 ?_
      refine r_iload (pc := 66) C d_Dr_add_66 5 rfl ?_
      obtain ⟨hi448, h⟩ := ign h
      refine r_zast (pc := 68) (ws' := WC ad cI cZ x s d o t s2 (d2.1, d2.2.1, d2.2.2.1, d2.2.2.2.1, upd d2.2.2.2.2.1 d2.2.1.toNatClampNeg p0, upd d2.2.2.2.2.2.1 d2.2.1.toNatClampNeg p1, upd d2.2.2.2.2.2.2.1 d2.2.1.toNatClampNeg p2, upd d2.2.2.2.2.2.2.2.1 d2.2.1.toNatClampNeg (vp_nar .boolean p3), upd d2.2.2.2.2.2.2.2.2 d2.2.1.toNatClampNeg (vp_nar .boolean p4)) rest) C 0 1 rfl rfl hi448 rfl d_Dr_add_68 ?_
      refine r_aload_n (pc := 69) C d_Dr_add_69 rfl 0 rfl ?_
      refine r_dup (pc := 70) C d_Dr_add_70 rfl ?_
      refine r_get (pc := 71) (v := .int d2.2.1) C hin_Dr 5 rfl rfl 1 (by decide) m_5 rfl rfl d_Dr_add_71 ?_
      refine r_iconst (pc := 74) (v := 1) C d_Dr_add_74 (by decide) ?_
      refine r_iadd (pc := 75) C d_Dr_add_75 ?_
      refine r_put (pc := 76) (ty := .int) (ws' := WC ad cI cZ x s d o t s2 (d2.1, d2.2.1 + (1 : Int32), d2.2.2.1, d2.2.2.2.1, upd d2.2.2.2.2.1 d2.2.1.toNatClampNeg p0, upd d2.2.2.2.2.2.1 d2.2.1.toNatClampNeg p1, upd d2.2.2.2.2.2.2.1 d2.2.1.toNatClampNeg p2, upd d2.2.2.2.2.2.2.2.1 d2.2.1.toNatClampNeg (vp_nar .boolean p3), upd d2.2.2.2.2.2.2.2.2 d2.2.1.toNatClampNeg (vp_nar .boolean p4)) rest) C hin_Dr t_Dr t_Dr_ok n_Dr 5 rfl rfl 1 (by decide) m_5 rfl rfl pd_I rfl rfl (Nat.le_of_ble_eq_true rfl) rfl d_Dr_add_76 ?_
      cases h
      exact r_vret (pc := 79) C hr rfl rfl d_Dr_add_79
    · replace h := iN c453 h
      cases h
      exact r_vret (pc := 16) C hr rfl rfl d_Dr_add_16
set_option maxHeartbeats 4000000 in
set_option maxRecDepth 100000 in
theorem c_Dr_addThing_D2 {l : Launch} {E : State → Heap → Prop} {D : va_G} {A : Nat → Prop} {cI cZ cJ : ClassId} (hE : stb A E) {ad : Nat → Nat} {x : Int32} {s : Int64} {d : DD} {o : (Nat → Int32)} {t : TT} {s2 : Int64} {d2 : DD} {rest : va_W} {p0 : Int32} {q : DD} (h : f_Dr_addThing d2 p0 = some q) : cm l E D clsA (TY cI cZ cJ) A GG y_Dr_addThing b_Dr_addThing 2 none rm_Dr_addThing [.ref (ad 5), .int p0] (WC ad cI cZ x s d o t s2 d2 rest) none (WC ad cI cZ x s d o t s2 q rest) := by
  refine r_met (own := R_Dr) rfl (by decide) (Nat.le_of_ble_eq_true rfl) rfl ?_
  intro p e sg m args below meth c C hr hnm hX
  unfold f_Dr_addThing at h
  refine r_aload_n (pc := 0) C d_Dr_addThing_0 rfl 0 rfl ?_
  refine r_iload_n (pc := 1) C d_Dr_addThing_1 rfl 1 rfl ?_
  refine r_iconst (pc := 2) (v := (-1)) C d_Dr_addThing_2 (by decide) ?_
  refine r_iconst (pc := 3) (v := (-1)) C d_Dr_addThing_3 (by decide) ?_
  refine r_iconst (pc := 4) (v := 0) C d_Dr_addThing_4 (by decide) ?_
  refine r_iconst (pc := 5) (v := 0) C d_Dr_addThing_5 (by decide) ?_
  obtain ⟨q455, hq455, h⟩ := ob h
  refine r_callV (pc := 6) (As := [.int p0, .int (-1), .int (-1), .int (0), .int (0)]) (rest := []) (st1 := []) hE gg_good C hX (c_Dr_add_D2 hE hq455) m_159 m_160 m_161 m_12 m_162 hd_Dr_add 5 rfl rfl ⟨⟨(Nat.le_of_ble_eq_true rfl), (Nat.le_of_ble_eq_true rfl)⟩, (Nat.le_of_ble_eq_true rfl), (Nat.le_of_ble_eq_true rfl)⟩ (Nat.le_of_ble_eq_true rfl) rfl rfl d_Dr_addThing_6 ?_
  cases h
  exact r_vret (pc := 9) C hr rfl rfl d_Dr_addThing_9
