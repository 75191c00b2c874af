def f_Dr_lies (d : DD) (p0 : Int32) : Option (Int32) :=
  Option.bind (f_Dr_has d p0) (fun q73 => (if q73 = 0 then some (0) else (if (p0 < 0 ∨ 30 ≤ p0.toNatClampNeg) then none else (if d.2.2.2.2.2.2.2.2 p0.toNatClampNeg = 0 then some (0) else some (1)))))
abbrev rm_Dr_lies : Room := { frames := 1, cells := 0, slots := 0, locals := 21 }
theorem hd_Dr_lies : y_Dr_lies.cls ≠ "java/lang/invoke/MethodHandle" ∧ y_Dr_lies.cls ≠ "java/lang/invoke/VarHandle" ∧ (parseMethodDescriptor y_Dr_lies.desc).map (fun d => d.parameters.length) = some 1 := by decide +kernel
set_option maxHeartbeats 4000000 in
set_option maxRecDepth 100000 in
theorem c_Dr_lies_D {l : Launch} {E : State → Heap → Prop} {D : va_G} {A : Nat → Prop} {cI cZ cJ : ClassId} (hE : stb A E) {ad : Nat → Nat} {x : Int32} {s : Int64} {d : DD} {o : (Nat → Int32)} {t : TT} {s2 : Int64} {d2 : DD} {rest : va_W} {p0 : Int32} {q : Int32} (h : f_Dr_lies d p0 = some q) : cm l E D clsA (TY cI cZ cJ) A GG y_Dr_lies b_Dr_lies 2 (some .boolean) rm_Dr_lies [.ref (ad 19), .int p0] (WC ad cI cZ x s d o t s2 d2 rest) (some (.int q)) (WC ad cI cZ x s d o t s2 d2 rest) := by
  refine r_met (own := R_Dr) rfl (by decide) (Nat.le_of_ble_eq_true rfl) rfl ?_
  intro p e sg m args below meth c C hr hnm hX
  unfold f_Dr_lies at h
  refine r_aload_n (pc := 0) C d_Dr_lies_0 rfl 0 rfl ?_
  refine r_iload_n (pc := 1) C d_Dr_lies_1 rfl 1 rfl ?_
  obtain ⟨q73, hq73, h⟩ := ob h
  refine r_callV (pc := 2) (As := [.int p0]) (rest := []) (st1 := [.int q73]) hE gg_good C hX (c_Dr_has_D hE hq73) m_17 m_10 m_11 m_12 m_13 hd_Dr_has 19 rfl rfl ⟨⟨(Nat.le_of_ble_eq_true rfl), (Nat.le_of_ble_eq_true rfl)⟩, (Nat.le_of_ble_eq_true rfl), (Nat.le_of_ble_eq_true rfl)⟩ (Nat.le_of_ble_eq_true rfl) rfl rfl d_Dr_lies_2 ?_
  refine r_if_eq (pc := 5) (tgt := 21) C d_Dr_lies_5 (by decide) (fun c76 => ?_) (fun c76 => ?_)
  · replace h := ip c76 h
    refine r_iconst (pc := 21) (v := 0) C d_Dr_lies_21 (by decide) ?_
    cases h
    exact r_iret (pc := 22) C hr rfl rfl rfl d_Dr_lies_22
  · replace h := iN c76 h
    refine r_aload_n (pc := 8) C d_Dr_lies_8 rfl 0 rfl ?_
    refine r_get (pc := 9) (v := .ref (ad 14)) C hin_Dr 19 rfl rfl 8 (by decide) m_42 rfl rfl d_Dr_lies_9 ?_
    refine r_iload_n (pc := 12) C d_Dr_lies_12 rfl 1 rfl ?_
    obtain ⟨hi75, h⟩ := ign h
    refine r_zald (pc := 13) C 14 1 rfl rfl hi75 d_Dr_lies_13 ?_
    refine r_if_eq (pc := 14) (tgt := 21) C d_Dr_lies_14 (by decide) (fun c74 => ?_) (fun c74 => ?_)
    · replace h := ip c74 h
      refine r_iconst (pc := 21) (v := 0) C d_Dr_lies_21 (by decide) ?_
      cases h
      exact r_iret (pc := 22) C hr rfl rfl rfl d_Dr_lies_22
    · replace h := iN c74 h
      refine r_iconst (pc := 17) (v := 1) C d_Dr_lies_17 (by decide) ?_
      refine r_goto (pc := 18) (tgt := 22) C d_Dr_lies_18 (by decide) ?_
      cases h
      exact r_iret (pc := 22) C hr rfl rfl rfl d_Dr_lies_22
def f_St_carryOut (d : DD) (t : TT) (p0 : Int32) : Option (TT) :=
  Option.bind (f_Dr_placeOf d p0) (fun q97 => Option.bind (f_Dr_goodOf d p0) (fun q98 => Option.bind (f_Dr_hasPlace d q97) (fun q99 => (if q99 = 0 then some t else Option.bind (f_Dr_hasGood d q98) (fun q100 => (if q100 = 0 then some t else Option.bind (f_Dr_amountOf d p0) (fun q101 => (if (((q97 * (6 : Int32)) + q98) < 0 ∨ 36 ≤ ((q97 * (6 : Int32)) + q98).toNatClampNeg) then none else Option.bind (f_Dr_takes d p0) (fun q102 => (if q102 = 0 then (if (((q97 * (6 : Int32)) + q98) < 0 ∨ 36 ≤ ((q97 * (6 : Int32)) + q98).toNatClampNeg) then none else (if (q97 < 0 ∨ 6 ≤ q97.toNatClampNeg) then none else (if (((q97 * (6 : Int32)) + q98) < 0 ∨ 36 ≤ ((q97 * (6 : Int32)) + q98).toNatClampNeg) then none else (if (0 : Int32) ≤ (upd t.1 ((q97 * (6 : Int32)) + q98).toNatClampNeg ((t.1 ((q97 * (6 : Int32)) + q98).toNatClampNeg) + q101)) ((q97 * (6 : Int32)) + q98).toNatClampNeg then Option.bind (f_Dr_lies d p0) (fun q103 => (if q103 = 0 then some (upd t.1 ((q97 * (6 : Int32)) + q98).toNatClampNeg ((t.1 ((q97 * (6 : Int32)) + q98).toNatClampNeg) + q101), t.2.1, upd t.2.2.1 q97.toNatClampNeg (vp_nar .boolean (1)), t.2.2.2) else some (upd t.1 ((q97 * (6 : Int32)) + q98).toNatClampNeg ((t.1 ((q97 * (6 : Int32)) + q98).toNatClampNeg) + q101), t.2.1, upd t.2.2.1 q97.toNatClampNeg (vp_nar .boolean (1)), t.2.2.2 ||| (8 : Int32)))) else Option.bind (f_Dr_lies d p0) (fun q105 => (if q105 = 0 then some (upd t.1 ((q97 * (6 : Int32)) + q98).toNatClampNeg ((t.1 ((q97 * (6 : Int32)) + q98).toNatClampNeg) + q101), t.2.1, upd t.2.2.1 q97.toNatClampNeg (vp_nar .boolean (1)), t.2.2.2 ||| (2 : Int32)) else some (upd t.1 ((q97 * (6 : Int32)) + q98).toNatClampNeg ((t.1 ((q97 * (6 : Int32)) + q98).toNatClampNeg) + q101), t.2.1, upd t.2.2.1 q97.toNatClampNeg (vp_nar .boolean (1)), (t.2.2.2 ||| (2 : Int32)) ||| (8 : Int32)))))))) else (if (((q97 * (6 : Int32)) + q98) < 0 ∨ 36 ≤ ((q97 * (6 : Int32)) + q98).toNatClampNeg) then none else (if (q97 < 0 ∨ 6 ≤ q97.toNatClampNeg) then none else (if (((q97 * (6 : Int32)) + q98) < 0 ∨ 36 ≤ ((q97 * (6 : Int32)) + q98).toNatClampNeg) then none else (if (0 : Int32) ≤ (upd t.1 ((q97 * (6 : Int32)) + q98).toNatClampNeg ((t.1 ((q97 * (6 : Int32)) + q98).toNatClampNeg) + (-q101))) ((q97 * (6 : Int32)) + q98).toNatClampNeg then Option.bind (f_Dr_lies d p0) (fun q111 => (if q111 = 0 then some (upd t.1 ((q97 * (6 : Int32)) + q98).toNatClampNeg ((t.1 ((q97 * (6 : Int32)) + q98).toNatClampNeg) + (-q101)), t.2.1, upd t.2.2.1 q97.toNatClampNeg (vp_nar .boolean (1)), t.2.2.2) else some (upd t.1 ((q97 * (6 : Int32)) + q98).toNatClampNeg ((t.1 ((q97 * (6 : Int32)) + q98).toNatClampNeg) + (-q101)), t.2.1, upd t.2.2.1 q97.toNatClampNeg (vp_nar .boolean (1)), t.2.2.2 ||| (8 : Int32)))) else Option.bind (f_Dr_lies d p0) (fun q113 => (if q113 = 0 then some (upd t.1 ((q97 * (6 : Int32)) + q98).toNatClampNeg ((t.1 ((q97 * (6 : Int32)) + q98).toNatClampNeg) + (-q101)), t.2.1, upd t.2.2.1 q97.toNatClampNeg (vp_nar .boolean (1)), t.2.2.2 ||| (2 : Int32)) else some (upd t.1 ((q97 * (6 : Int32)) + q98).toNatClampNeg ((t.1 ((q97 * (6 : Int32)) + q98).toNatClampNeg) + (-q101)), t.2.1, upd t.2.2.1 q97.toNatClampNeg (vp_nar .boolean (1)), (t.2.2.2 ||| (2 : Int32)) ||| (8 : Int32))))))))))))))))))
abbrev rm_St_carryOut : Room := { frames := 2, cells := 0, slots := 0, locals := 42 }
theorem hd_St_carryOut : y_St_carryOut.cls ≠ "java/lang/invoke/MethodHandle" ∧ y_St_carryOut.cls ≠ "java/lang/invoke/VarHandle" ∧ (parseMethodDescriptor y_St_carryOut.desc).map (fun d => d.parameters.length) = some 1 := by decide +kernel
set_option maxHeartbeats 4000000 in
set_option maxRecDepth 100000 in
theorem c_St_carryOut_T {l : Launch} {E : State → Heap → Prop} {D : va_G} {A : Nat → Prop} {cI cZ cJ : ClassId} (hE : stb A E) {ad : Nat → Nat} {x : Int32} {s : Int64} {d : DD} {o : (Nat → Int32)} {t : TT} {s2 : Int64} {d2 : DD} {rest : va_W} {p0 : Int32} {q : TT} (h : f_St_carryOut d t p0 = some q) : cm l E D clsA (TY cI cZ cJ) A GG y_St_carryOut b_St_carryOut 6 none rm_St_carryOut [.ref (ad 10), .int p0] (WC ad cI cZ x s d o t s2 d2 rest) none (WC ad cI cZ x s d o q s2 d2 rest) := by
  refine r_met (own := R_St) rfl (by decide) (Nat.le_of_ble_eq_true rfl) rfl ?_
  intro p e sg m args below meth c C hr hnm hX
  unfold f_St_carryOut at h
  refine r_aload_n (pc := 0) C d_St_carryOut_0 rfl 0 rfl ?_
  refine r_get (pc := 1) (v := .ref (ad 19)) C hin_St 10 rfl rfl 0 (by decide) m_4 rfl rfl d_St_carryOut_1 ?_
  refine r_iload_n (pc := 4) C d_St_carryOut_4 rfl 1 rfl ?_
  obtain ⟨q97, hq97, h⟩ := ob h
  refine r_callV (pc := 5) (As := [.int p0]) (rest := []) (st1 := [.int q97]) hE gg_good C hX (c_Dr_placeOf_D hE hq97) m_64 m_33 m_34 m_12 m_35 hd_Dr_placeOf 19 rfl rfl ⟨⟨(Nat.le_of_ble_eq_true rfl), (Nat.le_of_ble_eq_true rfl)⟩, (Nat.le_of_ble_eq_true rfl), (Nat.le_of_ble_eq_true rfl)⟩ (Nat.le_of_ble_eq_true rfl) rfl rfl d_St_carryOut_5 ?_
  refine r_istore_n (pc := 8) (lv' := [(2, .int q97), (0, .ref (ad 10)), (1, .int p0)]) C d_St_carryOut_8 rfl (by decide) rfl ?_
  refine r_aload_n (pc := 9) C d_St_carryOut_9 rfl 1 rfl ?_
  refine r_get (pc := 10) (v := .ref (ad 19)) C hin_St 10 rfl rfl 0 (by decide) m_4 rfl rfl d_St_carryOut_10 ?_
  refine r_iload_n (pc := 13) C d_St_carryOut_13 rfl 2 rfl ?_
  obtain ⟨q98, hq98, h⟩ := ob h
  refine r_callV (pc := 14) (As := [.int p0]) (rest := []) (st1 := [.int q98]) hE gg_good C hX (c_Dr_goodOf_D hE hq98) m_63 m_29 m_30 m_12 m_31 hd_Dr_goodOf 19 rfl rfl ⟨⟨(Nat.le_of_ble_eq_true rfl), (Nat.le_of_ble_eq_true rfl)⟩, (Nat.le_of_ble_eq_true rfl), (Nat.le_of_ble_eq_true rfl)⟩ (Nat.le_of_ble_eq_true rfl) rfl rfl d_St_carryOut_14 ?_
  refine r_istore_n (pc := 17) (lv' := [(3, .int q98), (2, .int q97), (0, .ref (ad 10)), (1, .int p0)]) C d_St_carryOut_17 rfl (by decide) rfl ?_
  refine r_aload_n (pc := 18) C d_St_carryOut_18 rfl 2 rfl ?_
  refine r_get (pc := 19) (v := .ref (ad 19)) C hin_St 10 rfl rfl 0 (by decide) m_4 rfl rfl d_St_carryOut_19 ?_
  refine r_iload_n (pc := 22) C d_St_carryOut_22 rfl 1 rfl ?_
  obtain ⟨q99, hq99, h⟩ := ob h
  refine r_callV (pc := 23) (As := [.int q97]) (rest := []) (st1 := [.int q99]) hE gg_good C hX (c_Dr_hasPlace_D hE hq99) m_59 m_60 m_61 m_12 m_62 hd_Dr_hasPlace 19 rfl rfl ⟨⟨(Nat.le_of_ble_eq_true rfl), (Nat.le_of_ble_eq_true rfl)⟩, (Nat.le_of_ble_eq_true rfl), (Nat.le_of_ble_eq_true rfl)⟩ (Nat.le_of_ble_eq_true rfl) rfl rfl d_St_carryOut_23 ?_
  refine r_if_eq (pc := 26) (tgt := 40) C d_St_carryOut_26 (by decide) (fun c122 => ?_) (fun c122 => ?_)
  · replace h := ip c122 h
    cases h
    exact r_vret (pc := 40) C hr rfl rfl d_St_carryOut_40
  · replace h := iN c122 h
    refine r_aload_n (pc := 29) C d_St_carryOut_29 rfl 2 rfl ?_
    refine r_get (pc := 30) (v := .ref (ad 19)) C hin_St 10 rfl rfl 0 (by decide) m_4 rfl rfl d_St_carryOut_30 ?_
    refine r_iload_n (pc := 33) C d_St_carryOut_33 rfl 0 rfl ?_
    obtain ⟨q100, hq100, h⟩ := ob h
    refine r_callV (pc := 34) (As := [.int q98]) (rest := []) (st1 := [.int q100]) hE gg_good C hX (c_Dr_hasGood_D hE hq100) m_55 m_56 m_57 m_12 m_58 hd_Dr_hasGood 19 rfl rfl ⟨⟨(Nat.le_of_ble_eq_true rfl), (Nat.le_of_ble_eq_true rfl)⟩, (Nat.le_of_ble_eq_true rfl), (Nat.le_of_ble_eq_true rfl)⟩ (Nat.le_of_ble_eq_true rfl) rfl rfl d_St_carryOut_34 ?_
    refine r_if_ne (pc := 37) (tgt := 41) C d_St_carryOut_37 (by decide) (fun c121 => ?_) (fun c121 => ?_)
    · replace h := iN c121 h
      refine r_iload_n (pc := 41) C d_St_carryOut_41 rfl 1 rfl ?_
      refine r_bipush (pc := 42) (v := 6) C d_St_carryOut_42 (by decide) ?_
      refine r_imul (pc := 44) C d_St_carryOut_44 ?_
      refine r_iload_n (pc := 45) C d_St_carryOut_45 rfl 0 rfl ?_
      refine r_iadd (pc := 46) C d_St_carryOut_46 ?_
      refine r_istore (pc := 47) (lv' := [(4, .int ((q97 * (6 : Int32)) + q98)), (3, .int q98), (2, .int q97), (0, .ref (ad 10)), (1, .int p0)]) C d_St_carryOut_47 (by decide) rfl ?_
      refine r_aload_n (pc := 49) C d_St_carryOut_49 rfl 3 rfl ?_
      refine r_get (pc := 50) (v := .ref (ad 19)) C hin_St 10 rfl rfl 0 (by decide) m_4 rfl rfl d_St_carryOut_50 ?_
      refine r_iload_n (pc := 53) C d_St_carryOut_53 rfl 4 rfl ?_
      obtain ⟨q101, hq101, h⟩ := ob h
      refine r_callV (pc := 54) (As := [.int p0]) (rest := []) (st1 := [.int q101]) hE gg_good C hX (c_Dr_amountOf_D hE hq101) m_51 m_52 m_53 m_12 m_54 hd_Dr_amountOf 19 rfl rfl ⟨⟨(Nat.le_of_ble_eq_true rfl), (Nat.le_of_ble_eq_true rfl)⟩, (Nat.le_of_ble_eq_true rfl), (Nat.le_of_ble_eq_true rfl)⟩ (Nat.le_of_ble_eq_true rfl) rfl rfl d_St_carryOut_54 ?_
      refine r_istore (pc := 57) (lv' := [(5, .int q101), (4, .int ((q97 * (6 : Int32)) + q98)), (3, .int q98), (2, .int q97), (0, .ref (ad 10)), (1, .int p0)]) C d_St_carryOut_57 (by decide) rfl ?_
      refine r_aload_n (pc := 59) C d_St_carryOut_59 rfl 4 rfl ?_
      refine r_get (pc := 60) (v := .ref (ad 9)) C hin_St 10 rfl rfl 2 (by decide) m_1 rfl rfl d_St_carryOut_60 ?_
      refine r_iload (pc := 63) C d_St_carryOut_63 1 rfl ?_
      refine r_dup2 (pc := 65) C d_St_carryOut_65 rfl rfl ?_
      obtain ⟨hi120, h⟩ := ign h
      refine r_iald (pc := 66) C 9 0 rfl rfl hi120 d_St_carryOut_66 ?_
      refine r_aload_n (pc := 67) C d_St_carryOut_67 rfl 4 rfl ?_
      refine r_get (pc := 68) (v := .ref (ad 19)) C hin_St 10 rfl rfl 0 (by decide) m_4 rfl rfl d_St_carryOut_68 ?_
      refine r_iload_n (pc := 71) C d_St_carryOut_71 rfl 5 rfl ?_
      obtain ⟨q102, hq102, h⟩ := ob h
      refine r_callV (pc := 72) (As := [.int p0]) (rest := [.int (t.1 ((q97 * (6 : Int32)) + q98).toNatClampNeg), .int ((q97 * (6 : Int32)) + q98), .ref (ad 9)]) (st1 := [.int q102, .int (t.1 ((q97 * (6 : Int32)) + q98).toNatClampNeg), .int ((q97 * (6 : Int32)) + q98), .ref (ad 9)]) hE gg_good C hX (c_Dr_takes_D hE hq102) m_47 m_48 m_49 m_12 m_50 hd_Dr_takes 19 rfl rfl ⟨⟨(Nat.le_of_ble_eq_true rfl), (Nat.le_of_ble_eq_true rfl)⟩, (Nat.le_of_ble_eq_true rfl), (Nat.le_of_ble_eq_true rfl)⟩ (Nat.le_of_ble_eq_true rfl) rfl rfl d_St_carryOut_72 ?_
      refine r_if_eq (pc := 75) (tgt := 84) C d_St_carryOut_75 (by decide) (fun c119 => ?_) (fun c119 => ?_)
      · replace h := ip c119 h
        refine r_iload (pc := 84) C d_St_carryOut_84 0 rfl ?_
        refine r_iadd (pc := 86) C d_St_carryOut_86 ?_
        obtain ⟨hi110, h⟩ := ign h
        refine r_iast (pc := 87) (ws' := WC ad cI cZ x s d o (upd t.1 ((q97 * (6 : Int32)) + q98).toNatClampNeg ((t.1 ((q97 * (6 : Int32)) + q98).toNatClampNeg) + q101), t.2.1, t.2.2.1, t.2.2.2) s2 d2 rest) C 9 0 rfl rfl hi110 rfl d_St_carryOut_87 ?_
        refine r_aload_n (pc := 88) C d_St_carryOut_88 rfl 4 rfl ?_
        refine r_get (pc := 89) (v := .ref (ad 7)) C hin_St 10 rfl rfl 4 (by decide) m_3 rfl rfl d_St_carryOut_89 ?_
        refine r_iload_n (pc := 92) C d_St_carryOut_92 rfl 3 rfl ?_
        refine r_iconst (pc := 93) (v := 1) C d_St_carryOut_93 (by decide) ?_
        obtain ⟨hi109, h⟩ := ign h
        refine r_zast (pc := 94) (ws' := WC ad cI cZ x s d o (upd t.1 ((q97 * (6 : Int32)) + q98).toNatClampNeg ((t.1 ((q97 * (6 : Int32)) + q98).toNatClampNeg) + q101), t.2.1, upd t.2.2.1 q97.toNatClampNeg (vp_nar .boolean (1)), t.2.2.2) s2 d2 rest) C 7 1 rfl rfl hi109 rfl d_St_carryOut_94 ?_
        refine r_aload_n (pc := 95) C d_St_carryOut_95 rfl 4 rfl ?_
        refine r_get (pc := 96) (v := .ref (ad 9)) C hin_St 10 rfl rfl 2 (by decide) m_1 rfl rfl d_St_carryOut_96 ?_
        refine r_iload (pc := 99) C d_St_carryOut_99 1 rfl ?_
        obtain ⟨hi108, h⟩ := ign h
        refine r_iald (pc := 101) C 9 0 rfl rfl hi108 d_St_carryOut_101 ?_
        refine r_if_ge (pc := 102) (tgt := 115) C d_St_carryOut_102 (by decide) (fun c107 => ?_) (fun c107 => ?_)
        · replace h := ip c107 h
          refine r_aload_n (pc := 115) C d_St_carryOut_115 rfl 4 rfl ?_
          refine r_get (pc := 116) (v := .ref (ad 19)) C hin_St 10 rfl rfl 0 (by decide) m_4 rfl rfl d_St_carryOut_116 ?_
          refine r_iload_n (pc := 119) C d_St_carryOut_119 rfl 5 rfl ?_
          obtain ⟨q103, hq103, h⟩ := ob h
          refine r_callV (pc := 120) (As := [.int p0]) (rest := []) (st1 := [.int q103]) hE gg_good C hX (c_Dr_lies_D hE hq103) m_43 m_44 m_45 m_12 m_46 hd_Dr_lies 19 rfl rfl ⟨⟨(Nat.le_of_ble_eq_true rfl), (Nat.le_of_ble_eq_true rfl)⟩, (Nat.le_of_ble_eq_true rfl), (Nat.le_of_ble_eq_true rfl)⟩ (Nat.le_of_ble_eq_true rfl) rfl rfl d_St_carryOut_120 ?_
          refine r_if_eq (pc := 123) (tgt := 137) C d_St_carryOut_123 (by decide) (fun c104 => ?_) (fun c104 => ?_)
          · replace h := ip c104 h
            cases h
            exact r_vret (pc := 137) C hr rfl rfl d_St_carryOut_137
          · replace h := iN c104 h
            refine r_aload_n (pc := 126) C d_St_carryOut_126 rfl 4 rfl ?_
            refine r_dup (pc := 127) C d_St_carryOut_127 rfl ?_
            refine r_get (pc := 128) (v := .int t.2.2.2) C hin_St 10 rfl rfl 5 (by decide) m_0 rfl rfl d_St_carryOut_128 ?_
            refine r_bipush (pc := 131) (v := 8) C d_St_carryOut_131 (by decide) ?_
            refine r_ior (pc := 133) C d_St_carryOut_133 ?_
            refine r_put (pc := 134) (ty := .int) (ws' := WC ad cI cZ x s d o (upd t.1 ((q97 * (6 : Int32)) + q98).toNatClampNeg ((t.1 ((q97 * (6 : Int32)) + q98).toNatClampNeg) + q101), t.2.1, upd t.2.2.1 q97.toNatClampNeg (vp_nar .boolean (1)), t.2.2.2 ||| (8 : Int32)) s2 d2 rest) C hin_St t_St t_St_ok n_St 10 rfl rfl 5 (by decide) m_0 rfl rfl pd_I rfl rfl (Nat.le_of_ble_eq_true rfl) rfl d_St_carryOut_134 ?_
            cases h
            exact r_vret (pc := 137) C hr rfl rfl d_St_carryOut_137
        · replace h := iN c107 h
          refine r_aload_n (pc := 105) C d_St_carryOut_105 rfl 4 rfl ?_
          refine r_dup (pc := 106) C d_St_carryOut_106 rfl ?_
          refine r_get (pc := 107) (v := .int t.2.2.2) C hin_St 10 rfl rfl 5 (by decide) m_0 rfl rfl d_St_carryOut_107 ?_
          refine r_iconst (pc := 110) (v := 2) C d_St_carryOut_110 (by decide) ?_
          refine r_ior (pc := 111) C d_St_carryOut_111 ?_
          refine r_put (pc := 112) (ty := .int) (ws' := WC ad cI cZ x s d o (upd t.1 ((q97 * (6 : Int32)) + q98).toNatClampNeg ((t.1 ((q97 * (6 : Int32)) + q98).toNatClampNeg) + q101), t.2.1, upd t.2.2.1 q97.toNatClampNeg (vp_nar .boolean (1)), t.2.2.2 ||| (2 : Int32)) s2 d2 rest) C hin_St t_St t_St_ok n_St 10 rfl rfl 5 (by decide) m_0 rfl rfl pd_I rfl rfl (Nat.le_of_ble_eq_true rfl) rfl d_St_carryOut_112 ?_
          refine r_aload_n (pc := 115) C d_St_carryOut_115 rfl 4 rfl ?_
          refine r_get (pc := 116) (v := .ref (ad 19)) C hin_St 10 rfl rfl 0 (by decide) m_4 rfl rfl d_St_carryOut_116 ?_
          refine r_iload_n (pc := 119) C d_St_carryOut_119 rfl 5 rfl ?_
          obtain ⟨q105, hq105, h⟩ := ob h
          refine r_callV (pc := 120) (As := [.int p0]) (rest := []) (st1 := [.int q105]) hE gg_good C hX (c_Dr_lies_D hE hq105) m_43 m_44 m_45 m_12 m_46 hd_Dr_lies 19 rfl rfl ⟨⟨(Nat.le_of_ble_eq_true rfl), (Nat.le_of_ble_eq_true rfl)⟩, (Nat.le_of_ble_eq_true rfl), (Nat.le_of_ble_eq_true rfl)⟩ (Nat.le_of_ble_eq_true rfl) rfl rfl d_St_carryOut_120 ?_
          refine r_if_eq (pc := 123) (tgt := 137) C d_St_carryOut_123 (by decide) (fun c106 => ?_) (fun c106 => ?_)
          · replace h := ip c106 h
            cases h
            exact r_vret (pc := 137) C hr rfl rfl d_St_carryOut_137
          · replace h := iN c106 h
            refine r_aload_n (pc := 126) C d_St_carryOut_126 rfl 4 rfl ?_
            refine r_dup (pc := 127) C d_St_carryOut_127 rfl ?_
            refine r_get (pc := 128) (v := .int (t.2.2.2 ||| (2 : Int32))) C hin_St 10 rfl rfl 5 (by decide) m_0 rfl rfl d_St_carryOut_128 ?_
            refine r_bipush (pc := 131) (v := 8) C d_St_carryOut_131 (by decide) ?_
            refine r_ior (pc := 133) C d_St_carryOut_133 ?_
            refine r_put (pc := 134) (ty := .int) (ws' := WC ad cI cZ x s d o (upd t.1 ((q97 * (6 : Int32)) + q98).toNatClampNeg ((t.1 ((q97 * (6 : Int32)) + q98).toNatClampNeg) + q101), t.2.1, upd t.2.2.1 q97.toNatClampNeg (vp_nar .boolean (1)), (t.2.2.2 ||| (2 : Int32)) ||| (8 : Int32)) s2 d2 rest) C hin_St t_St t_St_ok n_St 10 rfl rfl 5 (by decide) m_0 rfl rfl pd_I rfl rfl (Nat.le_of_ble_eq_true rfl) rfl d_St_carryOut_134 ?_
            cases h
            exact r_vret (pc := 137) C hr rfl rfl d_St_carryOut_137
      · replace h := iN c119 h
        refine r_iload (pc := 78) C d_St_carryOut_78 0 rfl ?_
        refine r_ineg (pc := 80) C d_St_carryOut_80 ?_
        refine r_goto (pc := 81) (tgt := 86) C d_St_carryOut_81 (by decide) ?_
        refine r_iadd (pc := 86) C d_St_carryOut_86 ?_
        obtain ⟨hi118, h⟩ := ign h
        refine r_iast (pc := 87) (ws' := WC ad cI cZ x s d o (upd t.1 ((q97 * (6 : Int32)) + q98).toNatClampNeg ((t.1 ((q97 * (6 : Int32)) + q98).toNatClampNeg) + (-q101)), t.2.1, t.2.2.1, t.2.2.2) s2 d2 rest) C 9 0 rfl rfl hi118 rfl d_St_carryOut_87 ?_
        refine r_aload_n (pc := 88) C d_St_carryOut_88 rfl 4 rfl ?_
        refine r_get (pc := 89) (v := .ref (ad 7)) C hin_St 10 rfl rfl 4 (by decide) m_3 rfl rfl d_St_carryOut_89 ?_
        refine r_iload_n (pc := 92) C d_St_carryOut_92 rfl 3 rfl ?_
        refine r_iconst (pc := 93) (v := 1) C d_St_carryOut_93 (by decide) ?_
        obtain ⟨hi117, h⟩ := ign h
        refine r_zast (pc := 94) (ws' := WC ad cI cZ x s d o (upd t.1 ((q97 * (6 : Int32)) + q98).toNatClampNeg ((t.1 ((q97 * (6 : Int32)) + q98).toNatClampNeg) + (-q101)), t.2.1, upd t.2.2.1 q97.toNatClampNeg (vp_nar .boolean (1)), t.2.2.2) s2 d2 rest) C 7 1 rfl rfl hi117 rfl d_St_carryOut_94 ?_
        refine r_aload_n (pc := 95) C d_St_carryOut_95 rfl 4 rfl ?_
        refine r_get (pc := 96) (v := .ref (ad 9)) C hin_St 10 rfl rfl 2 (by decide) m_1 rfl rfl d_St_carryOut_96 ?_
        refine r_iload (pc := 99) C d_St_carryOut_99 1 rfl ?_
        obtain ⟨hi116, h⟩ := ign h
        refine r_iald (pc := 101) C 9 0 rfl rfl hi116 d_St_carryOut_101 ?_
        refine r_if_ge (pc := 102) (tgt := 115) C d_St_carryOut_102 (by decide) (fun c115 => ?_) (fun c115 => ?_)
        · replace h := ip c115 h
          refine r_aload_n (pc := 115) C d_St_carryOut_115 rfl 4 rfl ?_
          refine r_get (pc := 116) (v := .ref (ad 19)) C hin_St 10 rfl rfl 0 (by decide) m_4 rfl rfl d_St_carryOut_116 ?_
          refine r_iload_n (pc := 119) C d_St_carryOut_119 rfl 5 rfl ?_
          obtain ⟨q111, hq111, h⟩ := ob h
          refine r_callV (pc := 120) (As := [.int p0]) (rest := []) (st1 := [.int q111]) hE gg_good C hX (c_Dr_lies_D hE hq111) m_43 m_44 m_45 m_12 m_46 hd_Dr_lies 19 rfl rfl ⟨⟨(Nat.le_of_ble_eq_true rfl), (Nat.le_of_ble_eq_true rfl)⟩, (Nat.le_of_ble_eq_true rfl), (Nat.le_of_ble_eq_true rfl)⟩ (Nat.le_of_ble_eq_true rfl) rfl rfl d_St_carryOut_120 ?_
          refine r_if_eq (pc := 123) (tgt := 137) C d_St_carryOut_123 (by decide) (fun c112 => ?_) (fun c112 => ?_)
          · replace h := ip c112 h
            cases h
            exact r_vret (pc := 137) C hr rfl rfl d_St_carryOut_137
          · replace h := iN c112 h
            refine r_aload_n (pc := 126) C d_St_carryOut_126 rfl 4 rfl ?_
            refine r_dup (pc := 127) C d_St_carryOut_127 rfl ?_
            refine r_get (pc := 128) (v := .int t.2.2.2) C hin_St 10 rfl rfl 5 (by decide) m_0 rfl rfl d_St_carryOut_128 ?_
            refine r_bipush (pc := 131) (v := 8) C d_St_carryOut_131 (by decide) ?_
            refine r_ior (pc := 133) C d_St_carryOut_133 ?_
            refine r_put (pc := 134) (ty := .int) (ws' := WC ad cI cZ x s d o (upd t.1 ((q97 * (6 : Int32)) + q98).toNatClampNeg ((t.1 ((q97 * (6 : Int32)) + q98).toNatClampNeg) + (-q101)), t.2.1, upd t.2.2.1 q97.toNatClampNeg (vp_nar .boolean (1)), t.2.2.2 ||| (8 : Int32)) s2 d2 rest) C hin_St t_St t_St_ok n_St 10 rfl rfl 5 (by decide) m_0 rfl rfl pd_I rfl rfl (Nat.le_of_ble_eq_true rfl) rfl d_St_carryOut_134 ?_
            cases h
            exact r_vret (pc := 137) C hr rfl rfl d_St_carryOut_137
        · replace h := iN c115 h
          refine r_aload_n (pc := 105) C d_St_carryOut_105 rfl 4 rfl ?_
          refine r_dup (pc := 106) C d_St_carryOut_106 rfl ?_
          refine r_get (pc := 107) (v := .int t.2.2.2) C hin_St 10 rfl rfl 5 (by decide) m_0 rfl rfl d_St_carryOut_107 ?_
          refine r_iconst (pc := 110) (v := 2) C d_St_carryOut_110 (by decide) ?_
          refine r_ior (pc := 111) C d_St_carryOut_111 ?_
          refine r_put (pc := 112) (ty := .int) (ws' := WC ad cI cZ x s d o (upd t.1 ((q97 * (6 : Int32)) + q98).toNatClampNeg ((t.1 ((q97 * (6 : Int32)) + q98).toNatClampNeg) + (-q101)), t.2.1, upd t.2.2.1 q97.toNatClampNeg (vp_nar .boolean (1)), t.2.2.2 ||| (2 : Int32)) s2 d2 rest) C hin_St t_St t_St_ok n_St 10 rfl rfl 5 (by decide) m_0 rfl rfl pd_I rfl rfl (Nat.le_of_ble_eq_true rfl) rfl d_St_carryOut_112 ?_
          refine r_aload_n (pc := 115) C d_St_carryOut_115 rfl 4 rfl ?_
          refine r_get (pc := 116) (v := .ref (ad 19)) C hin_St 10 rfl rfl 0 (by decide) m_4 rfl rfl d_St_carryOut_116 ?_
          refine r_iload_n (pc := 119) C d_St_carryOut_119 rfl 5 rfl ?_
          obtain ⟨q113, hq113, h⟩ := ob h
          refine r_callV (pc := 120) (As := [.int p0]) (rest := []) (st1 := [.int q113]) hE gg_good C hX (c_Dr_lies_D hE hq113) m_43 m_44 m_45 m_12 m_46 hd_Dr_lies 19 rfl rfl ⟨⟨(Nat.le_of_ble_eq_true rfl), (Nat.le_of_ble_eq_true rfl)⟩, (Nat.le_of_ble_eq_true rfl), (Nat.le_of_ble_eq_true rfl)⟩ (Nat.le_of_ble_eq_true rfl) rfl rfl d_St_carryOut_120 ?_
          refine r_if_eq (pc := 123) (tgt := 137) C d_St_carryOut_123 (by decide) (fun c114 => ?_) (fun c114 => ?_)
          · replace h := ip c114 h
            cases h
            exact r_vret (pc := 137) C hr rfl rfl d_St_carryOut_137
          · replace h := iN c114 h
            refine r_aload_n (pc := 126) C d_St_carryOut_126 rfl 4 rfl ?_
            refine r_dup (pc := 127) C d_St_carryOut_127 rfl ?_
            refine r_get (pc := 128) (v := .int (t.2.2.2 ||| (2 : Int32))) C hin_St 10 rfl rfl 5 (by decide) m_0 rfl rfl d_St_carryOut_128 ?_
            refine r_bipush (pc := 131) (v := 8) C d_St_carryOut_131 (by decide) ?_
            refine r_ior (pc := 133) C d_St_carryOut_133 ?_
            refine r_put (pc := 134) (ty := .int) (ws' := WC ad cI cZ x s d o (upd t.1 ((q97 * (6 : Int32)) + q98).toNatClampNeg ((t.1 ((q97 * (6 : Int32)) + q98).toNatClampNeg) + (-q101)), t.2.1, upd t.2.2.1 q97.toNatClampNeg (vp_nar .boolean (1)), (t.2.2.2 ||| (2 : Int32)) ||| (8 : Int32)) s2 d2 rest) C hin_St t_St t_St_ok n_St 10 rfl rfl 5 (by decide) m_0 rfl rfl pd_I rfl rfl (Nat.le_of_ble_eq_true rfl) rfl d_St_carryOut_134 ?_
            cases h
            exact r_vret (pc := 137) C hr rfl rfl d_St_carryOut_137
    · replace h := ip c121 h
      cases h
      exact r_vret (pc := 40) C hr rfl rfl d_St_carryOut_40
def f_Dr_goodCount (d : DD) : Option (Int32) :=
  some d.2.2.2.1
abbrev rm_Dr_goodCount : Room := { frames := 0, cells := 0, slots := 0, locals := 0 }
theorem hd_Dr_goodCount : y_Dr_goodCount.cls ≠ "java/lang/invoke/MethodHandle" ∧ y_Dr_goodCount.cls ≠ "java/lang/invoke/VarHandle" ∧ (parseMethodDescriptor y_Dr_goodCount.desc).map (fun d => d.parameters.length) = some 0 := by decide +kernel
set_option maxHeartbeats 4000000 in
set_option maxRecDepth 100000 in
theorem c_Dr_goodCount_D {l : Launch} {E : State → Heap → Prop} {D : va_G} {A : Nat → Prop} {cI cZ cJ : ClassId} (hE : stb A E) {ad : Nat → Nat} {x : Int32} {s : Int64} {d : DD} {o : (Nat → Int32)} {t : TT} {s2 : Int64} {d2 : DD} {rest : va_W} {q : Int32} (h : f_Dr_goodCount d = some q) : cm l E D clsA (TY cI cZ cJ) A GG y_Dr_goodCount b_Dr_goodCount 1 (some .int) rm_Dr_goodCount [.ref (ad 19)] (WC ad cI cZ x s d o t s2 d2 rest) (some (.int q)) (WC ad cI cZ x s d o t s2 d2 rest) := by
  refine r_met (own := R_Dr) rfl (by decide) (Nat.le_of_ble_eq_true rfl) rfl ?_
  intro p e sg m args below meth c C hr hnm hX
  unfold f_Dr_goodCount at h
  refine r_aload_n (pc := 0) C d_Dr_goodCount_0 rfl 0 rfl ?_
  refine r_get (pc := 1) (v := .int d.2.2.2.1) C hin_Dr 19 rfl rfl 3 (by decide) m_15 rfl rfl d_Dr_goodCount_1 ?_
  cases h
  exact r_iret (pc := 4) C hr rfl rfl rfl d_Dr_goodCount_4
def f_St_stockAt (d : DD) (t : TT) (p0 : Int32) (p1 : Int32) : Option (Int32) :=
  Option.bind (f_Dr_hasPlace d p0) (fun q127 => (if q127 = 0 then some (0) else Option.bind (f_Dr_hasGood d p1) (fun q128 => (if q128 = 0 then some (0) else (if (((p0 * (6 : Int32)) + p1) < 0 ∨ 36 ≤ ((p0 * (6 : Int32)) + p1).toNatClampNeg) then none else some (t.1 ((p0 * (6 : Int32)) + p1).toNatClampNeg))))))
abbrev rm_St_stockAt : Room := { frames := 1, cells := 0, slots := 0, locals := 21 }
theorem hd_St_stockAt : y_St_stockAt.cls ≠ "java/lang/invoke/MethodHandle" ∧ y_St_stockAt.cls ≠ "java/lang/invoke/VarHandle" ∧ (parseMethodDescriptor y_St_stockAt.desc).map (fun d => d.parameters.length) = some 2 := by decide +kernel
set_option maxHeartbeats 4000000 in
set_option maxRecDepth 100000 in
theorem c_St_stockAt_T {l : Launch} {E : State → Heap → Prop} {D : va_G} {A : Nat → Prop} {cI cZ cJ : ClassId} (hE : stb A E) {ad : Nat → Nat} {x : Int32} {s : Int64} {d : DD} {o : (Nat → Int32)} {t : TT} {s2 : Int64} {d2 : DD} {rest : va_W} {p0 : Int32} {p1 : Int32} {q : Int32} (h : f_St_stockAt d t p0 p1 = some q) : cm l E D clsA (TY cI cZ cJ) A GG y_St_stockAt b_St_stockAt 3 (some .int) rm_St_stockAt [.ref (ad 10), .int p0, .int p1] (WC ad cI cZ x s d o t s2 d2 rest) (some (.int q)) (WC ad cI cZ x s d o t s2 d2 rest) := by
  refine r_met (own := R_St) rfl (by decide) (Nat.le_of_ble_eq_true rfl) rfl ?_
  intro p e sg m args below meth c C hr hnm hX
  unfold f_St_stockAt at h
  refine r_aload_n (pc := 0) C d_St_stockAt_0 rfl 0 rfl ?_
  refine r_get (pc := 1) (v := .ref (ad 19)) C hin_St 10 rfl rfl 0 (by decide) m_4 rfl rfl d_St_stockAt_1 ?_
  refine r_iload_n (pc := 4) C d_St_stockAt_4 rfl 1 rfl ?_
  obtain ⟨q127, hq127, h⟩ := ob h
  refine r_callV (pc := 5) (As := [.int p0]) (rest := []) (st1 := [.int q127]) hE gg_good C hX (c_Dr_hasPlace_D hE hq127) m_59 m_60 m_61 m_12 m_62 hd_Dr_hasPlace 19 rfl rfl ⟨⟨(Nat.le_of_ble_eq_true rfl), (Nat.le_of_ble_eq_true rfl)⟩, (Nat.le_of_ble_eq_true rfl), (Nat.le_of_ble_eq_true rfl)⟩ (Nat.le_of_ble_eq_true rfl) rfl rfl d_St_stockAt_5 ?_
  refine r_if_eq (pc := 8) (tgt := 22) C d_St_stockAt_8 (by decide) (fun c131 => ?_) (fun c131 => ?_)
  · replace h := ip c131 h
    refine r_iconst (pc := 22) (v := 0) C d_St_stockAt_22 (by decide) ?_
    cases h
    exact r_iret (pc := 23) C hr rfl rfl rfl d_St_stockAt_23
  · replace h := iN c131 h
    refine r_aload_n (pc := 11) C d_St_stockAt_11 rfl 0 rfl ?_
    refine r_get (pc := 12) (v := .ref (ad 19)) C hin_St 10 rfl rfl 0 (by decide) m_4 rfl rfl d_St_stockAt_12 ?_
    refine r_iload_n (pc := 15) C d_St_stockAt_15 rfl 2 rfl ?_
    obtain ⟨q128, hq128, h⟩ := ob h
    refine r_callV (pc := 16) (As := [.int p1]) (rest := []) (st1 := [.int q128]) hE gg_good C hX (c_Dr_hasGood_D hE hq128) m_55 m_56 m_57 m_12 m_58 hd_Dr_hasGood 19 rfl rfl ⟨⟨(Nat.le_of_ble_eq_true rfl), (Nat.le_of_ble_eq_true rfl)⟩, (Nat.le_of_ble_eq_true rfl), (Nat.le_of_ble_eq_true rfl)⟩ (Nat.le_of_ble_eq_true rfl) rfl rfl d_St_stockAt_16 ?_
    refine r_if_ne (pc := 19) (tgt := 24) C d_St_stockAt_19 (by decide) (fun c130 => ?_) (fun c130 => ?_)
    · replace h := iN c130 h
      refine r_aload_n (pc := 24) C d_St_stockAt_24 rfl 0 rfl ?_
      refine r_get (pc := 25) (v := .ref (ad 9)) C hin_St 10 rfl rfl 2 (by decide) m_1 rfl rfl d_St_stockAt_25 ?_
      refine r_iload_n (pc := 28) C d_St_stockAt_28 rfl 1 rfl ?_
      refine r_bipush (pc := 29) (v := 6) C d_St_stockAt_29 (by decide) ?_
      refine r_imul (pc := 31) C d_St_stockAt_31 ?_
      refine r_iload_n (pc := 32) C d_St_stockAt_32 rfl 2 rfl ?_
      refine r_iadd (pc := 33) C d_St_stockAt_33 ?_
      obtain ⟨hi129, h⟩ := ign h
      refine r_iald (pc := 34) C 9 0 rfl rfl hi129 d_St_stockAt_34 ?_
      cases h
      exact r_iret (pc := 35) C hr rfl rfl rfl d_St_stockAt_35
    · replace h := ip c130 h
      refine r_iconst (pc := 22) (v := 0) C d_St_stockAt_22 (by decide) ?_
      cases h
      exact r_iret (pc := 23) C hr rfl rfl rfl d_St_stockAt_23
def bd_St_weigh_16 (d : DD) (kx : Int32 × Int32 × Int32 × TT → Option (TT)) (rec : Int32 × Int32 × Int32 × TT → Option (TT)) (z : Int32 × Int32 × Int32 × TT) : Option (TT) :=
  Option.bind (f_Dr_goodCount d) (fun q148 => (if q148 ≤ z.2.2.1 then kx (z.1, z.2.1, z.2.2.1, z.2.2.2) else Option.bind (f_St_stockAt d z.2.2.2 z.1 z.2.2.1) (fun q149 => Option.bind (f_Dr_partOfGood d z.2.2.1) (fun q150 => Option.bind (f_Dr_amountOf d q150) (fun q151 => rec (z.1, z.2.1 + ((if (0 : Int32) < q149 then q149 else (0 : Int32)) * q151), z.2.2.1 + 1, z.2.2.2))))))
def f_St_weigh (d : DD) (t : TT) (p0 : Int32) : Option (TT) :=
  Option.bind (f_Dr_hasPlace d p0) (fun q147 => (if q147 = 0 then some t else (itn (bd_St_weigh_16 d (fun z158 => (if (z158.1 < 0 ∨ 6 ≤ z158.1.toNatClampNeg) then none else (if (z158.1 < 0 ∨ 6 ≤ z158.1.toNatClampNeg) then none else Option.bind (f_Dr_amountOf d z158.1) (fun q159 => (if z158.2.1 ≤ q159 then some (z158.2.2.2.1, upd z158.2.2.2.2.1 z158.1.toNatClampNeg (if z158.2.2.2.2.1 z158.1.toNatClampNeg < z158.2.1 then z158.2.1 else z158.2.2.2.2.1 z158.1.toNatClampNeg), z158.2.2.2.2.2.1, z158.2.2.2.2.2.2) else some (z158.2.2.2.1, upd z158.2.2.2.2.1 z158.1.toNatClampNeg (if z158.2.2.2.2.1 z158.1.toNatClampNeg < z158.2.1 then z158.2.1 else z158.2.2.2.2.1 z158.1.toNatClampNeg), z158.2.2.2.2.2.1, z158.2.2.2.2.2.2 ||| (1 : Int32)))))))) 70 (p0, 0, 0, t))))
abbrev rm_St_weigh : Room := { frames := 2, cells := 0, slots := 0, locals := 43 }
theorem hd_St_weigh : y_St_weigh.cls ≠ "java/lang/invoke/MethodHandle" ∧ y_St_weigh.cls ≠ "java/lang/invoke/VarHandle" ∧ (parseMethodDescriptor y_St_weigh.desc).map (fun d => d.parameters.length) = some 1 := by decide +kernel
set_option maxHeartbeats 4000000 in
set_option maxRecDepth 100000 in
theorem vl_St_weigh_16_T {l : Launch} {E : State → Heap → Prop} {D : va_G} {A : Nat → Prop} {cI cZ cJ : ClassId} (hE : stb A E) {ad : Nat → Nat} {x : Int32} {s : Int64} {d : DD} {o : (Nat → Int32)} {s2 : Int64} {d2 : DD} {rest : va_W} {p : Program} {e : Env} {sg : State} {m : MethodId} {args : Array Value} {below : List Frame} {meth : Method} {c : Code} (C : cx p sg m args meth c D clsA (TY cI cZ cJ) A GG R_St b_St_weigh 4) (hr : meth.sig.returnType = none) (hX : E sg sg.heap) {q : TT} {kx : Int32 × Int32 × Int32 × TT → Option (TT)} (K : ∀ z : Int32 × Int32 × Int32 × TT, kx z = some q → vv p l e rm_St_weigh sg m args below meth c D clsA A 4 0 0 (MQ below (qcI D clsA A none (WC ad cI cZ x s d o q s2 d2 rest)) args sg rm_St_weigh.cells rm_St_weigh.slots A) 62 [(0, .ref (ad 10)), (1, .int z.1), (2, .int z.2.1), (3, .int z.2.2.1)] [] (WC ad cI cZ x s d o z.2.2.2 s2 d2 rest)) :
    ∀ (n : Nat) (z : Int32 × Int32 × Int32 × TT), itn (bd_St_weigh_16 d kx) n z = some q → vv p l e rm_St_weigh sg m args below meth c D clsA A 4 0 0 (MQ below (qcI D clsA A none (WC ad cI cZ x s d o q s2 d2 rest)) args sg rm_St_weigh.cells rm_St_weigh.slots A) 16 [(0, .ref (ad 10)), (1, .int z.1), (2, .int z.2.1), (3, .int z.2.2.1)] [] (WC ad cI cZ x s d o z.2.2.2 s2 d2 rest) := by
  have _ := hE
  intro n
  induction n with
  | zero => intro z h; cases h
  | succ n ih =>
    intro z h
    obtain ⟨zv0, zv1, zv2, zv3⟩ := z
    replace h : bd_St_weigh_16 d kx (itn (bd_St_weigh_16 d kx) n) (zv0, zv1, zv2, zv3) = some q := h
    unfold bd_St_weigh_16 at h
    (try dsimp only at h)
    show vv p l e rm_St_weigh sg m args below meth c D clsA A 4 0 0 (MQ below (qcI D clsA A none (WC ad cI cZ x s d o q s2 d2 rest)) args sg rm_St_weigh.cells rm_St_weigh.slots A) 16 [(0, .ref (ad 10)), (1, .int zv0), (2, .int zv1), (3, .int zv2)] [] (WC ad cI cZ x s d o zv3 s2 d2 rest)
    refine r_iload_n (pc := 16) C d_St_weigh_16 rfl 3 rfl ?_
    refine r_aload_n (pc := 17) C d_St_weigh_17 rfl 0 rfl ?_
    refine r_get (pc := 18) (v := .ref (ad 19)) C hin_St 10 rfl rfl 0 (by decide) m_4 rfl rfl d_St_weigh_18 ?_
    obtain ⟨q153, hq153, h⟩ := ob h
    refine r_callV (pc := 21) (As := []) (rest := [.int zv2]) (st1 := [.int q153, .int zv2]) hE gg_good C hX (c_Dr_goodCount_D hE hq153) m_75 m_76 m_77 m_12 m_78 hd_Dr_goodCount 19 rfl rfl ⟨⟨(Nat.le_of_ble_eq_true rfl), (Nat.le_of_ble_eq_true rfl)⟩, (Nat.le_of_ble_eq_true rfl), (Nat.le_of_ble_eq_true rfl)⟩ (Nat.le_of_ble_eq_true rfl) rfl rfl d_St_weigh_21 ?_
    refine r_icmp_ge (pc := 24) (tgt := 62) C d_St_weigh_24 (by decide) (fun c157 => ?_) (fun c157 => ?_)
    · replace h := ip c157 h
      refine r_loc (lv' := [(0, .ref (ad 10)), (1, .int zv0), (2, .int zv1), (3, .int zv2)]) [0, 1, 2, 3] rfl ?_
      exact K (zv0, zv1, zv2, zv3) h
    · replace h := iN c157 h
      refine r_iload_n (pc := 27) C d_St_weigh_27 rfl 2 rfl ?_
      refine r_iconst (pc := 28) (v := 0) C d_St_weigh_28 (by decide) ?_
      refine r_aload_n (pc := 29) C d_St_weigh_29 rfl 0 rfl ?_
      refine r_iload_n (pc := 30) C d_St_weigh_30 rfl 1 rfl ?_
      refine r_iload_n (pc := 31) C d_St_weigh_31 rfl 3 rfl ?_
      obtain ⟨q154, hq154, h⟩ := ob h
      refine r_callV (pc := 32) (As := [.int zv0, .int zv2]) (rest := [.int (0), .int zv1]) (st1 := [.int q154, .int (0), .int zv1]) hE gg_good C hX (c_St_stockAt_T hE hq154) m_70 m_71 m_72 m_73 m_74 hd_St_stockAt 10 rfl rfl ⟨⟨(Nat.le_of_ble_eq_true rfl), (Nat.le_of_ble_eq_true rfl)⟩, (Nat.le_of_ble_eq_true rfl), (Nat.le_of_ble_eq_true rfl)⟩ (Nat.le_of_ble_eq_true rfl) rfl rfl d_St_weigh_32 ?_
      refine r_mmax (pc := 35) C m_65 m_66 m_67 m_68 ⟨(Nat.le_of_ble_eq_true rfl), (Nat.le_of_ble_eq_true rfl), (Nat.le_of_ble_eq_true rfl), (Nat.le_of_ble_eq_true rfl)⟩ d_St_weigh_35 ?_
      refine r_aload_n (pc := 38) C d_St_weigh_38 rfl 0 rfl ?_
      refine r_get (pc := 39) (v := .ref (ad 19)) C hin_St 10 rfl rfl 0 (by decide) m_4 rfl rfl d_St_weigh_39 ?_
      refine r_aload_n (pc := 42) C d_St_weigh_42 rfl 0 rfl ?_
      refine r_get (pc := 43) (v := .ref (ad 19)) C hin_St 10 rfl rfl 0 (by decide) m_4 rfl rfl d_St_weigh_43 ?_
      refine r_iload_n (pc := 46) C d_St_weigh_46 rfl 3 rfl ?_
      obtain ⟨q155, hq155, h⟩ := ob h
      refine r_callV (pc := 47) (As := [.int zv2]) (rest := [.ref (ad 19), .int (if (0 : Int32) < q154 then q154 else (0 : Int32)), .int zv1]) (st1 := [.int q155, .ref (ad 19), .int (if (0 : Int32) < q154 then q154 else (0 : Int32)), .int zv1]) hE gg_good C hX (c_Dr_partOfGood_D hE hq155) m_69 m_25 m_26 m_12 m_27 hd_Dr_partOfGood 19 rfl rfl ⟨⟨(Nat.le_of_ble_eq_true rfl), (Nat.le_of_ble_eq_true rfl)⟩, (Nat.le_of_ble_eq_true rfl), (Nat.le_of_ble_eq_true rfl)⟩ (Nat.le_of_ble_eq_true rfl) rfl rfl d_St_weigh_47 ?_
      obtain ⟨q156, hq156, h⟩ := ob h
      refine r_callV (pc := 50) (As := [.int q155]) (rest := [.int (if (0 : Int32) < q154 then q154 else (0 : Int32)), .int zv1]) (st1 := [.int q156, .int (if (0 : Int32) < q154 then q154 else (0 : Int32)), .int zv1]) hE gg_good C hX (c_Dr_amountOf_D hE hq156) m_51 m_52 m_53 m_12 m_54 hd_Dr_amountOf 19 rfl rfl ⟨⟨(Nat.le_of_ble_eq_true rfl), (Nat.le_of_ble_eq_true rfl)⟩, (Nat.le_of_ble_eq_true rfl), (Nat.le_of_ble_eq_true rfl)⟩ (Nat.le_of_ble_eq_true rfl) rfl rfl d_St_weigh_50 ?_
      refine r_imul (pc := 53) C d_St_weigh_53 ?_
      refine r_iadd (pc := 54) C d_St_weigh_54 ?_
      refine r_istore_n (pc := 55) (lv' := [(2, .int (zv1 + ((if (0 : Int32) < q154 then q154 else (0 : Int32)) * q156))), (0, .ref (ad 10)), (1, .int zv0), (3, .int zv2)]) C d_St_weigh_55 rfl (by decide) rfl ?_
      refine r_iincK (pc := 56) (w0 := 1) (lv' := [(3, .int (zv2 + 1)), (2, .int (zv1 + ((if (0 : Int32) < q154 then q154 else (0 : Int32)) * q156))), (0, .ref (ad 10)), (1, .int zv0)]) C d_St_weigh_56 (by decide) 3 rfl (by decide) rfl ?_
      refine r_goto (pc := 59) (tgt := 16) C d_St_weigh_59 (by decide) ?_
      refine r_loc (lv' := [(0, .ref (ad 10)), (1, .int zv0), (2, .int (zv1 + ((if (0 : Int32) < q154 then q154 else (0 : Int32)) * q156))), (3, .int (zv2 + 1))]) [2, 3, 1, 0] rfl ?_
      exact ih (zv0, zv1 + ((if (0 : Int32) < q154 then q154 else (0 : Int32)) * q156), zv2 + 1, zv3) h
set_option maxHeartbeats 4000000 in
set_option maxRecDepth 100000 in
theorem c_St_weigh_T {l : Launch} {E : State → Heap → Prop} {D : va_G} {A : Nat → Prop} {cI cZ cJ : ClassId} (hE : stb A E) {ad : Nat → Nat} {x : Int32} {s : Int64} {d : DD} {o : (Nat → Int32)} {t : TT} {s2 : Int64} {d2 : DD} {rest : va_W} {p0 : Int32} {q : TT} (h : f_St_weigh d t p0 = some q) : cm l E D clsA (TY cI cZ cJ) A GG y_St_weigh b_St_weigh 4 none rm_St_weigh [.ref (ad 10), .int p0] (WC ad cI cZ x s d o t s2 d2 rest) none (WC ad cI cZ x s d o q s2 d2 rest) := by
  refine r_met (own := R_St) rfl (by decide) (Nat.le_of_ble_eq_true rfl) rfl ?_
  intro p e sg m args below meth c C hr hnm hX
  unfold f_St_weigh at h
  refine r_aload_n (pc := 0) C d_St_weigh_0 rfl 0 rfl ?_
  refine r_get (pc := 1) (v := .ref (ad 19)) C hin_St 10 rfl rfl 0 (by decide) m_4 rfl rfl d_St_weigh_1 ?_
  refine r_iload_n (pc := 4) C d_St_weigh_4 rfl 1 rfl ?_
  obtain ⟨q147, hq147, h⟩ := ob h
  refine r_callV (pc := 5) (As := [.int p0]) (rest := []) (st1 := [.int q147]) hE gg_good C hX (c_Dr_hasPlace_D hE hq147) m_59 m_60 m_61 m_12 m_62 hd_Dr_hasPlace 19 rfl rfl ⟨⟨(Nat.le_of_ble_eq_true rfl), (Nat.le_of_ble_eq_true rfl)⟩, (Nat.le_of_ble_eq_true rfl), (Nat.le_of_ble_eq_true rfl)⟩ (Nat.le_of_ble_eq_true rfl) rfl rfl d_St_weigh_5 ?_
  refine r_if_ne (pc := 8) (tgt := 12) C d_St_weigh_8 (by decide) (fun c163 => ?_) (fun c163 => ?_)
  · replace h := iN c163 h
    refine r_iconst (pc := 12) (v := 0) C d_St_weigh_12 (by decide) ?_
    refine r_istore_n (pc := 13) (lv' := [(2, .int (0)), (0, .ref (ad 10)), (1, .int p0)]) C d_St_weigh_13 rfl (by decide) rfl ?_
    refine r_iconst (pc := 14) (v := 0) C d_St_weigh_14 (by decide) ?_
    refine r_istore_n (pc := 15) (lv' := [(3, .int (0)), (2, .int (0)), (0, .ref (ad 10)), (1, .int p0)]) C d_St_weigh_15 rfl (by decide) rfl ?_
    refine r_loc (lv' := [(0, .ref (ad 10)), (1, .int p0), (2, .int (0)), (3, .int (0))]) [2, 3, 1, 0] rfl ?_
    refine vl_St_weigh_16_T hE C hr hX (fun z158 h => ?_) 70 (p0, 0, 0, t) h
    refine r_aload_n (pc := 62) C d_St_weigh_62 rfl 0 rfl ?_
    refine r_get (pc := 63) (v := .ref (ad 8)) C hin_St 10 rfl rfl 3 (by decide) m_2 rfl rfl d_St_weigh_63 ?_
    refine r_iload_n (pc := 66) C d_St_weigh_66 rfl 1 rfl ?_
    refine r_aload_n (pc := 67) C d_St_weigh_67 rfl 0 rfl ?_
    refine r_get (pc := 68) (v := .ref (ad 8)) C hin_St 10 rfl rfl 3 (by decide) m_2 rfl rfl d_St_weigh_68 ?_
    refine r_iload_n (pc := 71) C d_St_weigh_71 rfl 1 rfl ?_
    obtain ⟨hi162, h⟩ := ign h
    refine r_iald (pc := 72) C 8 0 rfl rfl hi162 d_St_weigh_72 ?_
    refine r_iload_n (pc := 73) C d_St_weigh_73 rfl 2 rfl ?_
    refine r_mmax (pc := 74) C m_65 m_66 m_67 m_68 ⟨(Nat.le_of_ble_eq_true rfl), (Nat.le_of_ble_eq_true rfl), (Nat.le_of_ble_eq_true rfl), (Nat.le_of_ble_eq_true rfl)⟩ d_St_weigh_74 ?_
    obtain ⟨hi161, h⟩ := ign h
    refine r_iast (pc := 77) (ws' := WC ad cI cZ x s d o (z158.2.2.2.1, upd z158.2.2.2.2.1 z158.1.toNatClampNeg (if z158.2.2.2.2.1 z158.1.toNatClampNeg < z158.2.1 then z158.2.1 else z158.2.2.2.2.1 z158.1.toNatClampNeg), z158.2.2.2.2.2.1, z158.2.2.2.2.2.2) s2 d2 rest) C 8 0 rfl rfl hi161 rfl d_St_weigh_77 ?_
    refine r_iload_n (pc := 78) C d_St_weigh_78 rfl 2 rfl ?_
    refine r_aload_n (pc := 79) C d_St_weigh_79 rfl 0 rfl ?_
    refine r_get (pc := 80) (v := .ref (ad 19)) C hin_St 10 rfl rfl 0 (by decide) m_4 rfl rfl d_St_weigh_80 ?_
    refine r_iload_n (pc := 83) C d_St_weigh_83 rfl 1 rfl ?_
    obtain ⟨q159, hq159, h⟩ := ob h
    refine r_callV (pc := 84) (As := [.int z158.1]) (rest := [.int z158.2.1]) (st1 := [.int q159, .int z158.2.1]) hE gg_good C hX (c_Dr_amountOf_D hE hq159) m_51 m_52 m_53 m_12 m_54 hd_Dr_amountOf 19 rfl rfl ⟨⟨(Nat.le_of_ble_eq_true rfl), (Nat.le_of_ble_eq_true rfl)⟩, (Nat.le_of_ble_eq_true rfl), (Nat.le_of_ble_eq_true rfl)⟩ (Nat.le_of_ble_eq_true rfl) rfl rfl d_St_weigh_84 ?_
    refine r_icmp_le (pc := 87) (tgt := 100) C d_St_weigh_87 (by decide) (fun c160 => ?_) (fun c160 => ?_)
    · replace h := ip c160 h
      cases h
      exact r_vret (pc := 100) C hr rfl rfl d_St_weigh_100
    · replace h := iN c160 h
      refine r_aload_n (pc := 90) C d_St_weigh_90 rfl 0 rfl ?_
      refine r_dup (pc := 91) C d_St_weigh_91 rfl ?_
      refine r_get (pc := 92) (v := .int z158.2.2.2.2.2.2) C hin_St 10 rfl rfl 5 (by decide) m_0 rfl rfl d_St_weigh_92 ?_
      refine r_iconst (pc := 95) (v := 1) C d_St_weigh_95 (by decide) ?_
      refine r_ior (pc := 96) C d_St_weigh_96 ?_
      refine r_put (pc := 97) (ty := .int) (ws' := WC ad cI cZ x s d o (z158.2.2.2.1, upd z158.2.2.2.2.1 z158.1.toNatClampNeg (if z158.2.2.2.2.1 z158.1.toNatClampNeg < z158.2.1 then z158.2.1 else z158.2.2.2.2.1 z158.1.toNatClampNeg), z158.2.2.2.2.2.1, z158.2.2.2.2.2.2 ||| (1 : Int32)) s2 d2 rest) C hin_St t_St t_St_ok n_St 10 rfl rfl 5 (by decide) m_0 rfl rfl pd_I rfl rfl (Nat.le_of_ble_eq_true rfl) rfl d_St_weigh_97 ?_
      cases h
      exact r_vret (pc := 100) C hr rfl rfl d_St_weigh_100
  · replace h := ip c163 h
    cases h
    exact r_vret (pc := 11) C hr rfl rfl d_St_weigh_11
