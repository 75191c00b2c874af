def f_St_compare (d : DD) (t : TT) (p0 : Int32) (p1 : Int32) : Option (TT) :=
  Option.bind (f_Dr_has d p0) (fun q179 => (if q179 = 0 then some t else Option.bind (f_Dr_placeOf d p0) (fun q180 => Option.bind (f_Dr_placeOf d p1) (fun q181 => (if q180 = q181 then Option.bind (f_Dr_goodOf d p0) (fun q182 => Option.bind (f_Dr_goodOf d p1) (fun q183 => (if q182 = q183 then Option.bind (f_Dr_amountOf d p0) (fun q184 => Option.bind (f_Dr_amountOf d p1) (fun q185 => (if q184 = q185 then Option.bind (f_Dr_takes d p0) (fun q186 => Option.bind (f_Dr_takes d p1) (fun q187 => (if q186 = q187 then some t else some (t.1, t.2.1, t.2.2.1, t.2.2.2 ||| (4 : Int32))))) else some t))) else some t))) else some t)))))
abbrev rm_St_compare : Room := { frames := 2, cells := 0, slots := 0, locals := 42 }
theorem hd_St_compare : y_St_compare.cls ≠ "java/lang/invoke/MethodHandle" ∧ y_St_compare.cls ≠ "java/lang/invoke/VarHandle" ∧ (parseMethodDescriptor y_St_compare.desc).map (fun d => d.parameters.length) = some 2 := by decide +kernel
set_option maxHeartbeats 4000000 in
set_option maxRecDepth 100000 in
theorem c_St_compare_T {l : Launch} {E : State → Heap → Prop} {D : va_G} {A : Nat → Prop} {cI cZ cJ : ClassId} (hE : stb A E) {ad : Nat → Nat} {x : Int32} {s : Int64} {d : DD} {o : (Nat → Int32)} {t : TT} {s2 : Int64} {d2 : DD} {rest : va_W} {p0 : Int32} {p1 : Int32} {q : TT} (h : f_St_compare d t p0 p1 = some q) : cm l E D clsA (TY cI cZ cJ) A GG y_St_compare b_St_compare 3 none rm_St_compare [.ref (ad 10), .int p0, .int p1] (WC ad cI cZ x s d o t s2 d2 rest) none (WC ad cI cZ x s d o q s2 d2 rest) := by
  refine r_met (own := R_St) rfl (by decide) (Nat.le_of_ble_eq_true rfl) rfl ?_
  intro p e sg m args below meth c C hr hnm hX
  unfold f_St_compare at h
  refine r_aload_n (pc := 0) C d_St_compare_0 rfl 0 rfl ?_
  refine r_get (pc := 1) (v := .ref (ad 19)) C hin_St 10 rfl rfl 0 (by decide) m_4 rfl rfl d_St_compare_1 ?_
  refine r_iload_n (pc := 4) C d_St_compare_4 rfl 1 rfl ?_
  obtain ⟨q179, hq179, h⟩ := ob h
  refine r_callV (pc := 5) (As := [.int p0]) (rest := []) (st1 := [.int q179]) hE gg_good C hX (c_Dr_has_D hE hq179) m_79 m_10 m_11 m_12 m_13 hd_Dr_has 19 rfl rfl ⟨⟨(Nat.le_of_ble_eq_true rfl), (Nat.le_of_ble_eq_true rfl)⟩, (Nat.le_of_ble_eq_true rfl), (Nat.le_of_ble_eq_true rfl)⟩ (Nat.le_of_ble_eq_true rfl) rfl rfl d_St_compare_5 ?_
  refine r_if_eq (pc := 8) (tgt := 97) C d_St_compare_8 (by decide) (fun c192 => ?_) (fun c192 => ?_)
  · replace h := ip c192 h
    cases h
    exact r_vret (pc := 97) C hr rfl rfl d_St_compare_97
  · replace h := iN c192 h
    refine r_aload_n (pc := 11) C d_St_compare_11 rfl 0 rfl ?_
    refine r_get (pc := 12) (v := .ref (ad 19)) C hin_St 10 rfl rfl 0 (by decide) m_4 rfl rfl d_St_compare_12 ?_
    refine r_iload_n (pc := 15) C d_St_compare_15 rfl 1 rfl ?_
    obtain ⟨q180, hq180, h⟩ := ob h
    refine r_callV (pc := 16) (As := [.int p0]) (rest := []) (st1 := [.int q180]) hE gg_good C hX (c_Dr_placeOf_D hE hq180) m_64 m_33 m_34 m_12 m_35 hd_Dr_placeOf 19 rfl rfl ⟨⟨(Nat.le_of_ble_eq_true rfl), (Nat.le_of_ble_eq_true rfl)⟩, (Nat.le_of_ble_eq_true rfl), (Nat.le_of_ble_eq_true rfl)⟩ (Nat.le_of_ble_eq_true rfl) rfl rfl d_St_compare_16 ?_
    refine r_aload_n (pc := 19) C d_St_compare_19 rfl 0 rfl ?_
    refine r_get (pc := 20) (v := .ref (ad 19)) C hin_St 10 rfl rfl 0 (by decide) m_4 rfl rfl d_St_compare_20 ?_
    refine r_iload_n (pc := 23) C d_St_compare_23 rfl 2 rfl ?_
    obtain ⟨q181, hq181, h⟩ := ob h
    refine r_callV (pc := 24) (As := [.int p1]) (rest := [.int q180]) (st1 := [.int q181, .int q180]) hE gg_good C hX (c_Dr_placeOf_D hE hq181) m_64 m_33 m_34 m_12 m_35 hd_Dr_placeOf 19 rfl rfl ⟨⟨(Nat.le_of_ble_eq_true rfl), (Nat.le_of_ble_eq_true rfl)⟩, (Nat.le_of_ble_eq_true rfl), (Nat.le_of_ble_eq_true rfl)⟩ (Nat.le_of_ble_eq_true rfl) rfl rfl d_St_compare_24 ?_
    refine r_icmp_ne (pc := 27) (tgt := 97) C d_St_compare_27 (by decide) (fun c191 => ?_) (fun c191 => ?_)
    · replace h := iN c191 h
      cases h
      exact r_vret (pc := 97) C hr rfl rfl d_St_compare_97
    · replace h := ip c191 h
      refine r_aload_n (pc := 30) C d_St_compare_30 rfl 0 rfl ?_
      refine r_get (pc := 31) (v := .ref (ad 19)) C hin_St 10 rfl rfl 0 (by decide) m_4 rfl rfl d_St_compare_31 ?_
      refine r_iload_n (pc := 34) C d_St_compare_34 rfl 1 rfl ?_
      obtain ⟨q182, hq182, h⟩ := ob h
      refine r_callV (pc := 35) (As := [.int p0]) (rest := []) (st1 := [.int q182]) hE gg_good C hX (c_Dr_goodOf_D hE hq182) m_63 m_29 m_30 m_12 m_31 hd_Dr_goodOf 19 rfl rfl ⟨⟨(Nat.le_of_ble_eq_true rfl), (Nat.le_of_ble_eq_true rfl)⟩, (Nat.le_of_ble_eq_true rfl), (Nat.le_of_ble_eq_true rfl)⟩ (Nat.le_of_ble_eq_true rfl) rfl rfl d_St_compare_35 ?_
      refine r_aload_n (pc := 38) C d_St_compare_38 rfl 0 rfl ?_
      refine r_get (pc := 39) (v := .ref (ad 19)) C hin_St 10 rfl rfl 0 (by decide) m_4 rfl rfl d_St_compare_39 ?_
      refine r_iload_n (pc := 42) C d_St_compare_42 rfl 2 rfl ?_
      obtain ⟨q183, hq183, h⟩ := ob h
      refine r_callV (pc := 43) (As := [.int p1]) (rest := [.int q182]) (st1 := [.int q183, .int q182]) hE gg_good C hX (c_Dr_goodOf_D hE hq183) m_63 m_29 m_30 m_12 m_31 hd_Dr_goodOf 19 rfl rfl ⟨⟨(Nat.le_of_ble_eq_true rfl), (Nat.le_of_ble_eq_true rfl)⟩, (Nat.le_of_ble_eq_true rfl), (Nat.le_of_ble_eq_true rfl)⟩ (Nat.le_of_ble_eq_true rfl) rfl rfl d_St_compare_43 ?_
      refine r_icmp_ne (pc := 46) (tgt := 97) C d_St_compare_46 (by decide) (fun c190 => ?_) (fun c190 => ?_)
      · replace h := iN c190 h
        cases h
        exact r_vret (pc := 97) C hr rfl rfl d_St_compare_97
      · replace h := ip c190 h
        refine r_aload_n (pc := 49) C d_St_compare_49 rfl 0 rfl ?_
        refine r_get (pc := 50) (v := .ref (ad 19)) C hin_St 10 rfl rfl 0 (by decide) m_4 rfl rfl d_St_compare_50 ?_
        refine r_iload_n (pc := 53) C d_St_compare_53 rfl 1 rfl ?_
        obtain ⟨q184, hq184, h⟩ := ob h
        refine r_callV (pc := 54) (As := [.int p0]) (rest := []) (st1 := [.int q184]) hE gg_good C hX (c_Dr_amountOf_D hE hq184) m_51 m_52 m_53 m_12 m_54 hd_Dr_amountOf 19 rfl rfl ⟨⟨(Nat.le_of_ble_eq_true rfl), (Nat.le_of_ble_eq_true rfl)⟩, (Nat.le_of_ble_eq_true rfl), (Nat.le_of_ble_eq_true rfl)⟩ (Nat.le_of_ble_eq_true rfl) rfl rfl d_St_compare_54 ?_
        refine r_aload_n (pc := 57) C d_St_compare_57 rfl 0 rfl ?_
        refine r_get (pc := 58) (v := .ref (ad 19)) C hin_St 10 rfl rfl 0 (by decide) m_4 rfl rfl d_St_compare_58 ?_
        refine r_iload_n (pc := 61) C d_St_compare_61 rfl 2 rfl ?_
        obtain ⟨q185, hq185, h⟩ := ob h
        refine r_callV (pc := 62) (As := [.int p1]) (rest := [.int q184]) (st1 := [.int q185, .int q184]) hE gg_good C hX (c_Dr_amountOf_D hE hq185) m_51 m_52 m_53 m_12 m_54 hd_Dr_amountOf 19 rfl rfl ⟨⟨(Nat.le_of_ble_eq_true rfl), (Nat.le_of_ble_eq_true rfl)⟩, (Nat.le_of_ble_eq_true rfl), (Nat.le_of_ble_eq_true rfl)⟩ (Nat.le_of_ble_eq_true rfl) rfl rfl d_St_compare_62 ?_
        refine r_icmp_ne (pc := 65) (tgt := 97) C d_St_compare_65 (by decide) (fun c189 => ?_) (fun c189 => ?_)
        · replace h := iN c189 h
          cases h
          exact r_vret (pc := 97) C hr rfl rfl d_St_compare_97
        · replace h := ip c189 h
          refine r_aload_n (pc := 68) C d_St_compare_68 rfl 0 rfl ?_
          refine r_get (pc := 69) (v := .ref (ad 19)) C hin_St 10 rfl rfl 0 (by decide) m_4 rfl rfl d_St_compare_69 ?_
          refine r_iload_n (pc := 72) C d_St_compare_72 rfl 1 rfl ?_
          obtain ⟨q186, hq186, h⟩ := ob h
          refine r_callV (pc := 73) (As := [.int p0]) (rest := []) (st1 := [.int q186]) hE gg_good C hX (c_Dr_takes_D hE hq186) m_47 m_48 m_49 m_12 m_50 hd_Dr_takes 19 rfl rfl ⟨⟨(Nat.le_of_ble_eq_true rfl), (Nat.le_of_ble_eq_true rfl)⟩, (Nat.le_of_ble_eq_true rfl), (Nat.le_of_ble_eq_true rfl)⟩ (Nat.le_of_ble_eq_true rfl) rfl rfl d_St_compare_73 ?_
          refine r_aload_n (pc := 76) C d_St_compare_76 rfl 0 rfl ?_
          refine r_get (pc := 77) (v := .ref (ad 19)) C hin_St 10 rfl rfl 0 (by decide) m_4 rfl rfl d_St_compare_77 ?_
          refine r_iload_n (pc := 80) C d_St_compare_80 rfl 2 rfl ?_
          obtain ⟨q187, hq187, h⟩ := ob h
          refine r_callV (pc := 81) (As := [.int p1]) (rest := [.int q186]) (st1 := [.int q187, .int q186]) hE gg_good C hX (c_Dr_takes_D hE hq187) m_47 m_48 m_49 m_12 m_50 hd_Dr_takes 19 rfl rfl ⟨⟨(Nat.le_of_ble_eq_true rfl), (Nat.le_of_ble_eq_true rfl)⟩, (Nat.le_of_ble_eq_true rfl), (Nat.le_of_ble_eq_true rfl)⟩ (Nat.le_of_ble_eq_true rfl) rfl rfl d_St_compare_81 ?_
          refine r_icmp_eq (pc := 84) (tgt := 97) C d_St_compare_84 (by decide) (fun c188 => ?_) (fun c188 => ?_)
          · replace h := ip c188 h
            cases h
            exact r_vret (pc := 97) C hr rfl rfl d_St_compare_97
          · replace h := iN c188 h
            refine r_aload_n (pc := 87) C d_St_compare_87 rfl 0 rfl ?_
            refine r_dup (pc := 88) C d_St_compare_88 rfl ?_
            refine r_get (pc := 89) (v := .int t.2.2.2) C hin_St 10 rfl rfl 5 (by decide) m_0 rfl rfl d_St_compare_89 ?_
            refine r_iconst (pc := 92) (v := 4) C d_St_compare_92 (by decide) ?_
            refine r_ior (pc := 93) C d_St_compare_93 ?_
            refine r_put (pc := 94) (ty := .int) (ws' := WC ad cI cZ x s d o (t.1, t.2.1, t.2.2.1, t.2.2.2 ||| (4 : Int32)) s2 d2 rest) C hin_St t_St t_St_ok n_St 10 rfl rfl 5 (by decide) m_0 rfl rfl pd_I rfl rfl (Nat.le_of_ble_eq_true rfl) rfl d_St_compare_94 ?_
            cases h
            exact r_vret (pc := 97) C hr rfl rfl d_St_compare_97
def f_Dr_placeCount (d : DD) : Option (Int32) :=
  some d.2.2.1
abbrev rm_Dr_placeCount : Room := { frames := 0, cells := 0, slots := 0, locals := 0 }
theorem hd_Dr_placeCount : y_Dr_placeCount.cls ≠ "java/lang/invoke/MethodHandle" ∧ y_Dr_placeCount.cls ≠ "java/lang/invoke/VarHandle" ∧ (parseMethodDescriptor y_Dr_placeCount.desc).map (fun d => d.parameters.length) = some 0 := by decide +kernel
set_option maxHeartbeats 4000000 in
set_option maxRecDepth 100000 in
theorem c_Dr_placeCount_D {l : Launch} {E : State → Heap → Prop} {D : va_G} {A : Nat → Prop} {cI cZ cJ : ClassId} (hE : stb A E) {ad : Nat → Nat} {x : Int32} {s : Int64} {d : DD} {o : (Nat → Int32)} {t : TT} {s2 : Int64} {d2 : DD} {rest : va_W} {q : Int32} (h : f_Dr_placeCount d = some q) : cm l E D clsA (TY cI cZ cJ) A GG y_Dr_placeCount b_Dr_placeCount 1 (some .int) rm_Dr_placeCount [.ref (ad 19)] (WC ad cI cZ x s d o t s2 d2 rest) (some (.int q)) (WC ad cI cZ x s d o t s2 d2 rest) := by
  refine r_met (own := R_Dr) rfl (by decide) (Nat.le_of_ble_eq_true rfl) rfl ?_
  intro p e sg m args below meth c C hr hnm hX
  unfold f_Dr_placeCount at h
  refine r_aload_n (pc := 0) C d_Dr_placeCount_0 rfl 0 rfl ?_
  refine r_get (pc := 1) (v := .int d.2.2.1) C hin_Dr 19 rfl rfl 2 (by decide) m_14 rfl rfl d_Dr_placeCount_1 ?_
  cases h
  exact r_iret (pc := 4) C hr rfl rfl rfl d_Dr_placeCount_4
def f_St_isBusy (d : DD) (t : TT) (p0 : Int32) : Option (Int32) :=
  Option.bind (f_Dr_hasPlace d p0) (fun q214 => (if q214 = 0 then some (0) else (if (p0 < 0 ∨ 6 ≤ p0.toNatClampNeg) then none else (if t.2.2.1 p0.toNatClampNeg = 0 then some (0) else some (1)))))
abbrev rm_St_isBusy : Room := { frames := 1, cells := 0, slots := 0, locals := 21 }
theorem hd_St_isBusy : y_St_isBusy.cls ≠ "java/lang/invoke/MethodHandle" ∧ y_St_isBusy.cls ≠ "java/lang/invoke/VarHandle" ∧ (parseMethodDescriptor y_St_isBusy.desc).map (fun d => d.parameters.length) = some 1 := by decide +kernel
set_option maxHeartbeats 4000000 in
set_option maxRecDepth 100000 in
theorem c_St_isBusy_T {l : Launch} {E : State → Heap → Prop} {D : va_G} {A : Nat → Prop} {cI cZ cJ : ClassId} (hE : stb A E) {ad : Nat → Nat} {x : Int32} {s : Int64} {d : DD} {o : (Nat → Int32)} {t : TT} {s2 : Int64} {d2 : DD} {rest : va_W} {p0 : Int32} {q : Int32} (h : f_St_isBusy d t p0 = some q) : cm l E D clsA (TY cI cZ cJ) A GG y_St_isBusy b_St_isBusy 2 (some .boolean) rm_St_isBusy [.ref (ad 10), .int p0] (WC ad cI cZ x s d o t s2 d2 rest) (some (.int q)) (WC ad cI cZ x s d o t s2 d2 rest) := by
  refine r_met (own := R_St) rfl (by decide) (Nat.le_of_ble_eq_true rfl) rfl ?_
  intro p e sg m args below meth c C hr hnm hX
  unfold f_St_isBusy at h
  refine r_aload_n (pc := 0) C d_St_isBusy_0 rfl 0 rfl ?_
  refine r_get (pc := 1) (v := .ref (ad 19)) C hin_St 10 rfl rfl 0 (by decide) m_4 rfl rfl d_St_isBusy_1 ?_
  refine r_iload_n (pc := 4) C d_St_isBusy_4 rfl 1 rfl ?_
  obtain ⟨q214, hq214, h⟩ := ob h
  refine r_callV (pc := 5) (As := [.int p0]) (rest := []) (st1 := [.int q214]) hE gg_good C hX (c_Dr_hasPlace_D hE hq214) m_59 m_60 m_61 m_12 m_62 hd_Dr_hasPlace 19 rfl rfl ⟨⟨(Nat.le_of_ble_eq_true rfl), (Nat.le_of_ble_eq_true rfl)⟩, (Nat.le_of_ble_eq_true rfl), (Nat.le_of_ble_eq_true rfl)⟩ (Nat.le_of_ble_eq_true rfl) rfl rfl d_St_isBusy_5 ?_
  refine r_if_eq (pc := 8) (tgt := 24) C d_St_isBusy_8 (by decide) (fun c217 => ?_) (fun c217 => ?_)
  · replace h := ip c217 h
    refine r_iconst (pc := 24) (v := 0) C d_St_isBusy_24 (by decide) ?_
    cases h
    exact r_iret (pc := 25) C hr rfl rfl rfl d_St_isBusy_25
  · replace h := iN c217 h
    refine r_aload_n (pc := 11) C d_St_isBusy_11 rfl 0 rfl ?_
    refine r_get (pc := 12) (v := .ref (ad 7)) C hin_St 10 rfl rfl 4 (by decide) m_3 rfl rfl d_St_isBusy_12 ?_
    refine r_iload_n (pc := 15) C d_St_isBusy_15 rfl 1 rfl ?_
    obtain ⟨hi216, h⟩ := ign h
    refine r_zald (pc := 16) C 7 1 rfl rfl hi216 d_St_isBusy_16 ?_
    refine r_if_eq (pc := 17) (tgt := 24) C d_St_isBusy_17 (by decide) (fun c215 => ?_) (fun c215 => ?_)
    · replace h := ip c215 h
      refine r_iconst (pc := 24) (v := 0) C d_St_isBusy_24 (by decide) ?_
      cases h
      exact r_iret (pc := 25) C hr rfl rfl rfl d_St_isBusy_25
    · replace h := iN c215 h
      refine r_iconst (pc := 20) (v := 1) C d_St_isBusy_20 (by decide) ?_
      refine r_goto (pc := 21) (tgt := 25) C d_St_isBusy_21 (by decide) ?_
      cases h
      exact r_iret (pc := 25) C hr rfl rfl rfl d_St_isBusy_25
def bd_St_lookAtTheEnd_17 (d : DD) (kx : Int32 × Int32 × Int32 × TT → Option (TT)) (rec : Int32 × Int32 × Int32 × TT → Option (TT)) (z : Int32 × Int32 × Int32 × TT) : Option (TT) :=
  Option.bind (f_Dr_goodCount d) (fun q232 => (if q232 ≤ z.2.2.1 then kx (z.1, z.2.1, z.2.2.1, z.2.2.2) else Option.bind (f_St_stockAt d z.2.2.2 z.2.1 z.2.2.1) (fun q233 => rec (z.1 + q233, z.2.1, z.2.2.1 + 1, z.2.2.2))))
def bd_St_lookAtTheEnd_4 (d : DD) (o : (Nat → Int32)) (kx : Int32 × Int32 × TT → Option (TT)) (rec : Int32 × Int32 × TT → Option (TT)) (z : Int32 × Int32 × TT) : Option (TT) :=
  Option.bind (f_Dr_placeCount d) (fun q231 => (if q231 ≤ z.2.1 then kx (z.1, z.2.1, z.2.2) else (itn (bd_St_lookAtTheEnd_17 d (fun z238 => Option.bind (f_Re_isLeft d o z238.2.1) (fun q239 => (if q239 = 0 then rec (z238.1, z238.2.1 + 1, z238.2.2.2) else Option.bind (f_St_isBusy d z238.2.2.2 z238.2.1) (fun q240 => (if q240 = 0 then rec (z238.1, z238.2.1 + 1, (z238.2.2.2.1, z238.2.2.2.2.1, z238.2.2.2.2.2.1, z238.2.2.2.2.2.2 ||| (32 : Int32))) else rec (z238.1, z238.2.1 + 1, z238.2.2.2))))))) 70 (z.1, z.2.1, 0, z.2.2))))
def f_St_lookAtTheEnd (d : DD) (o : (Nat → Int32)) (t : TT) : Option (TT) :=
  (itn (bd_St_lookAtTheEnd_4 d o (fun z251 => (if z251.1 &&& (1 : Int32) = 1 then some (z251.2.2.1, z251.2.2.2.1, z251.2.2.2.2.1, z251.2.2.2.2.2 ||| (16 : Int32)) else some z251.2.2))) 70 (0, 0, t))
abbrev rm_St_lookAtTheEnd : Room := { frames := 2, cells := 0, slots := 0, locals := 43 }
theorem hd_St_lookAtTheEnd : y_St_lookAtTheEnd.cls ≠ "java/lang/invoke/MethodHandle" ∧ y_St_lookAtTheEnd.cls ≠ "java/lang/invoke/VarHandle" ∧ (parseMethodDescriptor y_St_lookAtTheEnd.desc).map (fun d => d.parameters.length) = some 0 := by decide +kernel
set_option maxHeartbeats 4000000 in
set_option maxRecDepth 100000 in
theorem vl_St_lookAtTheEnd_17_T {l : Launch} {E : State → Heap → Prop} {D : va_G} {A : Nat → Prop} {cI cZ cJ : ClassId} (hE : stb A E) {ad : Nat → Nat} {x : Int32} {s : Int64} {d : DD} {o : (Nat → Int32)} {s2 : Int64} {d2 : DD} {rest : va_W} {p : Program} {e : Env} {sg : State} {m : MethodId} {args : Array Value} {below : List Frame} {meth : Method} {c : Code} (C : cx p sg m args meth c D clsA (TY cI cZ cJ) A GG R_St b_St_lookAtTheEnd 4) (hr : meth.sig.returnType = none) (hX : E sg sg.heap) {q : TT} {kx : Int32 × Int32 × Int32 × TT → Option (TT)} (K : ∀ z : Int32 × Int32 × Int32 × TT, kx z = some q → vv p l e rm_St_lookAtTheEnd sg m args below meth c D clsA A 4 0 0 (MQ below (qcI D clsA A none (WC ad cI cZ x s d o q s2 d2 rest)) args sg rm_St_lookAtTheEnd.cells rm_St_lookAtTheEnd.slots A) 43 [(0, .ref (ad 10)), (1, .int z.1), (2, .int z.2.1), (3, .int z.2.2.1)] [] (WC ad cI cZ x s d o z.2.2.2 s2 d2 rest)) :
    ∀ (n : Nat) (z : Int32 × Int32 × Int32 × TT), itn (bd_St_lookAtTheEnd_17 d kx) n z = some q → vv p l e rm_St_lookAtTheEnd sg m args below meth c D clsA A 4 0 0 (MQ below (qcI D clsA A none (WC ad cI cZ x s d o q s2 d2 rest)) args sg rm_St_lookAtTheEnd.cells rm_St_lookAtTheEnd.slots A) 17 [(0, .ref (ad 10)), (1, .int z.1), (2, .int z.2.1), (3, .int z.2.2.1)] [] (WC ad cI cZ x s d o z.2.2.2 s2 d2 rest) := by
  have _ := hE
  intro n
  induction n with
  | zero => intro z h; cases h
  | succ n ih =>
    intro z h
    obtain ⟨zv0, zv1, zv2, zv3⟩ := z
    replace h : bd_St_lookAtTheEnd_17 d kx (itn (bd_St_lookAtTheEnd_17 d kx) n) (zv0, zv1, zv2, zv3) = some q := h
    unfold bd_St_lookAtTheEnd_17 at h
    (try dsimp only at h)
    show vv p l e rm_St_lookAtTheEnd sg m args below meth c D clsA A 4 0 0 (MQ below (qcI D clsA A none (WC ad cI cZ x s d o q s2 d2 rest)) args sg rm_St_lookAtTheEnd.cells rm_St_lookAtTheEnd.slots A) 17 [(0, .ref (ad 10)), (1, .int zv0), (2, .int zv1), (3, .int zv2)] [] (WC ad cI cZ x s d o zv3 s2 d2 rest)
    refine r_iload_n (pc := 17) C d_St_lookAtTheEnd_17 rfl 3 rfl ?_
    refine r_aload_n (pc := 18) C d_St_lookAtTheEnd_18 rfl 0 rfl ?_
    refine r_get (pc := 19) (v := .ref (ad 19)) C hin_St 10 rfl rfl 0 (by decide) m_4 rfl rfl d_St_lookAtTheEnd_19 ?_
    obtain ⟨q235, hq235, h⟩ := ob h
    refine r_callV (pc := 22) (As := []) (rest := [.int zv2]) (st1 := [.int q235, .int zv2]) hE gg_good C hX (c_Dr_goodCount_D hE hq235) m_75 m_76 m_77 m_12 m_78 hd_Dr_goodCount 19 rfl rfl ⟨⟨(Nat.le_of_ble_eq_true rfl), (Nat.le_of_ble_eq_true rfl)⟩, (Nat.le_of_ble_eq_true rfl), (Nat.le_of_ble_eq_true rfl)⟩ (Nat.le_of_ble_eq_true rfl) rfl rfl d_St_lookAtTheEnd_22 ?_
    refine r_icmp_ge (pc := 25) (tgt := 43) C d_St_lookAtTheEnd_25 (by decide) (fun c237 => ?_) (fun c237 => ?_)
    · replace h := ip c237 h
      refine r_loc (lv' := [(0, .ref (ad 10)), (1, .int zv0), (2, .int zv1), (3, .int zv2)]) [0, 1, 2, 3] rfl ?_
      exact K (zv0, zv1, zv2, zv3) h
    · replace h := iN c237 h
      refine r_iload_n (pc := 28) C d_St_lookAtTheEnd_28 rfl 1 rfl ?_
      refine r_aload_n (pc := 29) C d_St_lookAtTheEnd_29 rfl 0 rfl ?_
      refine r_iload_n (pc := 30) C d_St_lookAtTheEnd_30 rfl 2 rfl ?_
      refine r_iload_n (pc := 31) C d_St_lookAtTheEnd_31 rfl 3 rfl ?_
      obtain ⟨q236, hq236, h⟩ := ob h
      refine r_callV (pc := 32) (As := [.int zv1, .int zv2]) (rest := [.int zv0]) (st1 := [.int q236, .int zv0]) hE gg_good C hX (c_St_stockAt_T hE hq236) m_70 m_71 m_72 m_73 m_74 hd_St_stockAt 10 rfl rfl ⟨⟨(Nat.le_of_ble_eq_true rfl), (Nat.le_of_ble_eq_true rfl)⟩, (Nat.le_of_ble_eq_true rfl), (Nat.le_of_ble_eq_true rfl)⟩ (Nat.le_of_ble_eq_true rfl) rfl rfl d_St_lookAtTheEnd_32 ?_
      refine r_iadd (pc := 35) C d_St_lookAtTheEnd_35 ?_
      refine r_istore_n (pc := 36) (lv' := [(1, .int (zv0 + q236)), (0, .ref (ad 10)), (2, .int zv1), (3, .int zv2)]) C d_St_lookAtTheEnd_36 rfl (by decide) rfl ?_
      refine r_iincK (pc := 37) (w0 := 1) (lv' := [(3, .int (zv2 + 1)), (1, .int (zv0 + q236)), (0, .ref (ad 10)), (2, .int zv1)]) C d_St_lookAtTheEnd_37 (by decide) 3 rfl (by decide) rfl ?_
      refine r_goto (pc := 40) (tgt := 17) C d_St_lookAtTheEnd_40 (by decide) ?_
      refine r_loc (lv' := [(0, .ref (ad 10)), (1, .int (zv0 + q236)), (2, .int zv1), (3, .int (zv2 + 1))]) [2, 1, 3, 0] rfl ?_
      exact ih (zv0 + q236, zv1, zv2 + 1, zv3) h
set_option maxHeartbeats 4000000 in
set_option maxRecDepth 100000 in
theorem vl_St_lookAtTheEnd_4_T {l : Launch} {E : State → Heap → Prop} {D : va_G} {A : Nat → Prop} {cI cZ cJ : ClassId} (hE : stb A E) {ad : Nat → Nat} {x : Int32} {s : Int64} {d : DD} {o : (Nat → Int32)} {s2 : Int64} {d2 : DD} {rest : va_W} {p : Program} {e : Env} {sg : State} {m : MethodId} {args : Array Value} {below : List Frame} {meth : Method} {c : Code} (C : cx p sg m args meth c D clsA (TY cI cZ cJ) A GG R_St b_St_lookAtTheEnd 4) (hr : meth.sig.returnType = none) (hX : E sg sg.heap) {q : TT} {kx : Int32 × Int32 × TT → Option (TT)} (K : ∀ z : Int32 × Int32 × TT, kx z = some q → vv p l e rm_St_lookAtTheEnd sg m args below meth c D clsA A 4 0 0 (MQ below (qcI D clsA A none (WC ad cI cZ x s d o q s2 d2 rest)) args sg rm_St_lookAtTheEnd.cells rm_St_lookAtTheEnd.slots A) 79 [(0, .ref (ad 10)), (1, .int z.1), (2, .int z.2.1)] [] (WC ad cI cZ x s d o z.2.2 s2 d2 rest)) :
    ∀ (n : Nat) (z : Int32 × Int32 × TT), itn (bd_St_lookAtTheEnd_4 d o kx) n z = some q → vv p l e rm_St_lookAtTheEnd sg m args below meth c D clsA A 4 0 0 (MQ below (qcI D clsA A none (WC ad cI cZ x s d o q s2 d2 rest)) args sg rm_St_lookAtTheEnd.cells rm_St_lookAtTheEnd.slots A) 4 [(0, .ref (ad 10)), (1, .int z.1), (2, .int z.2.1)] [] (WC ad cI cZ x s d o z.2.2 s2 d2 rest) := by
  have _ := hE
  intro n
  induction n with
  | zero => intro z h; cases h
  | succ n ih =>
    intro z h
    obtain ⟨zv0, zv1, zv2⟩ := z
    replace h : bd_St_lookAtTheEnd_4 d o kx (itn (bd_St_lookAtTheEnd_4 d o kx) n) (zv0, zv1, zv2) = some q := h
    unfold bd_St_lookAtTheEnd_4 at h
    (try dsimp only at h)
    show vv p l e rm_St_lookAtTheEnd sg m args below meth c D clsA A 4 0 0 (MQ below (qcI D clsA A none (WC ad cI cZ x s d o q s2 d2 rest)) args sg rm_St_lookAtTheEnd.cells rm_St_lookAtTheEnd.slots A) 4 [(0, .ref (ad 10)), (1, .int zv0), (2, .int zv1)] [] (WC ad cI cZ x s d o zv2 s2 d2 rest)
    refine r_iload_n (pc := 4) C d_St_lookAtTheEnd_4 rfl 2 rfl ?_
    refine r_aload_n (pc := 5) C d_St_lookAtTheEnd_5 rfl 0 rfl ?_
    refine r_get (pc := 6) (v := .ref (ad 19)) C hin_St 10 rfl rfl 0 (by decide) m_4 rfl rfl d_St_lookAtTheEnd_6 ?_
    obtain ⟨q244, hq244, h⟩ := ob h
    refine r_callV (pc := 9) (As := []) (rest := [.int zv1]) (st1 := [.int q244, .int zv1]) hE gg_good C hX (c_Dr_placeCount_D hE hq244) m_105 m_106 m_107 m_12 m_108 hd_Dr_placeCount 19 rfl rfl ⟨⟨(Nat.le_of_ble_eq_true rfl), (Nat.le_of_ble_eq_true rfl)⟩, (Nat.le_of_ble_eq_true rfl), (Nat.le_of_ble_eq_true rfl)⟩ (Nat.le_of_ble_eq_true rfl) rfl rfl d_St_lookAtTheEnd_9 ?_
    refine r_icmp_ge (pc := 12) (tgt := 79) C d_St_lookAtTheEnd_12 (by decide) (fun c250 => ?_) (fun c250 => ?_)
    · replace h := ip c250 h
      refine r_loc (lv' := [(0, .ref (ad 10)), (1, .int zv0), (2, .int zv1)]) [0, 1, 2] rfl ?_
      exact K (zv0, zv1, zv2) h
    · replace h := iN c250 h
      refine r_iconst (pc := 15) (v := 0) C d_St_lookAtTheEnd_15 (by decide) ?_
      refine r_istore_n (pc := 16) (lv' := [(3, .int (0)), (0, .ref (ad 10)), (1, .int zv0), (2, .int zv1)]) C d_St_lookAtTheEnd_16 rfl (by decide) rfl ?_
      refine r_loc (lv' := [(0, .ref (ad 10)), (1, .int zv0), (2, .int zv1), (3, .int (0))]) [1, 2, 3, 0] rfl ?_
      refine vl_St_lookAtTheEnd_17_T hE C hr hX (fun z245 h => ?_) 70 (zv0, zv1, 0, zv2) h
      refine r_aload_n (pc := 43) C d_St_lookAtTheEnd_43 rfl 0 rfl ?_
      refine r_get (pc := 44) (v := .ref (ad 13)) C hin_St 10 rfl rfl 1 (by decide) m_6 rfl rfl d_St_lookAtTheEnd_44 ?_
      refine r_iload_n (pc := 47) C d_St_lookAtTheEnd_47 rfl 2 rfl ?_
      obtain ⟨q246, hq246, h⟩ := ob h
      refine r_callV (pc := 48) (As := [.int z245.2.1]) (rest := []) (st1 := [.int q246]) hE gg_good C hX (c_Re_isLeft_R hE hq246) m_104 m_20 m_21 m_22 m_23 hd_Re_isLeft 13 rfl rfl ⟨⟨(Nat.le_of_ble_eq_true rfl), (Nat.le_of_ble_eq_true rfl)⟩, (Nat.le_of_ble_eq_true rfl), (Nat.le_of_ble_eq_true rfl)⟩ (Nat.le_of_ble_eq_true rfl) rfl rfl d_St_lookAtTheEnd_48 ?_
      refine r_if_eq (pc := 51) (tgt := 73) C d_St_lookAtTheEnd_51 (by decide) (fun c249 => ?_) (fun c249 => ?_)
      · replace h := ip c249 h
        refine r_iincK (pc := 73) (w0 := 1) (lv' := [(2, .int (z245.2.1 + 1)), (0, .ref (ad 10)), (1, .int z245.1), (3, .int z245.2.2.1)]) C d_St_lookAtTheEnd_73 (by decide) 2 rfl (by decide) rfl ?_
        refine r_goto (pc := 76) (tgt := 4) C d_St_lookAtTheEnd_76 (by decide) ?_
        refine r_loc (lv' := [(0, .ref (ad 10)), (1, .int z245.1), (2, .int (z245.2.1 + 1))]) [1, 2, 0] rfl ?_
        exact ih (z245.1, z245.2.1 + 1, z245.2.2.2) h
      · replace h := iN c249 h
        refine r_aload_n (pc := 54) C d_St_lookAtTheEnd_54 rfl 0 rfl ?_
        refine r_iload_n (pc := 55) C d_St_lookAtTheEnd_55 rfl 2 rfl ?_
        obtain ⟨q247, hq247, h⟩ := ob h
        refine r_callV (pc := 56) (As := [.int z245.2.1]) (rest := []) (st1 := [.int q247]) hE gg_good C hX (c_St_isBusy_T hE hq247) m_100 m_101 m_102 m_73 m_103 hd_St_isBusy 10 rfl rfl ⟨⟨(Nat.le_of_ble_eq_true rfl), (Nat.le_of_ble_eq_true rfl)⟩, (Nat.le_of_ble_eq_true rfl), (Nat.le_of_ble_eq_true rfl)⟩ (Nat.le_of_ble_eq_true rfl) rfl rfl d_St_lookAtTheEnd_56 ?_
        refine r_if_ne (pc := 59) (tgt := 73) C d_St_lookAtTheEnd_59 (by decide) (fun c248 => ?_) (fun c248 => ?_)
        · replace h := iN c248 h
          refine r_iincK (pc := 73) (w0 := 1) (lv' := [(2, .int (z245.2.1 + 1)), (0, .ref (ad 10)), (1, .int z245.1), (3, .int z245.2.2.1)]) C d_St_lookAtTheEnd_73 (by decide) 2 rfl (by decide) rfl ?_
          refine r_goto (pc := 76) (tgt := 4) C d_St_lookAtTheEnd_76 (by decide) ?_
          refine r_loc (lv' := [(0, .ref (ad 10)), (1, .int z245.1), (2, .int (z245.2.1 + 1))]) [1, 2, 0] rfl ?_
          exact ih (z245.1, z245.2.1 + 1, z245.2.2.2) h
        · replace h := ip c248 h
          refine r_aload_n (pc := 62) C d_St_lookAtTheEnd_62 rfl 0 rfl ?_
          refine r_dup (pc := 63) C d_St_lookAtTheEnd_63 rfl ?_
          refine r_get (pc := 64) (v := .int z245.2.2.2.2.2.2) C hin_St 10 rfl rfl 5 (by decide) m_0 rfl rfl d_St_lookAtTheEnd_64 ?_
          refine r_bipush (pc := 67) (v := 32) C d_St_lookAtTheEnd_67 (by decide) ?_
          refine r_ior (pc := 69) C d_St_lookAtTheEnd_69 ?_
          refine r_put (pc := 70) (ty := .int) (ws' := WC ad cI cZ x s d o (z245.2.2.2.1, z245.2.2.2.2.1, z245.2.2.2.2.2.1, z245.2.2.2.2.2.2 ||| (32 : Int32)) s2 d2 rest) C hin_St t_St t_St_ok n_St 10 rfl rfl 5 (by decide) m_0 rfl rfl pd_I rfl rfl (Nat.le_of_ble_eq_true rfl) rfl d_St_lookAtTheEnd_70 ?_
          refine r_iincK (pc := 73) (w0 := 1) (lv' := [(2, .int (z245.2.1 + 1)), (0, .ref (ad 10)), (1, .int z245.1), (3, .int z245.2.2.1)]) C d_St_lookAtTheEnd_73 (by decide) 2 rfl (by decide) rfl ?_
          refine r_goto (pc := 76) (tgt := 4) C d_St_lookAtTheEnd_76 (by decide) ?_
          refine r_loc (lv' := [(0, .ref (ad 10)), (1, .int z245.1), (2, .int (z245.2.1 + 1))]) [1, 2, 0] rfl ?_
          exact ih (z245.1, z245.2.1 + 1, (z245.2.2.2.1, z245.2.2.2.2.1, z245.2.2.2.2.2.1, z245.2.2.2.2.2.2 ||| (32 : Int32))) h
set_option maxHeartbeats 4000000 in
set_option maxRecDepth 100000 in
theorem c_St_lookAtTheEnd_T {l : Launch} {E : State → Heap → Prop} {D : va_G} {A : Nat → Prop} {cI cZ cJ : ClassId} (hE : stb A E) {ad : Nat → Nat} {x : Int32} {s : Int64} {d : DD} {o : (Nat → Int32)} {t : TT} {s2 : Int64} {d2 : DD} {rest : va_W} {q : TT} (h : f_St_lookAtTheEnd d o t = some q) : cm l E D clsA (TY cI cZ cJ) A GG y_St_lookAtTheEnd b_St_lookAtTheEnd 4 none rm_St_lookAtTheEnd [.ref (ad 10)] (WC ad cI cZ x s d o t s2 d2 rest) none (WC ad cI cZ x s d o q s2 d2 rest) := by
  refine r_met (own := R_St) rfl (by decide) (Nat.le_of_ble_eq_true rfl) rfl ?_
  intro p e sg m args below meth c C hr hnm hX
  unfold f_St_lookAtTheEnd at h
  refine r_iconst (pc := 0) (v := 0) C d_St_lookAtTheEnd_0 (by decide) ?_
  refine r_istore_n (pc := 1) (lv' := [(1, .int (0)), (0, .ref (ad 10))]) C d_St_lookAtTheEnd_1 rfl (by decide) rfl ?_
  refine r_iconst (pc := 2) (v := 0) C d_St_lookAtTheEnd_2 (by decide) ?_
  refine r_istore_n (pc := 3) (lv' := [(2, .int (0)), (1, .int (0)), (0, .ref (ad 10))]) C d_St_lookAtTheEnd_3 rfl (by decide) rfl ?_
  refine r_loc (lv' := [(0, .ref (ad 10)), (1, .int (0)), (2, .int (0))]) [2, 1, 0] rfl ?_
  refine vl_St_lookAtTheEnd_4_T hE C hr hX (fun z251 h => ?_) 70 (0, 0, t) h
  refine r_iload_n (pc := 79) C d_St_lookAtTheEnd_79 rfl 1 rfl ?_
  refine r_iconst (pc := 80) (v := 1) C d_St_lookAtTheEnd_80 (by decide) ?_
  refine r_iand (pc := 81) C d_St_lookAtTheEnd_81 ?_
  refine r_iconst (pc := 82) (v := 1) C d_St_lookAtTheEnd_82 (by decide) ?_
  refine r_icmp_ne (pc := 83) (tgt := 97) C d_St_lookAtTheEnd_83 (by decide) (fun c252 => ?_) (fun c252 => ?_)
  · replace h := iN c252 h
    cases h
    exact r_vret (pc := 97) C hr rfl rfl d_St_lookAtTheEnd_97
  · replace h := ip c252 h
    refine r_aload_n (pc := 86) C d_St_lookAtTheEnd_86 rfl 0 rfl ?_
    refine r_dup (pc := 87) C d_St_lookAtTheEnd_87 rfl ?_
    refine r_get (pc := 88) (v := .int z251.2.2.2.2.2) C hin_St 10 rfl rfl 5 (by decide) m_0 rfl rfl d_St_lookAtTheEnd_88 ?_
    refine r_bipush (pc := 91) (v := 16) C d_St_lookAtTheEnd_91 (by decide) ?_
    refine r_ior (pc := 93) C d_St_lookAtTheEnd_93 ?_
    refine r_put (pc := 94) (ty := .int) (ws' := WC ad cI cZ x s d o (z251.2.2.1, z251.2.2.2.1, z251.2.2.2.2.1, z251.2.2.2.2.2 ||| (16 : Int32)) s2 d2 rest) C hin_St t_St t_St_ok n_St 10 rfl rfl 5 (by decide) m_0 rfl rfl pd_I rfl rfl (Nat.le_of_ble_eq_true rfl) rfl d_St_lookAtTheEnd_94 ?_
    cases h
    exact r_vret (pc := 97) C hr rfl rfl d_St_lookAtTheEnd_97
def bd_St_tell_8 (d : DD) (o : (Nat → Int32)) (kx : Int32 × Int32 × TT → Option (Int32 × TT)) (rec : Int32 × Int32 × TT → Option (Int32 × TT)) (z : Int32 × Int32 × TT) : Option (Int32 × TT) :=
  Option.bind (f_Dr_partCount d) (fun q255 => (if q255 ≤ z.2.1 then kx (z.1, z.2.1, z.2.2) else Option.bind (f_Re_isActThatCounts d o z.2.1) (fun q256 => (if q256 = 0 then rec (z.1, z.2.1 + 1, z.2.2) else Option.bind (f_St_carryOut d z.2.2 z.2.1) (fun q257 => Option.bind (f_Dr_placeOf d z.2.1) (fun q258 => Option.bind (f_St_weigh d q257 q258) (fun q259 => Option.bind (f_St_compare d q259 z.1 z.2.1) (fun q260 => rec (z.2.1, z.2.1 + 1, q260)))))))))
def f_St_tell (d : DD) (o : (Nat → Int32)) (t : TT) : Option (Int32 × TT) :=
  Option.bind (f_St_forget t) (fun q254 => (itn (bd_St_tell_8 d o (fun z271 => Option.bind (f_St_lookAtTheEnd d o z271.2.2) (fun q272 => some (q272.2.2.2, q272)))) 70 ((-1), 0, q254)))
abbrev rm_St_tell : Room := { frames := 3, cells := 0, slots := 0, locals := 67 }
theorem hd_St_tell : y_St_tell.cls ≠ "java/lang/invoke/MethodHandle" ∧ y_St_tell.cls ≠ "java/lang/invoke/VarHandle" ∧ (parseMethodDescriptor y_St_tell.desc).map (fun d => d.parameters.length) = some 0 := by decide +kernel
set_option maxHeartbeats 4000000 in
set_option maxRecDepth 100000 in
theorem vl_St_tell_8_T {l : Launch} {E : State → Heap → Prop} {D : va_G} {A : Nat → Prop} {cI cZ cJ : ClassId} (hE : stb A E) {ad : Nat → Nat} {x : Int32} {s : Int64} {d : DD} {o : (Nat → Int32)} {s2 : Int64} {d2 : DD} {rest : va_W} {p : Program} {e : Env} {sg : State} {m : MethodId} {args : Array Value} {below : List Frame} {meth : Method} {c : Code} (C : cx p sg m args meth c D clsA (TY cI cZ cJ) A GG R_St b_St_tell 3) (hr : meth.sig.returnType = (some .int)) (hX : E sg sg.heap) {q : Int32 × TT} {kx : Int32 × Int32 × TT → Option (Int32 × TT)} (K : ∀ z : Int32 × Int32 × TT, kx z = some q → vv p l e rm_St_tell sg m args below meth c D clsA A 3 0 0 (MQ below (qcI D clsA A (some (.int q.1)) (WC ad cI cZ x s d o q.2 s2 d2 rest)) args sg rm_St_tell.cells rm_St_tell.slots A) 61 [(0, .ref (ad 10)), (1, .int z.1), (2, .int z.2.1)] [] (WC ad cI cZ x s d o z.2.2 s2 d2 rest)) :
    ∀ (n : Nat) (z : Int32 × Int32 × TT), itn (bd_St_tell_8 d o kx) n z = some q → vv p l e rm_St_tell sg m args below meth c D clsA A 3 0 0 (MQ below (qcI D clsA A (some (.int q.1)) (WC ad cI cZ x s d o q.2 s2 d2 rest)) args sg rm_St_tell.cells rm_St_tell.slots A) 8 [(0, .ref (ad 10)), (1, .int z.1), (2, .int z.2.1)] [] (WC ad cI cZ x s d o z.2.2 s2 d2 rest) := by
  have _ := hE
  intro n
  induction n with
  | zero => intro z h; cases h
  | succ n ih =>
    intro z h
    obtain ⟨zv0, zv1, zv2⟩ := z
    replace h : bd_St_tell_8 d o kx (itn (bd_St_tell_8 d o kx) n) (zv0, zv1, zv2) = some q := h
    unfold bd_St_tell_8 at h
    (try dsimp only at h)
    show vv p l e rm_St_tell sg m args below meth c D clsA A 3 0 0 (MQ below (qcI D clsA A (some (.int q.1)) (WC ad cI cZ x s d o q.2 s2 d2 rest)) args sg rm_St_tell.cells rm_St_tell.slots A) 8 [(0, .ref (ad 10)), (1, .int zv0), (2, .int zv1)] [] (WC ad cI cZ x s d o zv2 s2 d2 rest)
    refine r_iload_n (pc := 8) C d_St_tell_8 rfl 2 rfl ?_
    refine r_aload_n (pc := 9) C d_St_tell_9 rfl 0 rfl ?_
    refine r_get (pc := 10) (v := .ref (ad 19)) C hin_St 10 rfl rfl 0 (by decide) m_4 rfl rfl d_St_tell_10 ?_
    obtain ⟨q263, hq263, h⟩ := ob h
    refine r_callV (pc := 13) (As := []) (rest := [.int zv1]) (st1 := [.int q263, .int zv1]) hE gg_good C hX (c_Dr_partCount_D hE hq263) m_96 m_97 m_98 m_12 m_99 hd_Dr_partCount 19 rfl rfl ⟨⟨(Nat.le_of_ble_eq_true rfl), (Nat.le_of_ble_eq_true rfl)⟩, (Nat.le_of_ble_eq_true rfl), (Nat.le_of_ble_eq_true rfl)⟩ (Nat.le_of_ble_eq_true rfl) rfl rfl d_St_tell_13 ?_
    refine r_icmp_ge (pc := 16) (tgt := 61) C d_St_tell_16 (by decide) (fun c270 => ?_) (fun c270 => ?_)
    · replace h := ip c270 h
      refine r_loc (lv' := [(0, .ref (ad 10)), (1, .int zv0), (2, .int zv1)]) [0, 1, 2] rfl ?_
      exact K (zv0, zv1, zv2) h
    · replace h := iN c270 h
      refine r_aload_n (pc := 19) C d_St_tell_19 rfl 0 rfl ?_
      refine r_get (pc := 20) (v := .ref (ad 13)) C hin_St 10 rfl rfl 1 (by decide) m_6 rfl rfl d_St_tell_20 ?_
      refine r_iload_n (pc := 23) C d_St_tell_23 rfl 2 rfl ?_
      obtain ⟨q264, hq264, h⟩ := ob h
      refine r_callV (pc := 24) (As := [.int zv1]) (rest := []) (st1 := [.int q264]) hE gg_good C hX (c_Re_isActThatCounts_R hE hq264) m_92 m_93 m_94 m_22 m_95 hd_Re_isActThatCounts 13 rfl rfl ⟨⟨(Nat.le_of_ble_eq_true rfl), (Nat.le_of_ble_eq_true rfl)⟩, (Nat.le_of_ble_eq_true rfl), (Nat.le_of_ble_eq_true rfl)⟩ (Nat.le_of_ble_eq_true rfl) rfl rfl d_St_tell_24 ?_
      refine r_if_eq (pc := 27) (tgt := 55) C d_St_tell_27 (by decide) (fun c269 => ?_) (fun c269 => ?_)
      · replace h := ip c269 h
        refine r_iincK (pc := 55) (w0 := 1) (lv' := [(2, .int (zv1 + 1)), (0, .ref (ad 10)), (1, .int zv0)]) C d_St_tell_55 (by decide) 2 rfl (by decide) rfl ?_
        refine r_goto (pc := 58) (tgt := 8) C d_St_tell_58 (by decide) ?_
        refine r_loc (lv' := [(0, .ref (ad 10)), (1, .int zv0), (2, .int (zv1 + 1))]) [1, 2, 0] rfl ?_
        exact ih (zv0, zv1 + 1, zv2) h
      · replace h := iN c269 h
        refine r_aload_n (pc := 30) C d_St_tell_30 rfl 0 rfl ?_
        refine r_iload_n (pc := 31) C d_St_tell_31 rfl 2 rfl ?_
        obtain ⟨q265, hq265, h⟩ := ob h
        refine r_callV (pc := 32) (As := [.int zv1]) (rest := []) (st1 := []) hE gg_good C hX (c_St_carryOut_T hE hq265) m_88 m_89 m_90 m_73 m_91 hd_St_carryOut 10 rfl rfl ⟨⟨(Nat.le_of_ble_eq_true rfl), (Nat.le_of_ble_eq_true rfl)⟩, (Nat.le_of_ble_eq_true rfl), (Nat.le_of_ble_eq_true rfl)⟩ (Nat.le_of_ble_eq_true rfl) rfl rfl d_St_tell_32 ?_
        refine r_aload_n (pc := 35) C d_St_tell_35 rfl 0 rfl ?_
        refine r_aload_n (pc := 36) C d_St_tell_36 rfl 0 rfl ?_
        refine r_get (pc := 37) (v := .ref (ad 19)) C hin_St 10 rfl rfl 0 (by decide) m_4 rfl rfl d_St_tell_37 ?_
        refine r_iload_n (pc := 40) C d_St_tell_40 rfl 2 rfl ?_
        obtain ⟨q266, hq266, h⟩ := ob h
        refine r_callV (pc := 41) (As := [.int zv1]) (rest := [.ref (ad 10)]) (st1 := [.int q266, .ref (ad 10)]) hE gg_good C hX (c_Dr_placeOf_D hE hq266) m_64 m_33 m_34 m_12 m_35 hd_Dr_placeOf 19 rfl rfl ⟨⟨(Nat.le_of_ble_eq_true rfl), (Nat.le_of_ble_eq_true rfl)⟩, (Nat.le_of_ble_eq_true rfl), (Nat.le_of_ble_eq_true rfl)⟩ (Nat.le_of_ble_eq_true rfl) rfl rfl d_St_tell_41 ?_
        obtain ⟨q267, hq267, h⟩ := ob h
        refine r_callV (pc := 44) (As := [.int q266]) (rest := []) (st1 := []) hE gg_good C hX (c_St_weigh_T hE hq267) m_84 m_85 m_86 m_73 m_87 hd_St_weigh 10 rfl rfl ⟨⟨(Nat.le_of_ble_eq_true rfl), (Nat.le_of_ble_eq_true rfl)⟩, (Nat.le_of_ble_eq_true rfl), (Nat.le_of_ble_eq_true rfl)⟩ (Nat.le_of_ble_eq_true rfl) rfl rfl d_St_tell_44 ?_
        refine r_aload_n (pc := 47) C d_St_tell_47 rfl 0 rfl ?_
        refine r_iload_n (pc := 48) C d_St_tell_48 rfl 1 rfl ?_
        refine r_iload_n (pc := 49) C d_St_tell_49 rfl 2 rfl ?_
        obtain ⟨q268, hq268, h⟩ := ob h
        refine r_callV (pc := 50) (As := [.int zv0, .int zv1]) (rest := []) (st1 := []) hE gg_good C hX (c_St_compare_T hE hq268) m_80 m_81 m_82 m_73 m_83 hd_St_compare 10 rfl rfl ⟨⟨(Nat.le_of_ble_eq_true rfl), (Nat.le_of_ble_eq_true rfl)⟩, (Nat.le_of_ble_eq_true rfl), (Nat.le_of_ble_eq_true rfl)⟩ (Nat.le_of_ble_eq_true rfl) rfl rfl d_St_tell_50 ?_
        refine r_iload_n (pc := 53) C d_St_tell_53 rfl 2 rfl ?_
        refine r_istore_n (pc := 54) (lv' := [(1, .int zv1), (0, .ref (ad 10)), (2, .int zv1)]) C d_St_tell_54 rfl (by decide) rfl ?_
        refine r_iincK (pc := 55) (w0 := 1) (lv' := [(2, .int (zv1 + 1)), (1, .int zv1), (0, .ref (ad 10))]) C d_St_tell_55 (by decide) 2 rfl (by decide) rfl ?_
        refine r_goto (pc := 58) (tgt := 8) C d_St_tell_58 (by decide) ?_
        refine r_loc (lv' := [(0, .ref (ad 10)), (1, .int zv1), (2, .int (zv1 + 1))]) [2, 1, 0] rfl ?_
        exact ih (zv1, zv1 + 1, q268) h
set_option maxHeartbeats 4000000 in
set_option maxRecDepth 100000 in
theorem c_St_tell_T {l : Launch} {E : State → Heap → Prop} {D : va_G} {A : Nat → Prop} {cI cZ cJ : ClassId} (hE : stb A E) {ad : Nat → Nat} {x : Int32} {s : Int64} {d : DD} {o : (Nat → Int32)} {t : TT} {s2 : Int64} {d2 : DD} {rest : va_W} {q : Int32 × TT} (h : f_St_tell d o t = some q) : cm l E D clsA (TY cI cZ cJ) A GG y_St_tell b_St_tell 3 (some .int) rm_St_tell [.ref (ad 10)] (WC ad cI cZ x s d o t s2 d2 rest) (some (.int q.1)) (WC ad cI cZ x s d o q.2 s2 d2 rest) := by
  refine r_met (own := R_St) rfl (by decide) (Nat.le_of_ble_eq_true rfl) rfl ?_
  intro p e sg m args below meth c C hr hnm hX
  unfold f_St_tell at h
  refine r_aload_n (pc := 0) C d_St_tell_0 rfl 0 rfl ?_
  obtain ⟨q254, hq254, h⟩ := ob h
  refine r_callV (pc := 1) (As := []) (rest := []) (st1 := []) hE gg_good C hX (c_St_forget_T hE hq254) m_113 m_114 m_115 m_73 m_116 hd_St_forget 10 rfl rfl ⟨⟨(Nat.le_of_ble_eq_true rfl), (Nat.le_of_ble_eq_true rfl)⟩, (Nat.le_of_ble_eq_true rfl), (Nat.le_of_ble_eq_true rfl)⟩ (Nat.le_of_ble_eq_true rfl) rfl rfl d_St_tell_1 ?_
  refine r_iconst (pc := 4) (v := (-1)) C d_St_tell_4 (by decide) ?_
  refine r_istore_n (pc := 5) (lv' := [(1, .int (-1)), (0, .ref (ad 10))]) C d_St_tell_5 rfl (by decide) rfl ?_
  refine r_iconst (pc := 6) (v := 0) C d_St_tell_6 (by decide) ?_
  refine r_istore_n (pc := 7) (lv' := [(2, .int (0)), (1, .int (-1)), (0, .ref (ad 10))]) C d_St_tell_7 rfl (by decide) rfl ?_
  refine r_loc (lv' := [(0, .ref (ad 10)), (1, .int (-1)), (2, .int (0))]) [2, 1, 0] rfl ?_
  refine vl_St_tell_8_T hE C hr hX (fun z271 h => ?_) 70 ((-1), 0, q254) h
  refine r_aload_n (pc := 61) C d_St_tell_61 rfl 0 rfl ?_
  obtain ⟨q272, hq272, h⟩ := ob h
  refine r_callV (pc := 62) (As := []) (rest := []) (st1 := []) hE gg_good C hX (c_St_lookAtTheEnd_T hE hq272) m_109 m_110 m_111 m_73 m_112 hd_St_lookAtTheEnd 10 rfl rfl ⟨⟨(Nat.le_of_ble_eq_true rfl), (Nat.le_of_ble_eq_true rfl)⟩, (Nat.le_of_ble_eq_true rfl), (Nat.le_of_ble_eq_true rfl)⟩ (Nat.le_of_ble_eq_true rfl) rfl rfl d_St_tell_62 ?_
  refine r_aload_n (pc := 65) C d_St_tell_65 rfl 0 rfl ?_
  refine r_get (pc := 66) (v := .int q272.2.2.2) C hin_St 10 rfl rfl 5 (by decide) m_0 rfl rfl d_St_tell_66 ?_
  cases h
  exact r_iret (pc := 69) C hr rfl rfl rfl d_St_tell_69
def f_SD_verdictIsMet (x : Int32) (d : DD) (o : (Nat → Int32)) (t : TT) : Option (Int32 × TT) :=
  Option.bind (f_St_tell d o t) (fun q275 => (if q275.1 &&& x = x then some (1, q275.2) else some (0, q275.2)))
abbrev rm_SD_verdictIsMet : Room := { frames := 4, cells := 0, slots := 0, locals := 89 }
theorem hd_SD_verdictIsMet : y_SD_verdictIsMet.cls ≠ "java/lang/invoke/MethodHandle" ∧ y_SD_verdictIsMet.cls ≠ "java/lang/invoke/VarHandle" ∧ (parseMethodDescriptor y_SD_verdictIsMet.desc).map (fun d => d.parameters.length) = some 0 := by decide +kernel
set_option maxHeartbeats 4000000 in
set_option maxRecDepth 100000 in
theorem c_SD_verdictIsMet_X {l : Launch} {E : State → Heap → Prop} {D : va_G} {A : Nat → Prop} {cI cZ cJ : ClassId} (hE : stb A E) {ad : Nat → Nat} {x : Int32} {s : Int64} {d : DD} {o : (Nat → Int32)} {t : TT} {s2 : Int64} {d2 : DD} {rest : va_W} {q : Int32 × TT} (h : f_SD_verdictIsMet x d o t = some q) : cm l E D clsA (TY cI cZ cJ) A GG y_SD_verdictIsMet b_SD_verdictIsMet 1 (some .boolean) rm_SD_verdictIsMet [.ref (ad 20)] (WC ad cI cZ x s d o t s2 d2 rest) (some (.int q.1)) (WC ad cI cZ x s d o q.2 s2 d2 rest) := by
  refine r_met (own := R_SD) rfl (by decide) (Nat.le_of_ble_eq_true rfl) rfl ?_
  intro p e sg m args below meth c C hr hnm hX
  unfold f_SD_verdictIsMet at h
  refine r_aload_n (pc := 0) C d_SD_verdictIsMet_0 rfl 0 rfl ?_
  refine r_get (pc := 1) (v := .ref (ad 10)) C hin_SD 20 rfl rfl 3 (by decide) m_117 rfl rfl d_SD_verdictIsMet_1 ?_
  obtain ⟨q275, hq275, h⟩ := ob h
  refine r_callV (pc := 4) (As := []) (rest := []) (st1 := [.int q275.1]) hE gg_good C hX (c_St_tell_T hE hq275) m_119 m_120 m_121 m_73 m_122 hd_St_tell 10 rfl rfl ⟨⟨(Nat.le_of_ble_eq_true rfl), (Nat.le_of_ble_eq_true rfl)⟩, (Nat.le_of_ble_eq_true rfl), (Nat.le_of_ble_eq_true rfl)⟩ (Nat.le_of_ble_eq_true rfl) rfl rfl d_SD_verdictIsMet_4 ?_
  refine r_aload_n (pc := 7) C d_SD_verdictIsMet_7 rfl 0 rfl ?_
  refine r_get (pc := 8) (v := .int x) C hin_SD 20 rfl rfl 6 (by decide) m_118 rfl rfl d_SD_verdictIsMet_8 ?_
  refine r_iand (pc := 11) C d_SD_verdictIsMet_11 ?_
  refine r_aload_n (pc := 12) C d_SD_verdictIsMet_12 rfl 0 rfl ?_
  refine r_get (pc := 13) (v := .int x) C hin_SD 20 rfl rfl 6 (by decide) m_118 rfl rfl d_SD_verdictIsMet_13 ?_
  refine r_icmp_ne (pc := 16) (tgt := 23) C d_SD_verdictIsMet_16 (by decide) (fun c276 => ?_) (fun c276 => ?_)
  · replace h := iN c276 h
    refine r_iconst (pc := 23) (v := 0) C d_SD_verdictIsMet_23 (by decide) ?_
    cases h
    exact r_iret (pc := 24) C hr rfl rfl rfl d_SD_verdictIsMet_24
  · replace h := ip c276 h
    refine r_iconst (pc := 19) (v := 1) C d_SD_verdictIsMet_19 (by decide) ?_
    refine r_goto (pc := 20) (tgt := 24) C d_SD_verdictIsMet_20 (by decide) ?_
    cases h
    exact r_iret (pc := 24) C hr rfl rfl rfl d_SD_verdictIsMet_24
def f_Re_setOut (d : DD) (o : (Nat → Int32)) (p0 : Int32) (p1 : Int32) : Option ((Nat → Int32)) :=
  Option.bind (f_Dr_has d p0) (fun q283 => (if q283 = 0 then some o else (if (p0 < 0 ∨ 30 ≤ p0.toNatClampNeg) then none else some (upd o p0.toNatClampNeg (vp_nar .boolean p1)))))
abbrev rm_Re_setOut : Room := { frames := 1, cells := 0, slots := 0, locals := 21 }
theorem hd_Re_setOut : y_Re_setOut.cls ≠ "java/lang/invoke/MethodHandle" ∧ y_Re_setOut.cls ≠ "java/lang/invoke/VarHandle" ∧ (parseMethodDescriptor y_Re_setOut.desc).map (fun d => d.parameters.length) = some 2 := by decide +kernel
set_option maxHeartbeats 4000000 in
set_option maxRecDepth 100000 in
theorem c_Re_setOut_R {l : Launch} {E : State → Heap → Prop} {D : va_G} {A : Nat → Prop} {cI cZ cJ : ClassId} (hE : stb A E) {ad : Nat → Nat} {x : Int32} {s : Int64} {d : DD} {o : (Nat → Int32)} {t : TT} {s2 : Int64} {d2 : DD} {rest : va_W} {p0 : Int32} {p1 : Int32} {q : (Nat → Int32)} (h : f_Re_setOut d o p0 p1 = some q) : cm l E D clsA (TY cI cZ cJ) A GG y_Re_setOut b_Re_setOut 3 none rm_Re_setOut [.ref (ad 13), .int p0, .int p1] (WC ad cI cZ x s d o t s2 d2 rest) none (WC ad cI cZ x s d q t s2 d2 rest) := by
  refine r_met (own := R_Re) rfl (by decide) (Nat.le_of_ble_eq_true rfl) rfl ?_
  intro p e sg m args below meth c C hr hnm hX
  unfold f_Re_setOut at h
  refine r_aload_n (pc := 0) C d_Re_setOut_0 rfl 0 rfl ?_
  refine r_get (pc := 1) (v := .ref (ad 19)) C hin_Re 13 rfl rfl 0 (by decide) m_7 rfl rfl d_Re_setOut_1 ?_
  refine r_iload_n (pc := 4) C d_Re_setOut_4 rfl 1 rfl ?_
  obtain ⟨q283, hq283, h⟩ := ob h
  refine r_callV (pc := 5) (As := [.int p0]) (rest := []) (st1 := [.int q283]) hE gg_good C hX (c_Dr_has_D hE hq283) m_9 m_10 m_11 m_12 m_13 hd_Dr_has 19 rfl rfl ⟨⟨(Nat.le_of_ble_eq_true rfl), (Nat.le_of_ble_eq_true rfl)⟩, (Nat.le_of_ble_eq_true rfl), (Nat.le_of_ble_eq_true rfl)⟩ (Nat.le_of_ble_eq_true rfl) rfl rfl d_Re_setOut_5 ?_
  refine r_if_eq (pc := 8) (tgt := 18) C d_Re_setOut_8 (by decide) (fun c285 => ?_) (fun c285 => ?_)
  · replace h := ip c285 h
    cases h
    exact r_vret (pc := 18) C hr rfl rfl d_Re_setOut_18
  · replace h := iN c285 h
    refine r_aload_n (pc := 11) C d_Re_setOut_11 rfl 0 rfl ?_
    refine r_get (pc := 12) (v := .ref (ad 12)) C hin_Re 13 rfl rfl 1 (by decide) m_8 rfl rfl d_Re_setOut_12 ?_
    refine r_iload_n (pc := 15) C d_Re_setOut_15 rfl 1 rfl ?_
    refine r_iload_n (pc := 16) C d_Re_setOut_16 rfl 2 rfl ?_
    obtain ⟨hi284, h⟩ := ign h
    refine r_zast (pc := 17) (ws' := WC ad cI cZ x s d (upd o p0.toNatClampNeg (vp_nar .boolean p1)) t s2 d2 rest) C 12 1 rfl rfl hi284 rfl d_Re_setOut_17 ?_
    cases h
    exact r_vret (pc := 18) C hr rfl rfl d_Re_setOut_18
def f_SD_verdictIsMetWithout (x : Int32) (d : DD) (o : (Nat → Int32)) (t : TT) (p0 : Int32) : Option (Int32 × ((Nat → Int32)) × TT) :=
  Option.bind (f_Re_setOut d o p0 (1)) (fun q290 => Option.bind (f_SD_verdictIsMet x d q290 t) (fun q291 => Option.bind (f_Re_setOut d q290 p0 (0)) (fun q292 => (if q291.1 = 0 ∨ q291.1 = 1 then some (q291.1, q292, q291.2) else none))))
abbrev rm_SD_verdictIsMetWithout : Room := { frames := 5, cells := 0, slots := 0, locals := 109 }
theorem hd_SD_verdictIsMetWithout : y_SD_verdictIsMetWithout.cls ≠ "java/lang/invoke/MethodHandle" ∧ y_SD_verdictIsMetWithout.cls ≠ "java/lang/invoke/VarHandle" ∧ (parseMethodDescriptor y_SD_verdictIsMetWithout.desc).map (fun d => d.parameters.length) = some 1 := by decide +kernel
set_option maxHeartbeats 4000000 in
set_option maxRecDepth 100000 in
theorem c_SD_verdictIsMetWithout_X {l : Launch} {E : State → Heap → Prop} {D : va_G} {A : Nat → Prop} {cI cZ cJ : ClassId} (hE : stb A E) {ad : Nat → Nat} {x : Int32} {s : Int64} {d : DD} {o : (Nat → Int32)} {t : TT} {s2 : Int64} {d2 : DD} {rest : va_W} {p0 : Int32} {q : Int32 × ((Nat → Int32)) × TT} (h : f_SD_verdictIsMetWithout x d o t p0 = some q) : cm l E D clsA (TY cI cZ cJ) A GG y_SD_verdictIsMetWithout b_SD_verdictIsMetWithout 3 (some .boolean) rm_SD_verdictIsMetWithout [.ref (ad 20), .int p0] (WC ad cI cZ x s d o t s2 d2 rest) (some (.int q.1)) (WC ad cI cZ x s d q.2.1 q.2.2 s2 d2 rest) := by
  refine r_met (own := R_SD) rfl (by decide) (Nat.le_of_ble_eq_true rfl) rfl ?_
  intro p e sg m args below meth c C hr hnm hX
  unfold f_SD_verdictIsMetWithout at h
  refine r_aload_n (pc := 0) C d_SD_verdictIsMetWithout_0 rfl 0 rfl ?_
  refine r_get (pc := 1) (v := .ref (ad 13)) C hin_SD 20 rfl rfl 2 (by decide) m_124 rfl rfl d_SD_verdictIsMetWithout_1 ?_
  refine r_iload_n (pc := 4) C d_SD_verdictIsMetWithout_4 rfl 1 rfl ?_
  refine r_iconst (pc := 5) (v := 1) C d_SD_verdictIsMetWithout_5 (by decide) ?_
  obtain ⟨q290, hq290, h⟩ := ob h
  refine r_callV (pc := 6) (As := [.int p0, .int (1)]) (rest := []) (st1 := []) hE gg_good C hX (c_Re_setOut_R hE hq290) m_125 m_126 m_127 m_22 m_128 hd_Re_setOut 13 rfl rfl ⟨⟨(Nat.le_of_ble_eq_true rfl), (Nat.le_of_ble_eq_true rfl)⟩, (Nat.le_of_ble_eq_true rfl), (Nat.le_of_ble_eq_true rfl)⟩ (Nat.le_of_ble_eq_true rfl) rfl rfl d_SD_verdictIsMetWithout_6 ?_
  refine r_aload_n (pc := 9) C d_SD_verdictIsMetWithout_9 rfl 0 rfl ?_
  obtain ⟨q291, hq291, h⟩ := ob h
  refine r_callV (pc := 10) (As := []) (rest := []) (st1 := [.int q291.1]) hE gg_good C hX (c_SD_verdictIsMet_X hE hq291) m_129 m_130 m_131 m_132 m_133 hd_SD_verdictIsMet 20 rfl rfl ⟨⟨(Nat.le_of_ble_eq_true rfl), (Nat.le_of_ble_eq_true rfl)⟩, (Nat.le_of_ble_eq_true rfl), (Nat.le_of_ble_eq_true rfl)⟩ (Nat.le_of_ble_eq_true rfl) rfl rfl d_SD_verdictIsMetWithout_10 ?_
  refine r_istore_n (pc := 13) (lv' := [(2, .int q291.1), (0, .ref (ad 20)), (1, .int p0)]) C d_SD_verdictIsMetWithout_13 rfl (by decide) rfl ?_
  refine r_aload_n (pc := 14) C d_SD_verdictIsMetWithout_14 rfl 1 rfl ?_
  refine r_get (pc := 15) (v := .ref (ad 13)) C hin_SD 20 rfl rfl 2 (by decide) m_124 rfl rfl d_SD_verdictIsMetWithout_15 ?_
  refine r_iload_n (pc := 18) C d_SD_verdictIsMetWithout_18 rfl 2 rfl ?_
  refine r_iconst (pc := 19) (v := 0) C d_SD_verdictIsMetWithout_19 (by decide) ?_
  obtain ⟨q292, hq292, h⟩ := ob h
  refine r_callV (pc := 20) (As := [.int p0, .int (0)]) (rest := []) (st1 := []) hE gg_good C hX (c_Re_setOut_R hE hq292) m_125 m_126 m_127 m_22 m_128 hd_Re_setOut 13 rfl rfl ⟨⟨(Nat.le_of_ble_eq_true rfl), (Nat.le_of_ble_eq_true rfl)⟩, (Nat.le_of_ble_eq_true rfl), (Nat.le_of_ble_eq_true rfl)⟩ (Nat.le_of_ble_eq_true rfl) rfl rfl d_SD_verdictIsMetWithout_20 ?_
  refine r_iload_n (pc := 23) C d_SD_verdictIsMetWithout_23 rfl 0 rfl ?_
  obtain ⟨hb293, h⟩ := ig h
  cases h
  exact r_iret (pc := 24) C hr (nb01 hb293) rfl rfl d_SD_verdictIsMetWithout_24
