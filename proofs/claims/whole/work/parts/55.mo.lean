def jn_Mo_minimal_55 (kx : Int32 × Int32 × Int32 × ((Nat → Int32)) × MP → Option (Int32 × Int32 × ((Nat → Int32)) × MP)) (rec : Int32 × Int32 × Int32 × ((Nat → Int32)) × MP → Option (Int32 × Int32 × ((Nat → Int32)) × MP)) (z : Int32 × Int32 × Int32 × Int32 × ((Nat → Int32)) × MP) : Option (Int32 × Int32 × ((Nat → Int32)) × MP) :=
  (if (z.2.1 < 0 ∨ 40 ≤ z.2.1.toNatClampNeg) then none else rec (z.2.2.1, z.2.1 + 1, z.2.2.2.1, upd z.2.2.2.2.1 z.2.1.toNatClampNeg (vp_nar .boolean (0)), z.2.2.2.2.2))
def jn_Mo_minimal_54 (kx : Int32 × Int32 × Int32 × ((Nat → Int32)) × MP → Option (Int32 × Int32 × ((Nat → Int32)) × MP)) (rec : Int32 × Int32 × Int32 × ((Nat → Int32)) × MP → Option (Int32 × Int32 × ((Nat → Int32)) × MP)) (z : Int32 × Int32 × Int32 × ((Nat → Int32)) × MP) : Option (Int32 × Int32 × ((Nat → Int32)) × MP) :=
  (jn_Mo_minimal_55 kx rec (z.1, z.2.1, 0, z.2.2.1, z.2.2.2.1, z.2.2.2.2))
def bd_Mo_minimal_12 (mw : Int32) (md : MD) (kx : Int32 × Int32 × Int32 × ((Nat → Int32)) × MP → Option (Int32 × Int32 × ((Nat → Int32)) × MP)) (rec : Int32 × Int32 × Int32 × ((Nat → Int32)) × MP → Option (Int32 × Int32 × ((Nat → Int32)) × MP)) (z : Int32 × Int32 × Int32 × ((Nat → Int32)) × MP) : Option (Int32 × Int32 × ((Nat → Int32)) × MP) :=
  (if md.1 ≤ z.2.1 then kx (z.1, z.2.1, z.2.2.1, z.2.2.2.1, z.2.2.2.2) else (if (z.2.1 < 0 ∨ 40 ≤ z.2.1.toNatClampNeg) then none else (if z.2.2.2.1 z.2.1.toNatClampNeg = 0 then (if (z.2.1 < 0 ∨ 40 ≤ z.2.1.toNatClampNeg) then none else (if z.1 = 0 then (jn_Mo_minimal_54 kx rec (z.1, z.2.1, z.2.2.1, upd z.2.2.2.1 z.2.1.toNatClampNeg (vp_nar .boolean (1)), z.2.2.2.2)) else Option.bind (f_Mo_isSo mw (upd z.2.2.2.1 z.2.1.toNatClampNeg (vp_nar .boolean (1))) md z.2.2.2.2) (fun q719 => (if q719.1 = 0 then (jn_Mo_minimal_55 kx rec (z.1, z.2.1, 1, z.2.2.1, upd z.2.2.2.1 z.2.1.toNatClampNeg (vp_nar .boolean (1)), q719.2)) else (jn_Mo_minimal_54 kx rec (z.1, z.2.1, z.2.2.1, upd z.2.2.2.1 z.2.1.toNatClampNeg (vp_nar .boolean (1)), q719.2)))))) else rec (z.1, z.2.1 + 1, z.2.2.1, z.2.2.2.1, z.2.2.2.2))))
def f_Mo_minimal (mw : Int32) (mo : (Nat → Int32)) (md : MD) (mp : MP) : Option (Int32 × Int32 × ((Nat → Int32)) × MP) :=
  Option.bind (f_Mo_isSo mw mo md mp) (fun q716 => (itn (bd_Mo_minimal_12 mw md (fun z733 => (if z733.1 = 0 ∨ z733.1 = 1 then some (z733.1, z733.2.2.1, z733.2.2.2.1, z733.2.2.2.2) else none))) 70 (q716.1, 0, 0, mo, q716.2)))
abbrev rm_Mo_minimal : Room := { frames := 3, cells := 0, slots := 0, locals := 71 }
theorem hd_Mo_minimal : y_Mo_minimal.cls ≠ "java/lang/invoke/MethodHandle" ∧ y_Mo_minimal.cls ≠ "java/lang/invoke/VarHandle" ∧ (parseMethodDescriptor y_Mo_minimal.desc).map (fun d => d.parameters.length) = some 0 := by decide +kernel
set_option maxHeartbeats 4000000 in
set_option maxRecDepth 100000 in
theorem vj_Mo_minimal_55_M {l : Launch} {E : State → Heap → Prop} {D : va_G} {A : Nat → Prop} {cI cZ cJ : ClassId} (hE : stb A E) {ad : Nat → Nat} {mu : Int64} {mz : Int32} {mw : Int32} {md : MD} {mr : MR} {rest : va_W} {p : Program} {e : Env} {sg : State} {m : MethodId} {args : Array Value} {below : List Frame} {meth : Method} {c : Code} (C : cx p sg m args meth c D clsA (TY cI cZ cJ) A GG R_Mo b_Mo_minimal 3) (hr : meth.sig.returnType = (some .boolean)) (hX : E sg sg.heap) {q : Int32 × Int32 × ((Nat → Int32)) × MP} {kx rec : Int32 × Int32 × Int32 × ((Nat → Int32)) × MP → Option (Int32 × Int32 × ((Nat → Int32)) × MP)} (K : ∀ z : Int32 × Int32 × Int32 × ((Nat → Int32)) × MP, kx z = some q → vv p l e rm_Mo_minimal sg m args below meth c D clsA A 3 0 0 (MQ below (qcI D clsA A (some (.int q.1)) (WM ad cI cZ q.2.1 mu mz mw q.2.2.1 md mr q.2.2.2 rest)) args sg rm_Mo_minimal.cells rm_Mo_minimal.slots A) 69 [(0, .ref (ad 11)), (1, .int z.1), (2, .int z.2.1)] [] (WM ad cI cZ z.2.2.1 mu mz mw z.2.2.2.1 md mr z.2.2.2.2 rest)) (ih : ∀ z : Int32 × Int32 × Int32 × ((Nat → Int32)) × MP, rec z = some q → vv p l e rm_Mo_minimal sg m args below meth c D clsA A 3 0 0 (MQ below (qcI D clsA A (some (.int q.1)) (WM ad cI cZ q.2.1 mu mz mw q.2.2.1 md mr q.2.2.2 rest)) args sg rm_Mo_minimal.cells rm_Mo_minimal.slots A) 12 [(0, .ref (ad 11)), (1, .int z.1), (2, .int z.2.1)] [] (WM ad cI cZ z.2.2.1 mu mz mw z.2.2.2.1 md mr z.2.2.2.2 rest)) :
    ∀ z : Int32 × Int32 × Int32 × Int32 × ((Nat → Int32)) × MP, jn_Mo_minimal_55 kx rec z = some q → vv p l e rm_Mo_minimal sg m args below meth c D clsA A 3 0 0 (MQ below (qcI D clsA A (some (.int q.1)) (WM ad cI cZ q.2.1 mu mz mw q.2.2.1 md mr q.2.2.2 rest)) args sg rm_Mo_minimal.cells rm_Mo_minimal.slots A) 55 [(0, .ref (ad 11)), (1, .int z.1), (2, .int z.2.1)] [.int z.2.2.1] (WM ad cI cZ z.2.2.2.1 mu mz mw z.2.2.2.2.1 md mr z.2.2.2.2.2 rest) := by
  have _ := hE
  intro z h
  obtain ⟨zv0, zv1, zv2, zv3, zv4, zv5⟩ := z
  unfold jn_Mo_minimal_55 at h
  (try dsimp only at h)
  show vv p l e rm_Mo_minimal sg m args below meth c D clsA A 3 0 0 (MQ below (qcI D clsA A (some (.int q.1)) (WM ad cI cZ q.2.1 mu mz mw q.2.2.1 md mr q.2.2.2 rest)) args sg rm_Mo_minimal.cells rm_Mo_minimal.slots A) 55 [(0, .ref (ad 11)), (1, .int zv0), (2, .int zv1)] [.int zv2] (WM ad cI cZ zv3 mu mz mw zv4 md mr zv5 rest)
  refine r_istore_n (pc := 55) (lv' := [(1, .int zv2), (0, .ref (ad 11)), (2, .int zv1)]) C d_Mo_minimal_55 rfl (by decide) rfl ?_
  refine r_aload_n (pc := 56) C d_Mo_minimal_56 rfl 1 rfl ?_
  refine r_get (pc := 57) (v := .ref (ad 10)) C hin_Mo 11 rfl rfl 5 (by decide) mm_27 rfl rfl d_Mo_minimal_57 ?_
  refine r_iload_n (pc := 60) C d_Mo_minimal_60 rfl 2 rfl ?_
  refine r_iconst (pc := 61) (v := 0) C d_Mo_minimal_61 (by decide) ?_
  obtain ⟨hi718, h⟩ := ign h
  refine r_zast (pc := 62) (ws' := WM ad cI cZ zv3 mu mz mw (upd zv4 zv1.toNatClampNeg (vp_nar .boolean (0))) md mr zv5 rest) C 10 1 rfl rfl hi718 rfl d_Mo_minimal_62 ?_
  refine r_iincK (pc := 63) (w0 := 1) (lv' := [(2, .int (zv1 + 1)), (1, .int zv2), (0, .ref (ad 11))]) C d_Mo_minimal_63 (by decide) 2 rfl (by decide) rfl ?_
  refine r_goto (pc := 66) (tgt := 12) C d_Mo_minimal_66 (by decide) ?_
  refine r_loc (lv' := [(0, .ref (ad 11)), (1, .int zv2), (2, .int (zv1 + 1))]) [2, 1, 0] rfl ?_
  exact ih (zv2, zv1 + 1, zv3, upd zv4 zv1.toNatClampNeg (vp_nar .boolean (0)), zv5) h
set_option maxHeartbeats 4000000 in
set_option maxRecDepth 100000 in
theorem vj_Mo_minimal_54_M {l : Launch} {E : State → Heap → Prop} {D : va_G} {A : Nat → Prop} {cI cZ cJ : ClassId} (hE : stb A E) {ad : Nat → Nat} {mu : Int64} {mz : Int32} {mw : Int32} {md : MD} {mr : MR} {rest : va_W} {p : Program} {e : Env} {sg : State} {m : MethodId} {args : Array Value} {below : List Frame} {meth : Method} {c : Code} (C : cx p sg m args meth c D clsA (TY cI cZ cJ) A GG R_Mo b_Mo_minimal 3) (hr : meth.sig.returnType = (some .boolean)) (hX : E sg sg.heap) {q : Int32 × Int32 × ((Nat → Int32)) × MP} {kx rec : Int32 × Int32 × Int32 × ((Nat → Int32)) × MP → Option (Int32 × Int32 × ((Nat → Int32)) × MP)} (K : ∀ z : Int32 × Int32 × Int32 × ((Nat → Int32)) × MP, kx z = some q → vv p l e rm_Mo_minimal sg m args below meth c D clsA A 3 0 0 (MQ below (qcI D clsA A (some (.int q.1)) (WM ad cI cZ q.2.1 mu mz mw q.2.2.1 md mr q.2.2.2 rest)) args sg rm_Mo_minimal.cells rm_Mo_minimal.slots A) 69 [(0, .ref (ad 11)), (1, .int z.1), (2, .int z.2.1)] [] (WM ad cI cZ z.2.2.1 mu mz mw z.2.2.2.1 md mr z.2.2.2.2 rest)) (ih : ∀ z : Int32 × Int32 × Int32 × ((Nat → Int32)) × MP, rec z = some q → vv p l e rm_Mo_minimal sg m args below meth c D clsA A 3 0 0 (MQ below (qcI D clsA A (some (.int q.1)) (WM ad cI cZ q.2.1 mu mz mw q.2.2.1 md mr q.2.2.2 rest)) args sg rm_Mo_minimal.cells rm_Mo_minimal.slots A) 12 [(0, .ref (ad 11)), (1, .int z.1), (2, .int z.2.1)] [] (WM ad cI cZ z.2.2.1 mu mz mw z.2.2.2.1 md mr z.2.2.2.2 rest)) :
    ∀ z : Int32 × Int32 × Int32 × ((Nat → Int32)) × MP, jn_Mo_minimal_54 kx rec z = some q → vv p l e rm_Mo_minimal sg m args below meth c D clsA A 3 0 0 (MQ below (qcI D clsA A (some (.int q.1)) (WM ad cI cZ q.2.1 mu mz mw q.2.2.1 md mr q.2.2.2 rest)) args sg rm_Mo_minimal.cells rm_Mo_minimal.slots A) 54 [(0, .ref (ad 11)), (1, .int z.1), (2, .int z.2.1)] [] (WM ad cI cZ z.2.2.1 mu mz mw z.2.2.2.1 md mr z.2.2.2.2 rest) := by
  have _ := hE
  intro z h
  obtain ⟨zv0, zv1, zv2, zv3, zv4⟩ := z
  unfold jn_Mo_minimal_54 at h
  (try dsimp only at h)
  show vv p l e rm_Mo_minimal sg m args below meth c D clsA A 3 0 0 (MQ below (qcI D clsA A (some (.int q.1)) (WM ad cI cZ q.2.1 mu mz mw q.2.2.1 md mr q.2.2.2 rest)) args sg rm_Mo_minimal.cells rm_Mo_minimal.slots A) 54 [(0, .ref (ad 11)), (1, .int zv0), (2, .int zv1)] [] (WM ad cI cZ zv2 mu mz mw zv3 md mr zv4 rest)
  refine r_iconst (pc := 54) (v := 0) C d_Mo_minimal_54 (by decide) ?_
  refine r_loc (lv' := [(0, .ref (ad 11)), (1, .int zv0), (2, .int zv1)]) [0, 1, 2] rfl ?_
  exact vj_Mo_minimal_55_M hE C hr hX K ih (zv0, zv1, 0, zv2, zv3, zv4) h
set_option maxHeartbeats 4000000 in
set_option maxRecDepth 100000 in
theorem vl_Mo_minimal_12_M {l : Launch} {E : State → Heap → Prop} {D : va_G} {A : Nat → Prop} {cI cZ cJ : ClassId} (hE : stb A E) {ad : Nat → Nat} {mu : Int64} {mz : Int32} {mw : Int32} {md : MD} {mr : MR} {rest : va_W} {p : Program} {e : Env} {sg : State} {m : MethodId} {args : Array Value} {below : List Frame} {meth : Method} {c : Code} (C : cx p sg m args meth c D clsA (TY cI cZ cJ) A GG R_Mo b_Mo_minimal 3) (hr : meth.sig.returnType = (some .boolean)) (hX : E sg sg.heap) {q : Int32 × Int32 × ((Nat → Int32)) × MP} {kx : Int32 × Int32 × Int32 × ((Nat → Int32)) × MP → Option (Int32 × Int32 × ((Nat → Int32)) × MP)} (K : ∀ z : Int32 × Int32 × Int32 × ((Nat → Int32)) × MP, kx z = some q → vv p l e rm_Mo_minimal sg m args below meth c D clsA A 3 0 0 (MQ below (qcI D clsA A (some (.int q.1)) (WM ad cI cZ q.2.1 mu mz mw q.2.2.1 md mr q.2.2.2 rest)) args sg rm_Mo_minimal.cells rm_Mo_minimal.slots A) 69 [(0, .ref (ad 11)), (1, .int z.1), (2, .int z.2.1)] [] (WM ad cI cZ z.2.2.1 mu mz mw z.2.2.2.1 md mr z.2.2.2.2 rest)) :
    ∀ (n : Nat) (z : Int32 × Int32 × Int32 × ((Nat → Int32)) × MP), itn (bd_Mo_minimal_12 mw md kx) n z = some q → vv p l e rm_Mo_minimal sg m args below meth c D clsA A 3 0 0 (MQ below (qcI D clsA A (some (.int q.1)) (WM ad cI cZ q.2.1 mu mz mw q.2.2.1 md mr q.2.2.2 rest)) args sg rm_Mo_minimal.cells rm_Mo_minimal.slots A) 12 [(0, .ref (ad 11)), (1, .int z.1), (2, .int z.2.1)] [] (WM ad cI cZ z.2.2.1 mu mz mw z.2.2.2.1 md mr z.2.2.2.2 rest) := by
  have _ := hE
  intro n
  induction n with
  | zero => intro z h; cases h
  | succ n ih =>
    intro z h
    obtain ⟨zv0, zv1, zv2, zv3, zv4⟩ := z
    replace h : bd_Mo_minimal_12 mw md kx (itn (bd_Mo_minimal_12 mw md kx) n) (zv0, zv1, zv2, zv3, zv4) = some q := h
    unfold bd_Mo_minimal_12 at h
    (try dsimp only at h)
    show vv p l e rm_Mo_minimal sg m args below meth c D clsA A 3 0 0 (MQ below (qcI D clsA A (some (.int q.1)) (WM ad cI cZ q.2.1 mu mz mw q.2.2.1 md mr q.2.2.2 rest)) args sg rm_Mo_minimal.cells rm_Mo_minimal.slots A) 12 [(0, .ref (ad 11)), (1, .int zv0), (2, .int zv1)] [] (WM ad cI cZ zv2 mu mz mw zv3 md mr zv4 rest)
    refine r_iload_n (pc := 12) C d_Mo_minimal_12 rfl 2 rfl ?_
    refine r_aload_n (pc := 13) C d_Mo_minimal_13 rfl 0 rfl ?_
    refine r_get (pc := 14) (v := .int md.1) C hin_Mo 11 rfl rfl 4 (by decide) mm_26 rfl rfl d_Mo_minimal_14 ?_
    refine r_icmp_ge (pc := 17) (tgt := 69) C d_Mo_minimal_17 (by decide) (fun c732 => ?_) (fun c732 => ?_)
    · replace h := ip c732 h
      refine r_loc (lv' := [(0, .ref (ad 11)), (1, .int zv0), (2, .int zv1)]) [0, 1, 2] rfl ?_
      exact K (zv0, zv1, zv2, zv3, zv4) h
    · replace h := iN c732 h
      refine r_aload_n (pc := 20) C d_Mo_minimal_20 rfl 0 rfl ?_
      refine r_get (pc := 21) (v := .ref (ad 10)) C hin_Mo 11 rfl rfl 5 (by decide) mm_27 rfl rfl d_Mo_minimal_21 ?_
      refine r_iload_n (pc := 24) C d_Mo_minimal_24 rfl 2 rfl ?_
      obtain ⟨hi731, h⟩ := ign h
      refine r_zald (pc := 25) C 10 1 rfl rfl hi731 d_Mo_minimal_25 ?_
      refine r_if_eq (pc := 26) (tgt := 32) C d_Mo_minimal_26 (by decide) (fun c730 => ?_) (fun c730 => ?_)
      · replace h := ip c730 h
        refine r_aload_n (pc := 32) C d_Mo_minimal_32 rfl 0 rfl ?_
        refine r_get (pc := 33) (v := .ref (ad 10)) C hin_Mo 11 rfl rfl 5 (by decide) mm_27 rfl rfl d_Mo_minimal_33 ?_
        refine r_iload_n (pc := 36) C d_Mo_minimal_36 rfl 2 rfl ?_
        refine r_iconst (pc := 37) (v := 1) C d_Mo_minimal_37 (by decide) ?_
        obtain ⟨hi729, h⟩ := ign h
        refine r_zast (pc := 38) (ws' := WM ad cI cZ zv2 mu mz mw (upd zv3 zv1.toNatClampNeg (vp_nar .boolean (1))) md mr zv4 rest) C 10 1 rfl rfl hi729 rfl d_Mo_minimal_38 ?_
        refine r_iload_n (pc := 39) C d_Mo_minimal_39 rfl 1 rfl ?_
        refine r_if_eq (pc := 40) (tgt := 54) C d_Mo_minimal_40 (by decide) (fun c728 => ?_) (fun c728 => ?_)
        · replace h := ip c728 h
          refine r_loc (lv' := [(0, .ref (ad 11)), (1, .int zv0), (2, .int zv1)]) [0, 1, 2] rfl ?_
          exact vj_Mo_minimal_54_M hE C hr hX K ih (zv0, zv1, zv2, upd zv3 zv1.toNatClampNeg (vp_nar .boolean (1)), zv4) h
        · replace h := iN c728 h
          refine r_aload_n (pc := 43) C d_Mo_minimal_43 rfl 0 rfl ?_
          obtain ⟨q726, hq726, h⟩ := ob h
          refine r_callV (pc := 44) (As := []) (rest := []) (st1 := [.int q726.1]) hE gg_good C hX (c_Mo_isSo_M hE hq726) mm_62 mm_63 mm_64 mm_10 mm_65 hd_Mo_isSo 11 rfl rfl ⟨⟨(Nat.le_of_ble_eq_true rfl), (Nat.le_of_ble_eq_true rfl)⟩, (Nat.le_of_ble_eq_true rfl), (Nat.le_of_ble_eq_true rfl)⟩ (Nat.le_of_ble_eq_true rfl) rfl rfl d_Mo_minimal_44 ?_
          refine r_if_ne (pc := 47) (tgt := 54) C d_Mo_minimal_47 (by decide) (fun c727 => ?_) (fun c727 => ?_)
          · replace h := iN c727 h
            refine r_loc (lv' := [(0, .ref (ad 11)), (1, .int zv0), (2, .int zv1)]) [0, 1, 2] rfl ?_
            exact vj_Mo_minimal_54_M hE C hr hX K ih (zv0, zv1, zv2, upd zv3 zv1.toNatClampNeg (vp_nar .boolean (1)), q726.2) h
          · replace h := ip c727 h
            refine r_iconst (pc := 50) (v := 1) C d_Mo_minimal_50 (by decide) ?_
            refine r_goto (pc := 51) (tgt := 55) C d_Mo_minimal_51 (by decide) ?_
            refine r_loc (lv' := [(0, .ref (ad 11)), (1, .int zv0), (2, .int zv1)]) [0, 1, 2] rfl ?_
            exact vj_Mo_minimal_55_M hE C hr hX K ih (zv0, zv1, 1, zv2, upd zv3 zv1.toNatClampNeg (vp_nar .boolean (1)), q726.2) h
      · replace h := iN c730 h
        refine r_goto (pc := 29) (tgt := 63) C d_Mo_minimal_29 (by decide) ?_
        refine r_iincK (pc := 63) (w0 := 1) (lv' := [(2, .int (zv1 + 1)), (0, .ref (ad 11)), (1, .int zv0)]) C d_Mo_minimal_63 (by decide) 2 rfl (by decide) rfl ?_
        refine r_goto (pc := 66) (tgt := 12) C d_Mo_minimal_66 (by decide) ?_
        refine r_loc (lv' := [(0, .ref (ad 11)), (1, .int zv0), (2, .int (zv1 + 1))]) [1, 2, 0] rfl ?_
        exact ih (zv0, zv1 + 1, zv2, zv3, zv4) h
set_option maxHeartbeats 4000000 in
set_option maxRecDepth 100000 in
theorem c_Mo_minimal_M {l : Launch} {E : State → Heap → Prop} {D : va_G} {A : Nat → Prop} {cI cZ cJ : ClassId} (hE : stb A E) {ad : Nat → Nat} {mk : Int32} {mu : Int64} {mz : Int32} {mw : Int32} {mo : (Nat → Int32)} {md : MD} {mr : MR} {mp : MP} {rest : va_W} {q : Int32 × Int32 × ((Nat → Int32)) × MP} (h : f_Mo_minimal mw mo md mp = some q) : cm l E D clsA (TY cI cZ cJ) A GG y_Mo_minimal b_Mo_minimal 3 (some .boolean) rm_Mo_minimal [.ref (ad 11)] (WM ad cI cZ mk mu mz mw mo md mr mp rest) (some (.int q.1)) (WM ad cI cZ q.2.1 mu mz mw q.2.2.1 md mr q.2.2.2 rest) := by
  refine r_met (own := R_Mo) rfl (by decide) (Nat.le_of_ble_eq_true rfl) rfl ?_
  intro p e sg m args below meth c C hr hnm hX
  unfold f_Mo_minimal at h
  refine r_aload_n (pc := 0) C d_Mo_minimal_0 rfl 0 rfl ?_
  refine r_iconst (pc := 1) (v := 0) C d_Mo_minimal_1 (by decide) ?_
  refine r_put (pc := 2) (ty := .int) (ws' := WM ad cI cZ (0) mu mz mw mo md mr mp rest) C hin_Mo t_Mo t_Mo_ok n_Mo 11 rfl rfl 0 (by decide) mm_0 rfl rfl pd_I rfl rfl (Nat.le_of_ble_eq_true rfl) rfl d_Mo_minimal_2 ?_
  refine r_aload_n (pc := 5) C d_Mo_minimal_5 rfl 0 rfl ?_
  obtain ⟨q716, hq716, h⟩ := ob h
  refine r_callV (pc := 6) (As := []) (rest := []) (st1 := [.int q716.1]) hE gg_good C hX (c_Mo_isSo_M hE hq716) mm_62 mm_63 mm_64 mm_10 mm_65 hd_Mo_isSo 11 rfl rfl ⟨⟨(Nat.le_of_ble_eq_true rfl), (Nat.le_of_ble_eq_true rfl)⟩, (Nat.le_of_ble_eq_true rfl), (Nat.le_of_ble_eq_true rfl)⟩ (Nat.le_of_ble_eq_true rfl) rfl rfl d_Mo_minimal_6 ?_
  refine r_istore_n (pc := 9) (lv' := [(1, .int q716.1), (0, .ref (ad 11))]) C d_Mo_minimal_9 rfl (by decide) rfl ?_
  refine r_iconst (pc := 10) (v := 0) C d_Mo_minimal_10 (by decide) ?_
  refine r_istore_n (pc := 11) (lv' := [(2, .int (0)), (1, .int q716.1), (0, .ref (ad 11))]) C d_Mo_minimal_11 rfl (by decide) rfl ?_
  refine r_loc (lv' := [(0, .ref (ad 11)), (1, .int q716.1), (2, .int (0))]) [2, 1, 0] rfl ?_
  refine vl_Mo_minimal_12_M hE C hr hX (fun z733 h => ?_) 70 (q716.1, 0, 0, mo, q716.2) h
  refine r_iload_n (pc := 69) C d_Mo_minimal_69 rfl 1 rfl ?_
  obtain ⟨hb734, h⟩ := ig h
  cases h
  exact r_iret (pc := 70) C hr (nb01 hb734) rfl rfl d_Mo_minimal_70
def bd_Mo_left_36 (mo : (Nat → Int32)) (kx : Int32 × Int32 × Int32 × Int32 → Option (Int32 × Int32)) (rec : Int32 × Int32 × Int32 × Int32 → Option (Int32 × Int32)) (z : Int32 × Int32 × Int32 × Int32) : Option (Int32 × Int32) :=
  (if z.1 ≤ z.2.1 then kx (z.1, z.2.1, z.2.2.1, z.2.2.2) else (if ((z.2.2.1 + 1) < 0 ∨ 40 ≤ (z.2.2.1 + 1).toNatClampNeg) then none else (if mo (z.2.2.1 + 1).toNatClampNeg = 0 then rec (z.1, z.2.1 + (1 : Int32), z.2.2.1 + 1, z.2.2.2) else rec (z.1, z.2.1 + (0 : Int32), z.2.2.1 + 1, z.2.2.2))))
def jn_Mo_left_20 (mo : (Nat → Int32)) (z : Int32 × Int32 × Int32) : Option (Int32 × Int32) :=
  (if z.2.1 ≤ 0 then (itn (bd_Mo_left_36 mo (fun z756 => some (z756.2.2.1, z756.2.2.2))) 70 (z.1, (-1), (-1), z.2.1)) else some (0, z.2.1))
def f_Mo_left (mk : Int32) (mo : (Nat → Int32)) (md : MD) (p0 : Int32) : Option (Int32 × Int32) :=
  Option.bind (f_Mo_leftOnes mo md) (fun q748 => Option.bind (f_Mo_in p0 (0) (q748 - (1 : Int32))) (fun q749 => (if q749 = 0 then (jn_Mo_left_20 mo (p0, 1, mk)) else (jn_Mo_left_20 mo (p0, 0, mk)))))
abbrev rm_Mo_left : Room := { frames := 1, cells := 0, slots := 0, locals := 22 }
theorem hd_Mo_left : y_Mo_left.cls ≠ "java/lang/invoke/MethodHandle" ∧ y_Mo_left.cls ≠ "java/lang/invoke/VarHandle" ∧ (parseMethodDescriptor y_Mo_left.desc).map (fun d => d.parameters.length) = some 1 := by decide +kernel
set_option maxHeartbeats 4000000 in
set_option maxRecDepth 100000 in
theorem vl_Mo_left_36_M {l : Launch} {E : State → Heap → Prop} {D : va_G} {A : Nat → Prop} {cI cZ cJ : ClassId} (hE : stb A E) {ad : Nat → Nat} {mu : Int64} {mz : Int32} {mw : Int32} {mo : (Nat → Int32)} {md : MD} {mr : MR} {mp : MP} {rest : va_W} {p : Program} {e : Env} {sg : State} {m : MethodId} {args : Array Value} {below : List Frame} {meth : Method} {c : Code} (C : cx p sg m args meth c D clsA (TY cI cZ cJ) A GG R_Mo b_Mo_left 4) (hr : meth.sig.returnType = (some .int)) (hX : E sg sg.heap) {q : Int32 × Int32} {kx : Int32 × Int32 × Int32 × Int32 → Option (Int32 × Int32)} (K : ∀ z : Int32 × Int32 × Int32 × Int32, kx z = some q → vv p l e rm_Mo_left sg m args below meth c D clsA A 4 0 0 (MQ below (qcI D clsA A (some (.int q.1)) (WM ad cI cZ q.2 mu mz mw mo md mr mp rest)) args sg rm_Mo_left.cells rm_Mo_left.slots A) 64 [(0, .ref (ad 11)), (1, .int z.1), (2, .int z.2.1), (3, .int z.2.2.1)] [] (WM ad cI cZ z.2.2.2 mu mz mw mo md mr mp rest)) :
    ∀ (n : Nat) (z : Int32 × Int32 × Int32 × Int32), itn (bd_Mo_left_36 mo kx) n z = some q → vv p l e rm_Mo_left sg m args below meth c D clsA A 4 0 0 (MQ below (qcI D clsA A (some (.int q.1)) (WM ad cI cZ q.2 mu mz mw mo md mr mp rest)) args sg rm_Mo_left.cells rm_Mo_left.slots A) 36 [(0, .ref (ad 11)), (1, .int z.1), (2, .int z.2.1), (3, .int z.2.2.1)] [] (WM ad cI cZ z.2.2.2 mu mz mw mo md mr mp rest) := by
  have _ := hE
  intro n
  induction n with
  | zero => intro z h; cases h
  | succ n ih =>
    intro z h
    obtain ⟨zv0, zv1, zv2, zv3⟩ := z
    replace h : bd_Mo_left_36 mo kx (itn (bd_Mo_left_36 mo kx) n) (zv0, zv1, zv2, zv3) = some q := h
    unfold bd_Mo_left_36 at h
    (try dsimp only at h)
    show vv p l e rm_Mo_left sg m args below meth c D clsA A 4 0 0 (MQ below (qcI D clsA A (some (.int q.1)) (WM ad cI cZ q.2 mu mz mw mo md mr mp rest)) args sg rm_Mo_left.cells rm_Mo_left.slots A) 36 [(0, .ref (ad 11)), (1, .int zv0), (2, .int zv1), (3, .int zv2)] [] (WM ad cI cZ zv3 mu mz mw mo md mr mp rest)
    refine r_iload_n (pc := 36) C d_Mo_left_36 rfl 2 rfl ?_
    refine r_iload_n (pc := 37) C d_Mo_left_37 rfl 1 rfl ?_
    refine r_icmp_ge (pc := 38) (tgt := 64) C d_Mo_left_38 (by decide) (fun c755 => ?_) (fun c755 => ?_)
    · replace h := ip c755 h
      refine r_loc (lv' := [(0, .ref (ad 11)), (1, .int zv0), (2, .int zv1), (3, .int zv2)]) [0, 1, 2, 3] rfl ?_
      exact K (zv0, zv1, zv2, zv3) h
    · replace h := iN c755 h
      refine r_iincK (pc := 41) (w0 := 1) (lv' := [(3, .int (zv2 + 1)), (0, .ref (ad 11)), (1, .int zv0), (2, .int zv1)]) C d_Mo_left_41 (by decide) 3 rfl (by decide) rfl ?_
      refine r_iload_n (pc := 44) C d_Mo_left_44 rfl 3 rfl ?_
      refine r_aload_n (pc := 45) C d_Mo_left_45 rfl 1 rfl ?_
      refine r_get (pc := 46) (v := .ref (ad 10)) C hin_Mo 11 rfl rfl 5 (by decide) mm_27 rfl rfl d_Mo_left_46 ?_
      refine r_iload_n (pc := 49) C d_Mo_left_49 rfl 0 rfl ?_
      obtain ⟨hi754, h⟩ := ign h
      refine r_zald (pc := 50) C 10 1 rfl rfl hi754 d_Mo_left_50 ?_
      refine r_if_eq (pc := 51) (tgt := 58) C d_Mo_left_51 (by decide) (fun c753 => ?_) (fun c753 => ?_)
      · replace h := ip c753 h
        refine r_iconst (pc := 58) (v := 1) C d_Mo_left_58 (by decide) ?_
        refine r_iadd (pc := 59) C d_Mo_left_59 ?_
        refine r_istore_n (pc := 60) (lv' := [(2, .int (zv1 + (1 : Int32))), (3, .int (zv2 + 1)), (0, .ref (ad 11)), (1, .int zv0)]) C d_Mo_left_60 rfl (by decide) rfl ?_
        refine r_goto (pc := 61) (tgt := 36) C d_Mo_left_61 (by decide) ?_
        refine r_loc (lv' := [(0, .ref (ad 11)), (1, .int zv0), (2, .int (zv1 + (1 : Int32))), (3, .int (zv2 + 1))]) [2, 3, 0, 1] rfl ?_
        exact ih (zv0, zv1 + (1 : Int32), zv2 + 1, zv3) h
      · replace h := iN c753 h
        refine r_iconst (pc := 54) (v := 0) C d_Mo_left_54 (by decide) ?_
        refine r_goto (pc := 55) (tgt := 59) C d_Mo_left_55 (by decide) ?_
        refine r_iadd (pc := 59) C d_Mo_left_59 ?_
        refine r_istore_n (pc := 60) (lv' := [(2, .int (zv1 + (0 : Int32))), (3, .int (zv2 + 1)), (0, .ref (ad 11)), (1, .int zv0)]) C d_Mo_left_60 rfl (by decide) rfl ?_
        refine r_goto (pc := 61) (tgt := 36) C d_Mo_left_61 (by decide) ?_
        refine r_loc (lv' := [(0, .ref (ad 11)), (1, .int zv0), (2, .int (zv1 + (0 : Int32))), (3, .int (zv2 + 1))]) [2, 3, 0, 1] rfl ?_
        exact ih (zv0, zv1 + (0 : Int32), zv2 + 1, zv3) h
set_option maxHeartbeats 4000000 in
set_option maxRecDepth 100000 in
theorem vj_Mo_left_20_M {l : Launch} {E : State → Heap → Prop} {D : va_G} {A : Nat → Prop} {cI cZ cJ : ClassId} (hE : stb A E) {ad : Nat → Nat} {mu : Int64} {mz : Int32} {mw : Int32} {mo : (Nat → Int32)} {md : MD} {mr : MR} {mp : MP} {rest : va_W} {p : Program} {e : Env} {sg : State} {m : MethodId} {args : Array Value} {below : List Frame} {meth : Method} {c : Code} (C : cx p sg m args meth c D clsA (TY cI cZ cJ) A GG R_Mo b_Mo_left 4) (hr : meth.sig.returnType = (some .int)) (hX : E sg sg.heap) {q : Int32 × Int32} :
    ∀ z : Int32 × Int32 × Int32, jn_Mo_left_20 mo z = some q → vv p l e rm_Mo_left sg m args below meth c D clsA A 4 0 0 (MQ below (qcI D clsA A (some (.int q.1)) (WM ad cI cZ q.2 mu mz mw mo md mr mp rest)) args sg rm_Mo_left.cells rm_Mo_left.slots A) 20 [(0, .ref (ad 11)), (1, .int z.1)] [.int z.2.1, .ref (ad 11)] (WM ad cI cZ z.2.2 mu mz mw mo md mr mp rest) := by
  have _ := hE
  intro z h
  obtain ⟨zv0, zv1, zv2⟩ := z
  unfold jn_Mo_left_20 at h
  (try dsimp only at h)
  show vv p l e rm_Mo_left sg m args below meth c D clsA A 4 0 0 (MQ below (qcI D clsA A (some (.int q.1)) (WM ad cI cZ q.2 mu mz mw mo md mr mp rest)) args sg rm_Mo_left.cells rm_Mo_left.slots A) 20 [(0, .ref (ad 11)), (1, .int zv0)] [.int zv1, .ref (ad 11)] (WM ad cI cZ zv2 mu mz mw mo md mr mp rest)
  refine r_put (pc := 20) (ty := .int) (ws' := WM ad cI cZ zv1 mu mz mw mo md mr mp rest) C hin_Mo t_Mo t_Mo_ok n_Mo 11 rfl rfl 0 (by decide) mm_0 rfl rfl pd_I rfl rfl (Nat.le_of_ble_eq_true rfl) rfl d_Mo_left_20 ?_
  refine r_aload_n (pc := 23) C d_Mo_left_23 rfl 0 rfl ?_
  refine r_get (pc := 24) (v := .int zv1) C hin_Mo 11 rfl rfl 0 (by decide) mm_0 rfl rfl d_Mo_left_24 ?_
  refine r_if_le (pc := 27) (tgt := 32) C d_Mo_left_27 (by decide) (fun c759 => ?_) (fun c759 => ?_)
  · replace h := ip c759 h
    refine r_iconst (pc := 32) (v := (-1)) C d_Mo_left_32 (by decide) ?_
    refine r_istore_n (pc := 33) (lv' := [(2, .int (-1)), (0, .ref (ad 11)), (1, .int zv0)]) C d_Mo_left_33 rfl (by decide) rfl ?_
    refine r_iconst (pc := 34) (v := (-1)) C d_Mo_left_34 (by decide) ?_
    refine r_istore_n (pc := 35) (lv' := [(3, .int (-1)), (2, .int (-1)), (0, .ref (ad 11)), (1, .int zv0)]) C d_Mo_left_35 rfl (by decide) rfl ?_
    refine r_loc (lv' := [(0, .ref (ad 11)), (1, .int zv0), (2, .int (-1)), (3, .int (-1))]) [2, 3, 1, 0] rfl ?_
    refine vl_Mo_left_36_M hE C hr hX (fun z758 h => ?_) 70 (zv0, (-1), (-1), zv1) h
    refine r_iload_n (pc := 64) C d_Mo_left_64 rfl 3 rfl ?_
    cases h
    exact r_iret (pc := 65) C hr rfl rfl rfl d_Mo_left_65
  · replace h := iN c759 h
    refine r_iconst (pc := 30) (v := 0) C d_Mo_left_30 (by decide) ?_
    cases h
    exact r_iret (pc := 31) C hr rfl rfl rfl d_Mo_left_31
set_option maxHeartbeats 4000000 in
set_option maxRecDepth 100000 in
theorem c_Mo_left_M {l : Launch} {E : State → Heap → Prop} {D : va_G} {A : Nat → Prop} {cI cZ cJ : ClassId} (hE : stb A E) {ad : Nat → Nat} {mk : Int32} {mu : Int64} {mz : Int32} {mw : Int32} {mo : (Nat → Int32)} {md : MD} {mr : MR} {mp : MP} {rest : va_W} {p0 : Int32} {q : Int32 × Int32} (h : f_Mo_left mk mo md p0 = some q) : cm l E D clsA (TY cI cZ cJ) A GG y_Mo_left b_Mo_left 4 (some .int) rm_Mo_left [.ref (ad 11), .int p0] (WM ad cI cZ mk mu mz mw mo md mr mp rest) (some (.int q.1)) (WM ad cI cZ q.2 mu mz mw mo md mr mp rest) := by
  refine r_met (own := R_Mo) rfl (by decide) (Nat.le_of_ble_eq_true rfl) rfl ?_
  intro p e sg m args below meth c C hr hnm hX
  unfold f_Mo_left at h
  refine r_aload_n (pc := 0) C d_Mo_left_0 rfl 0 rfl ?_
  refine r_iload_n (pc := 1) C d_Mo_left_1 rfl 1 rfl ?_
  refine r_iconst (pc := 2) (v := 0) C d_Mo_left_2 (by decide) ?_
  refine r_aload_n (pc := 3) C d_Mo_left_3 rfl 0 rfl ?_
  obtain ⟨q748, hq748, h⟩ := ob h
  refine r_callV (pc := 4) (As := []) (rest := [.int (0), .int p0, .ref (ad 11)]) (st1 := [.int q748, .int (0), .int p0, .ref (ad 11)]) hE gg_good C hX (c_Mo_leftOnes_M hE hq748) mm_66 mm_67 mm_68 mm_10 mm_69 hd_Mo_leftOnes 11 rfl rfl ⟨⟨(Nat.le_of_ble_eq_true rfl), (Nat.le_of_ble_eq_true rfl)⟩, (Nat.le_of_ble_eq_true rfl), (Nat.le_of_ble_eq_true rfl)⟩ (Nat.le_of_ble_eq_true rfl) rfl rfl d_Mo_left_4 ?_
  refine r_iconst (pc := 7) (v := 1) C d_Mo_left_7 (by decide) ?_
  refine r_isub (pc := 8) C d_Mo_left_8 ?_
  obtain ⟨q749, hq749, h⟩ := ob h
  refine r_callS (pc := 9) (As := [.int p0, .int (0), .int (q748 - (1 : Int32))]) (rest := [.ref (ad 11)]) (st1 := [.int q749, .ref (ad 11)]) hE gg_good C hX (c_Mo_in_S hE hq749) mm_32 mm_33 mm_10 mm_34 hd_Mo_in ⟨⟨(Nat.le_of_ble_eq_true rfl), (Nat.le_of_ble_eq_true rfl)⟩, (Nat.le_of_ble_eq_true rfl), (Nat.le_of_ble_eq_true rfl)⟩ (Nat.le_of_ble_eq_true rfl) rfl rfl d_Mo_left_9 ?_
  refine r_if_eq (pc := 12) (tgt := 19) C d_Mo_left_12 (by decide) (fun c760 => ?_) (fun c760 => ?_)
  · replace h := ip c760 h
    refine r_iconst (pc := 19) (v := 1) C d_Mo_left_19 (by decide) ?_
    refine r_loc (lv' := [(0, .ref (ad 11)), (1, .int p0)]) [0, 1] rfl ?_
    exact vj_Mo_left_20_M hE C hr hX (p0, 1, mk) h
  · replace h := iN c760 h
    refine r_iconst (pc := 15) (v := 0) C d_Mo_left_15 (by decide) ?_
    refine r_goto (pc := 16) (tgt := 20) C d_Mo_left_16 (by decide) ?_
    refine r_loc (lv' := [(0, .ref (ad 11)), (1, .int p0)]) [0, 1] rfl ?_
    exact vj_Mo_left_20_M hE C hr hX (p0, 0, mk) h
def bd_Mo_whole_17 (md : MD) (kx : Int32 × Int32 × Int32 × ((Nat → Int32)) → Option (Int32 × Int32 × ((Nat → Int32)))) (rec : Int32 × Int32 × Int32 × ((Nat → Int32)) → Option (Int32 × Int32 × ((Nat → Int32)))) (z : Int32 × Int32 × Int32 × ((Nat → Int32))) : Option (Int32 × Int32 × ((Nat → Int32))) :=
  (if md.1 ≤ z.2.1 then kx (z.1, z.2.1, z.2.2.1, z.2.2.2) else (if (z.2.1 < 0 ∨ 40 ≤ z.2.1.toNatClampNeg) then none else rec (z.1, z.2.1 + 1, z.2.2.1, upd z.2.2.2 z.2.1.toNatClampNeg (vp_nar .boolean (0)))))
def f_Mo_whole (mo : (Nat → Int32)) (md : MD) : Option (Int32 × Int32 × ((Nat → Int32))) :=
  Option.bind (f_Mo_leftOnes mo md) (fun q767 => (itn (bd_Mo_whole_17 md (fun z772 => some (z772.1, z772.2.2.1, z772.2.2.2))) 70 (md.1 - q767, 0, 0, mo)))
abbrev rm_Mo_whole : Room := { frames := 1, cells := 0, slots := 0, locals := 22 }
theorem hd_Mo_whole : y_Mo_whole.cls ≠ "java/lang/invoke/MethodHandle" ∧ y_Mo_whole.cls ≠ "java/lang/invoke/VarHandle" ∧ (parseMethodDescriptor y_Mo_whole.desc).map (fun d => d.parameters.length) = some 0 := by decide +kernel
set_option maxHeartbeats 4000000 in
set_option maxRecDepth 100000 in
theorem vl_Mo_whole_17_M {l : Launch} {E : State → Heap → Prop} {D : va_G} {A : Nat → Prop} {cI cZ cJ : ClassId} (hE : stb A E) {ad : Nat → Nat} {mu : Int64} {mz : Int32} {mw : Int32} {md : MD} {mr : MR} {mp : MP} {rest : va_W} {p : Program} {e : Env} {sg : State} {m : MethodId} {args : Array Value} {below : List Frame} {meth : Method} {c : Code} (C : cx p sg m args meth c D clsA (TY cI cZ cJ) A GG R_Mo b_Mo_whole 3) (hr : meth.sig.returnType = (some .int)) (hX : E sg sg.heap) {q : Int32 × Int32 × ((Nat → Int32))} {kx : Int32 × Int32 × Int32 × ((Nat → Int32)) → Option (Int32 × Int32 × ((Nat → Int32)))} (K : ∀ z : Int32 × Int32 × Int32 × ((Nat → Int32)), kx z = some q → vv p l e rm_Mo_whole sg m args below meth c D clsA A 3 0 0 (MQ below (qcI D clsA A (some (.int q.1)) (WM ad cI cZ q.2.1 mu mz mw q.2.2 md mr mp rest)) args sg rm_Mo_whole.cells rm_Mo_whole.slots A) 38 [(0, .ref (ad 11)), (1, .int z.1), (2, .int z.2.1)] [] (WM ad cI cZ z.2.2.1 mu mz mw z.2.2.2 md mr mp rest)) :
    ∀ (n : Nat) (z : Int32 × Int32 × Int32 × ((Nat → Int32))), itn (bd_Mo_whole_17 md kx) n z = some q → vv p l e rm_Mo_whole sg m args below meth c D clsA A 3 0 0 (MQ below (qcI D clsA A (some (.int q.1)) (WM ad cI cZ q.2.1 mu mz mw q.2.2 md mr mp rest)) args sg rm_Mo_whole.cells rm_Mo_whole.slots A) 17 [(0, .ref (ad 11)), (1, .int z.1), (2, .int z.2.1)] [] (WM ad cI cZ z.2.2.1 mu mz mw z.2.2.2 md mr mp rest) := by
  have _ := hE
  intro n
  induction n with
  | zero => intro z h; cases h
  | succ n ih =>
    intro z h
    obtain ⟨zv0, zv1, zv2, zv3⟩ := z
    replace h : bd_Mo_whole_17 md kx (itn (bd_Mo_whole_17 md kx) n) (zv0, zv1, zv2, zv3) = some q := h
    unfold bd_Mo_whole_17 at h
    (try dsimp only at h)
    show vv p l e rm_Mo_whole sg m args below meth c D clsA A 3 0 0 (MQ below (qcI D clsA A (some (.int q.1)) (WM ad cI cZ q.2.1 mu mz mw q.2.2 md mr mp rest)) args sg rm_Mo_whole.cells rm_Mo_whole.slots A) 17 [(0, .ref (ad 11)), (1, .int zv0), (2, .int zv1)] [] (WM ad cI cZ zv2 mu mz mw zv3 md mr mp rest)
    refine r_iload_n (pc := 17) C d_Mo_whole_17 rfl 2 rfl ?_
    refine r_aload_n (pc := 18) C d_Mo_whole_18 rfl 0 rfl ?_
    refine r_get (pc := 19) (v := .int md.1) C hin_Mo 11 rfl rfl 4 (by decide) mm_26 rfl rfl d_Mo_whole_19 ?_
    refine r_icmp_ge (pc := 22) (tgt := 38) C d_Mo_whole_22 (by decide) (fun c771 => ?_) (fun c771 => ?_)
    · replace h := ip c771 h
      refine r_loc (lv' := [(0, .ref (ad 11)), (1, .int zv0), (2, .int zv1)]) [0, 1, 2] rfl ?_
      exact K (zv0, zv1, zv2, zv3) h
    · replace h := iN c771 h
      refine r_aload_n (pc := 25) C d_Mo_whole_25 rfl 0 rfl ?_
      refine r_get (pc := 26) (v := .ref (ad 10)) C hin_Mo 11 rfl rfl 5 (by decide) mm_27 rfl rfl d_Mo_whole_26 ?_
      refine r_iload_n (pc := 29) C d_Mo_whole_29 rfl 2 rfl ?_
      refine r_iconst (pc := 30) (v := 0) C d_Mo_whole_30 (by decide) ?_
      obtain ⟨hi770, h⟩ := ign h
      refine r_zast (pc := 31) (ws' := WM ad cI cZ zv2 mu mz mw (upd zv3 zv1.toNatClampNeg (vp_nar .boolean (0))) md mr mp rest) C 10 1 rfl rfl hi770 rfl d_Mo_whole_31 ?_
      refine r_iincK (pc := 32) (w0 := 1) (lv' := [(2, .int (zv1 + 1)), (0, .ref (ad 11)), (1, .int zv0)]) C d_Mo_whole_32 (by decide) 2 rfl (by decide) rfl ?_
      refine r_goto (pc := 35) (tgt := 17) C d_Mo_whole_35 (by decide) ?_
      refine r_loc (lv' := [(0, .ref (ad 11)), (1, .int zv0), (2, .int (zv1 + 1))]) [1, 2, 0] rfl ?_
      exact ih (zv0, zv1 + 1, zv2, upd zv3 zv1.toNatClampNeg (vp_nar .boolean (0))) h
set_option maxHeartbeats 4000000 in
set_option maxRecDepth 100000 in
theorem c_Mo_whole_M {l : Launch} {E : State → Heap → Prop} {D : va_G} {A : Nat → Prop} {cI cZ cJ : ClassId} (hE : stb A E) {ad : Nat → Nat} {mk : Int32} {mu : Int64} {mz : Int32} {mw : Int32} {mo : (Nat → Int32)} {md : MD} {mr : MR} {mp : MP} {rest : va_W} {q : Int32 × Int32 × ((Nat → Int32))} (h : f_Mo_whole mo md = some q) : cm l E D clsA (TY cI cZ cJ) A GG y_Mo_whole b_Mo_whole 3 (some .int) rm_Mo_whole [.ref (ad 11)] (WM ad cI cZ mk mu mz mw mo md mr mp rest) (some (.int q.1)) (WM ad cI cZ q.2.1 mu mz mw q.2.2 md mr mp rest) := by
  refine r_met (own := R_Mo) rfl (by decide) (Nat.le_of_ble_eq_true rfl) rfl ?_
  intro p e sg m args below meth c C hr hnm hX
  unfold f_Mo_whole at h
  refine r_aload_n (pc := 0) C d_Mo_whole_0 rfl 0 rfl ?_
  refine r_iconst (pc := 1) (v := 0) C d_Mo_whole_1 (by decide) ?_
  refine r_put (pc := 2) (ty := .int) (ws' := WM ad cI cZ (0) mu mz mw mo md mr mp rest) C hin_Mo t_Mo t_Mo_ok n_Mo 11 rfl rfl 0 (by decide) mm_0 rfl rfl pd_I rfl rfl (Nat.le_of_ble_eq_true rfl) rfl d_Mo_whole_2 ?_
  refine r_aload_n (pc := 5) C d_Mo_whole_5 rfl 0 rfl ?_
  refine r_get (pc := 6) (v := .int md.1) C hin_Mo 11 rfl rfl 4 (by decide) mm_26 rfl rfl d_Mo_whole_6 ?_
  refine r_aload_n (pc := 9) C d_Mo_whole_9 rfl 0 rfl ?_
  obtain ⟨q767, hq767, h⟩ := ob h
  refine r_callV (pc := 10) (As := []) (rest := [.int md.1]) (st1 := [.int q767, .int md.1]) hE gg_good C hX (c_Mo_leftOnes_M hE hq767) mm_66 mm_67 mm_68 mm_10 mm_69 hd_Mo_leftOnes 11 rfl rfl ⟨⟨(Nat.le_of_ble_eq_true rfl), (Nat.le_of_ble_eq_true rfl)⟩, (Nat.le_of_ble_eq_true rfl), (Nat.le_of_ble_eq_true rfl)⟩ (Nat.le_of_ble_eq_true rfl) rfl rfl d_Mo_whole_10 ?_
  refine r_isub (pc := 13) C d_Mo_whole_13 ?_
  refine r_istore_n (pc := 14) (lv' := [(1, .int (md.1 - q767)), (0, .ref (ad 11))]) C d_Mo_whole_14 rfl (by decide) rfl ?_
  refine r_iconst (pc := 15) (v := 0) C d_Mo_whole_15 (by decide) ?_
  refine r_istore_n (pc := 16) (lv' := [(2, .int (0)), (1, .int (md.1 - q767)), (0, .ref (ad 11))]) C d_Mo_whole_16 rfl (by decide) rfl ?_
  refine r_loc (lv' := [(0, .ref (ad 11)), (1, .int (md.1 - q767)), (2, .int (0))]) [2, 1, 0] rfl ?_
  refine vl_Mo_whole_17_M hE C hr hX (fun z772 h => ?_) 70 (md.1 - q767, 0, 0, mo) h
  refine r_iload_n (pc := 38) C d_Mo_whole_38 rfl 1 rfl ?_
  cases h
  exact r_iret (pc := 39) C hr rfl rfl rfl d_Mo_whole_39
def jn_Mo_pieces_34 (mo : (Nat → Int32)) (md : MD) (z : Int32 × Int32 × Int32 × Int32 × MP) : Option (Int32 × Int32 × MP) :=
  (if z.2.2.1 ≤ 0 then Option.bind (f_Mo_goThrough mo md z.2.2.2.2) (fun q784 => (if ((((8 : Int32) * z.1) + z.2.1) < 0 ∨ 64 ≤ (((8 : Int32) * z.1) + z.2.1).toNatClampNeg) then none else some (q784.2.1 (((8 : Int32) * z.1) + z.2.1).toNatClampNeg, z.2.2.1, q784.2))) else some (0, z.2.2.1, z.2.2.2.2))
def jn_Mo_pieces_33 (mo : (Nat → Int32)) (md : MD) (z : Int32 × Int32 × Int32 × MP) : Option (Int32 × Int32 × MP) :=
  (jn_Mo_pieces_34 mo md (z.1, z.2.1, 1, z.2.2.1, z.2.2.2))
def f_Mo_pieces (mk : Int32) (mo : (Nat → Int32)) (md : MD) (mp : MP) (p0 : Int32) (p1 : Int32) : Option (Int32 × Int32 × MP) :=
  Option.bind (f_Mo_in p0 (0) (md.2.1 - (1 : Int32))) (fun q783 => (if q783 = 0 then (jn_Mo_pieces_33 mo md (p0, p1, mk, mp)) else Option.bind (f_Mo_in p1 (0) (md.2.2.1 - (1 : Int32))) (fun q790 => (if q790 = 0 then (jn_Mo_pieces_33 mo md (p0, p1, mk, mp)) else (jn_Mo_pieces_34 mo md (p0, p1, 0, mk, mp))))))
abbrev rm_Mo_pieces : Room := { frames := 2, cells := 0, slots := 0, locals := 51 }
theorem hd_Mo_pieces : y_Mo_pieces.cls ≠ "java/lang/invoke/MethodHandle" ∧ y_Mo_pieces.cls ≠ "java/lang/invoke/VarHandle" ∧ (parseMethodDescriptor y_Mo_pieces.desc).map (fun d => d.parameters.length) = some 2 := by decide +kernel
set_option maxHeartbeats 4000000 in
set_option maxRecDepth 100000 in
theorem vj_Mo_pieces_34_M {l : Launch} {E : State → Heap → Prop} {D : va_G} {A : Nat → Prop} {cI cZ cJ : ClassId} (hE : stb A E) {ad : Nat → Nat} {mu : Int64} {mz : Int32} {mw : Int32} {mo : (Nat → Int32)} {md : MD} {mr : MR} {rest : va_W} {p : Program} {e : Env} {sg : State} {m : MethodId} {args : Array Value} {below : List Frame} {meth : Method} {c : Code} (C : cx p sg m args meth c D clsA (TY cI cZ cJ) A GG R_Mo b_Mo_pieces 3) (hr : meth.sig.returnType = (some .int)) (hX : E sg sg.heap) {q : Int32 × Int32 × MP} :
    ∀ z : Int32 × Int32 × Int32 × Int32 × MP, jn_Mo_pieces_34 mo md z = some q → vv p l e rm_Mo_pieces sg m args below meth c D clsA A 3 0 0 (MQ below (qcI D clsA A (some (.int q.1)) (WM ad cI cZ q.2.1 mu mz mw mo md mr q.2.2 rest)) args sg rm_Mo_pieces.cells rm_Mo_pieces.slots A) 34 [(0, .ref (ad 11)), (1, .int z.1), (2, .int z.2.1)] [.int z.2.2.1, .ref (ad 11)] (WM ad cI cZ z.2.2.2.1 mu mz mw mo md mr z.2.2.2.2 rest) := by
  have _ := hE
  intro z h
  obtain ⟨zv0, zv1, zv2, zv3, zv4⟩ := z
  unfold jn_Mo_pieces_34 at h
  (try dsimp only at h)
  show vv p l e rm_Mo_pieces sg m args below meth c D clsA A 3 0 0 (MQ below (qcI D clsA A (some (.int q.1)) (WM ad cI cZ q.2.1 mu mz mw mo md mr q.2.2 rest)) args sg rm_Mo_pieces.cells rm_Mo_pieces.slots A) 34 [(0, .ref (ad 11)), (1, .int zv0), (2, .int zv1)] [.int zv2, .ref (ad 11)] (WM ad cI cZ zv3 mu mz mw mo md mr zv4 rest)
  refine r_put (pc := 34) (ty := .int) (ws' := WM ad cI cZ zv2 mu mz mw mo md mr zv4 rest) C hin_Mo t_Mo t_Mo_ok n_Mo 11 rfl rfl 0 (by decide) mm_0 rfl rfl pd_I rfl rfl (Nat.le_of_ble_eq_true rfl) rfl d_Mo_pieces_34 ?_
  refine r_aload_n (pc := 37) C d_Mo_pieces_37 rfl 0 rfl ?_
  refine r_get (pc := 38) (v := .int zv2) C hin_Mo 11 rfl rfl 0 (by decide) mm_0 rfl rfl d_Mo_pieces_38 ?_
  refine r_if_le (pc := 41) (tgt := 46) C d_Mo_pieces_41 (by decide) (fun c789 => ?_) (fun c789 => ?_)
  · replace h := ip c789 h
    refine r_aload_n (pc := 46) C d_Mo_pieces_46 rfl 0 rfl ?_
    obtain ⟨q787, hq787, h⟩ := ob h
    refine r_callV (pc := 47) (As := []) (rest := []) (st1 := [.int q787.1]) hE gg_good C hX (c_Mo_goThrough_M hE hq787) mm_57 mm_58 mm_59 mm_10 mm_60 hd_Mo_goThrough 11 rfl rfl ⟨⟨(Nat.le_of_ble_eq_true rfl), (Nat.le_of_ble_eq_true rfl)⟩, (Nat.le_of_ble_eq_true rfl), (Nat.le_of_ble_eq_true rfl)⟩ (Nat.le_of_ble_eq_true rfl) rfl rfl d_Mo_pieces_47 ?_
    refine r_pop (pc := 50) C d_Mo_pieces_50 rfl ?_
    refine r_aload_n (pc := 51) C d_Mo_pieces_51 rfl 0 rfl ?_
    refine r_get (pc := 52) (v := .ref (ad 1)) C hin_Mo 11 rfl rfl 18 (by decide) mm_47 rfl rfl d_Mo_pieces_52 ?_
    refine r_bipush (pc := 55) (v := 8) C d_Mo_pieces_55 (by decide) ?_
    refine r_iload_n (pc := 57) C d_Mo_pieces_57 rfl 1 rfl ?_
    refine r_imul (pc := 58) C d_Mo_pieces_58 ?_
    refine r_iload_n (pc := 59) C d_Mo_pieces_59 rfl 2 rfl ?_
    refine r_iadd (pc := 60) C d_Mo_pieces_60 ?_
    obtain ⟨hi788, h⟩ := ign h
    refine r_iald (pc := 61) C 1 0 rfl rfl hi788 d_Mo_pieces_61 ?_
    cases h
    exact r_iret (pc := 62) C hr rfl rfl rfl d_Mo_pieces_62
  · replace h := iN c789 h
    refine r_iconst (pc := 44) (v := 0) C d_Mo_pieces_44 (by decide) ?_
    cases h
    exact r_iret (pc := 45) C hr rfl rfl rfl d_Mo_pieces_45
set_option maxHeartbeats 4000000 in
set_option maxRecDepth 100000 in
theorem vj_Mo_pieces_33_M {l : Launch} {E : State → Heap → Prop} {D : va_G} {A : Nat → Prop} {cI cZ cJ : ClassId} (hE : stb A E) {ad : Nat → Nat} {mu : Int64} {mz : Int32} {mw : Int32} {mo : (Nat → Int32)} {md : MD} {mr : MR} {rest : va_W} {p : Program} {e : Env} {sg : State} {m : MethodId} {args : Array Value} {below : List Frame} {meth : Method} {c : Code} (C : cx p sg m args meth c D clsA (TY cI cZ cJ) A GG R_Mo b_Mo_pieces 3) (hr : meth.sig.returnType = (some .int)) (hX : E sg sg.heap) {q : Int32 × Int32 × MP} :
    ∀ z : Int32 × Int32 × Int32 × MP, jn_Mo_pieces_33 mo md z = some q → vv p l e rm_Mo_pieces sg m args below meth c D clsA A 3 0 0 (MQ below (qcI D clsA A (some (.int q.1)) (WM ad cI cZ q.2.1 mu mz mw mo md mr q.2.2 rest)) args sg rm_Mo_pieces.cells rm_Mo_pieces.slots A) 33 [(0, .ref (ad 11)), (1, .int z.1), (2, .int z.2.1)] [.ref (ad 11)] (WM ad cI cZ z.2.2.1 mu mz mw mo md mr z.2.2.2 rest) := by
  have _ := hE
  intro z h
  obtain ⟨zv0, zv1, zv2, zv3⟩ := z
  unfold jn_Mo_pieces_33 at h
  (try dsimp only at h)
  show vv p l e rm_Mo_pieces sg m args below meth c D clsA A 3 0 0 (MQ below (qcI D clsA A (some (.int q.1)) (WM ad cI cZ q.2.1 mu mz mw mo md mr q.2.2 rest)) args sg rm_Mo_pieces.cells rm_Mo_pieces.slots A) 33 [(0, .ref (ad 11)), (1, .int zv0), (2, .int zv1)] [.ref (ad 11)] (WM ad cI cZ zv2 mu mz mw mo md mr zv3 rest)
  refine r_iconst (pc := 33) (v := 1) C d_Mo_pieces_33 (by decide) ?_
  refine r_loc (lv' := [(0, .ref (ad 11)), (1, .int zv0), (2, .int zv1)]) [0, 1, 2] rfl ?_
  exact vj_Mo_pieces_34_M hE C hr hX (zv0, zv1, 1, zv2, zv3) h
set_option maxHeartbeats 4000000 in
set_option maxRecDepth 100000 in
theorem c_Mo_pieces_M {l : Launch} {E : State → Heap → Prop} {D : va_G} {A : Nat → Prop} {cI cZ cJ : ClassId} (hE : stb A E) {ad : Nat → Nat} {mk : Int32} {mu : Int64} {mz : Int32} {mw : Int32} {mo : (Nat → Int32)} {md : MD} {mr : MR} {mp : MP} {rest : va_W} {p0 : Int32} {p1 : Int32} {q : Int32 × Int32 × MP} (h : f_Mo_pieces mk mo md mp p0 p1 = some q) : cm l E D clsA (TY cI cZ cJ) A GG y_Mo_pieces b_Mo_pieces 3 (some .int) rm_Mo_pieces [.ref (ad 11), .int p0, .int p1] (WM ad cI cZ mk mu mz mw mo md mr mp rest) (some (.int q.1)) (WM ad cI cZ q.2.1 mu mz mw mo md mr q.2.2 rest) := by
  refine r_met (own := R_Mo) rfl (by decide) (Nat.le_of_ble_eq_true rfl) rfl ?_
  intro p e sg m args below meth c C hr hnm hX
  unfold f_Mo_pieces at h
  refine r_aload_n (pc := 0) C d_Mo_pieces_0 rfl 0 rfl ?_
  refine r_iload_n (pc := 1) C d_Mo_pieces_1 rfl 1 rfl ?_
  refine r_iconst (pc := 2) (v := 0) C d_Mo_pieces_2 (by decide) ?_
  refine r_aload_n (pc := 3) C d_Mo_pieces_3 rfl 0 rfl ?_
  refine r_get (pc := 4) (v := .int md.2.1) C hin_Mo 11 rfl rfl 6 (by decide) mm_16 rfl rfl d_Mo_pieces_4 ?_
  refine r_iconst (pc := 7) (v := 1) C d_Mo_pieces_7 (by decide) ?_
  refine r_isub (pc := 8) C d_Mo_pieces_8 ?_
  obtain ⟨q783, hq783, h⟩ := ob h
  refine r_callS (pc := 9) (As := [.int p0, .int (0), .int (md.2.1 - (1 : Int32))]) (rest := [.ref (ad 11)]) (st1 := [.int q783, .ref (ad 11)]) hE gg_good C hX (c_Mo_in_S hE hq783) mm_32 mm_33 mm_10 mm_34 hd_Mo_in ⟨⟨(Nat.le_of_ble_eq_true rfl), (Nat.le_of_ble_eq_true rfl)⟩, (Nat.le_of_ble_eq_true rfl), (Nat.le_of_ble_eq_true rfl)⟩ (Nat.le_of_ble_eq_true rfl) rfl rfl d_Mo_pieces_9 ?_
  refine r_if_eq (pc := 12) (tgt := 33) C d_Mo_pieces_12 (by decide) (fun c792 => ?_) (fun c792 => ?_)
  · replace h := ip c792 h
    refine r_loc (lv' := [(0, .ref (ad 11)), (1, .int p0), (2, .int p1)]) [0, 1, 2] rfl ?_
    exact vj_Mo_pieces_33_M hE C hr hX (p0, p1, mk, mp) h
  · replace h := iN c792 h
    refine r_iload_n (pc := 15) C d_Mo_pieces_15 rfl 2 rfl ?_
    refine r_iconst (pc := 16) (v := 0) C d_Mo_pieces_16 (by decide) ?_
    refine r_aload_n (pc := 17) C d_Mo_pieces_17 rfl 0 rfl ?_
    refine r_get (pc := 18) (v := .int md.2.2.1) C hin_Mo 11 rfl rfl 8 (by decide) mm_18 rfl rfl d_Mo_pieces_18 ?_
    refine r_iconst (pc := 21) (v := 1) C d_Mo_pieces_21 (by decide) ?_
    refine r_isub (pc := 22) C d_Mo_pieces_22 ?_
    obtain ⟨q790, hq790, h⟩ := ob h
    refine r_callS (pc := 23) (As := [.int p1, .int (0), .int (md.2.2.1 - (1 : Int32))]) (rest := [.ref (ad 11)]) (st1 := [.int q790, .ref (ad 11)]) hE gg_good C hX (c_Mo_in_S hE hq790) mm_32 mm_33 mm_10 mm_34 hd_Mo_in ⟨⟨(Nat.le_of_ble_eq_true rfl), (Nat.le_of_ble_eq_true rfl)⟩, (Nat.le_of_ble_eq_true rfl), (Nat.le_of_ble_eq_true rfl)⟩ (Nat.le_of_ble_eq_true rfl) rfl rfl d_Mo_pieces_23 ?_
    refine r_if_eq (pc := 26) (tgt := 33) C d_Mo_pieces_26 (by decide) (fun c791 => ?_) (fun c791 => ?_)
    · replace h := ip c791 h
      refine r_loc (lv' := [(0, .ref (ad 11)), (1, .int p0), (2, .int p1)]) [0, 1, 2] rfl ?_
      exact vj_Mo_pieces_33_M hE C hr hX (p0, p1, mk, mp) h
    · replace h := iN c791 h
      refine r_iconst (pc := 29) (v := 0) C d_Mo_pieces_29 (by decide) ?_
      refine r_goto (pc := 30) (tgt := 34) C d_Mo_pieces_30 (by decide) ?_
      refine r_loc (lv' := [(0, .ref (ad 11)), (1, .int p0), (2, .int p1)]) [0, 1, 2] rfl ?_
      exact vj_Mo_pieces_34_M hE C hr hX (p0, p1, 0, mk, mp) h
def jn_Mo_most_20 (mo : (Nat → Int32)) (md : MD) (z : Int32 × Int32 × Int32 × MP) : Option (Int32 × Int32 × MP) :=
  (if z.2.1 ≤ 0 then Option.bind (f_Mo_goThrough mo md z.2.2.2) (fun q802 => (if (z.1 < 0 ∨ 8 ≤ z.1.toNatClampNeg) then none else some (q802.2.2 z.1.toNatClampNeg, z.2.1, q802.2))) else some (0, z.2.1, z.2.2.2))
def f_Mo_most (mk : Int32) (mo : (Nat → Int32)) (md : MD) (mp : MP) (p0 : Int32) : Option (Int32 × Int32 × MP) :=
  Option.bind (f_Mo_in p0 (0) (md.2.1 - (1 : Int32))) (fun q801 => (if q801 = 0 then (jn_Mo_most_20 mo md (p0, 1, mk, mp)) else (jn_Mo_most_20 mo md (p0, 0, mk, mp))))
abbrev rm_Mo_most : Room := { frames := 2, cells := 0, slots := 0, locals := 51 }
theorem hd_Mo_most : y_Mo_most.cls ≠ "java/lang/invoke/MethodHandle" ∧ y_Mo_most.cls ≠ "java/lang/invoke/VarHandle" ∧ (parseMethodDescriptor y_Mo_most.desc).map (fun d => d.parameters.length) = some 1 := by decide +kernel
set_option maxHeartbeats 4000000 in
set_option maxRecDepth 100000 in
theorem vj_Mo_most_20_M {l : Launch} {E : State → Heap → Prop} {D : va_G} {A : Nat → Prop} {cI cZ cJ : ClassId} (hE : stb A E) {ad : Nat → Nat} {mu : Int64} {mz : Int32} {mw : Int32} {mo : (Nat → Int32)} {md : MD} {mr : MR} {rest : va_W} {p : Program} {e : Env} {sg : State} {m : MethodId} {args : Array Value} {below : List Frame} {meth : Method} {c : Code} (C : cx p sg m args meth c D clsA (TY cI cZ cJ) A GG R_Mo b_Mo_most 2) (hr : meth.sig.returnType = (some .int)) (hX : E sg sg.heap) {q : Int32 × Int32 × MP} :
    ∀ z : Int32 × Int32 × Int32 × MP, jn_Mo_most_20 mo md z = some q → vv p l e rm_Mo_most sg m args below meth c D clsA A 2 0 0 (MQ below (qcI D clsA A (some (.int q.1)) (WM ad cI cZ q.2.1 mu mz mw mo md mr q.2.2 rest)) args sg rm_Mo_most.cells rm_Mo_most.slots A) 20 [(0, .ref (ad 11)), (1, .int z.1)] [.int z.2.1, .ref (ad 11)] (WM ad cI cZ z.2.2.1 mu mz mw mo md mr z.2.2.2 rest) := by
  have _ := hE
  intro z h
  obtain ⟨zv0, zv1, zv2, zv3⟩ := z
  unfold jn_Mo_most_20 at h
  (try dsimp only at h)
  show vv p l e rm_Mo_most sg m args below meth c D clsA A 2 0 0 (MQ below (qcI D clsA A (some (.int q.1)) (WM ad cI cZ q.2.1 mu mz mw mo md mr q.2.2 rest)) args sg rm_Mo_most.cells rm_Mo_most.slots A) 20 [(0, .ref (ad 11)), (1, .int zv0)] [.int zv1, .ref (ad 11)] (WM ad cI cZ zv2 mu mz mw mo md mr zv3 rest)
  refine r_put (pc := 20) (ty := .int) (ws' := WM ad cI cZ zv1 mu mz mw mo md mr zv3 rest) C hin_Mo t_Mo t_Mo_ok n_Mo 11 rfl rfl 0 (by decide) mm_0 rfl rfl pd_I rfl rfl (Nat.le_of_ble_eq_true rfl) rfl d_Mo_most_20 ?_
  refine r_aload_n (pc := 23) C d_Mo_most_23 rfl 0 rfl ?_
  refine r_get (pc := 24) (v := .int zv1) C hin_Mo 11 rfl rfl 0 (by decide) mm_0 rfl rfl d_Mo_most_24 ?_
  refine r_if_le (pc := 27) (tgt := 32) C d_Mo_most_27 (by decide) (fun c807 => ?_) (fun c807 => ?_)
  · replace h := ip c807 h
    refine r_aload_n (pc := 32) C d_Mo_most_32 rfl 0 rfl ?_
    obtain ⟨q805, hq805, h⟩ := ob h
    refine r_callV (pc := 33) (As := []) (rest := []) (st1 := [.int q805.1]) hE gg_good C hX (c_Mo_goThrough_M hE hq805) mm_57 mm_58 mm_59 mm_10 mm_60 hd_Mo_goThrough 11 rfl rfl ⟨⟨(Nat.le_of_ble_eq_true rfl), (Nat.le_of_ble_eq_true rfl)⟩, (Nat.le_of_ble_eq_true rfl), (Nat.le_of_ble_eq_true rfl)⟩ (Nat.le_of_ble_eq_true rfl) rfl rfl d_Mo_most_33 ?_
    refine r_pop (pc := 36) C d_Mo_most_36 rfl ?_
    refine r_aload_n (pc := 37) C d_Mo_most_37 rfl 0 rfl ?_
    refine r_get (pc := 38) (v := .ref (ad 0)) C hin_Mo 11 rfl rfl 19 (by decide) mm_48 rfl rfl d_Mo_most_38 ?_
    refine r_iload_n (pc := 41) C d_Mo_most_41 rfl 1 rfl ?_
    obtain ⟨hi806, h⟩ := ign h
    refine r_iald (pc := 42) C 0 0 rfl rfl hi806 d_Mo_most_42 ?_
    cases h
    exact r_iret (pc := 43) C hr rfl rfl rfl d_Mo_most_43
  · replace h := iN c807 h
    refine r_iconst (pc := 30) (v := 0) C d_Mo_most_30 (by decide) ?_
    cases h
    exact r_iret (pc := 31) C hr rfl rfl rfl d_Mo_most_31
set_option maxHeartbeats 4000000 in
set_option maxRecDepth 100000 in
theorem c_Mo_most_M {l : Launch} {E : State → Heap → Prop} {D : va_G} {A : Nat → Prop} {cI cZ cJ : ClassId} (hE : stb A E) {ad : Nat → Nat} {mk : Int32} {mu : Int64} {mz : Int32} {mw : Int32} {mo : (Nat → Int32)} {md : MD} {mr : MR} {mp : MP} {rest : va_W} {p0 : Int32} {q : Int32 × Int32 × MP} (h : f_Mo_most mk mo md mp p0 = some q) : cm l E D clsA (TY cI cZ cJ) A GG y_Mo_most b_Mo_most 2 (some .int) rm_Mo_most [.ref (ad 11), .int p0] (WM ad cI cZ mk mu mz mw mo md mr mp rest) (some (.int q.1)) (WM ad cI cZ q.2.1 mu mz mw mo md mr q.2.2 rest) := by
  refine r_met (own := R_Mo) rfl (by decide) (Nat.le_of_ble_eq_true rfl) rfl ?_
  intro p e sg m args below meth c C hr hnm hX
  unfold f_Mo_most at h
  refine r_aload_n (pc := 0) C d_Mo_most_0 rfl 0 rfl ?_
  refine r_iload_n (pc := 1) C d_Mo_most_1 rfl 1 rfl ?_
  refine r_iconst (pc := 2) (v := 0) C d_Mo_most_2 (by decide) ?_
  refine r_aload_n (pc := 3) C d_Mo_most_3 rfl 0 rfl ?_
  refine r_get (pc := 4) (v := .int md.2.1) C hin_Mo 11 rfl rfl 6 (by decide) mm_16 rfl rfl d_Mo_most_4 ?_
  refine r_iconst (pc := 7) (v := 1) C d_Mo_most_7 (by decide) ?_
  refine r_isub (pc := 8) C d_Mo_most_8 ?_
  obtain ⟨q801, hq801, h⟩ := ob h
  refine r_callS (pc := 9) (As := [.int p0, .int (0), .int (md.2.1 - (1 : Int32))]) (rest := [.ref (ad 11)]) (st1 := [.int q801, .ref (ad 11)]) hE gg_good C hX (c_Mo_in_S hE hq801) mm_32 mm_33 mm_10 mm_34 hd_Mo_in ⟨⟨(Nat.le_of_ble_eq_true rfl), (Nat.le_of_ble_eq_true rfl)⟩, (Nat.le_of_ble_eq_true rfl), (Nat.le_of_ble_eq_true rfl)⟩ (Nat.le_of_ble_eq_true rfl) rfl rfl d_Mo_most_9 ?_
  refine r_if_eq (pc := 12) (tgt := 19) C d_Mo_most_12 (by decide) (fun c808 => ?_) (fun c808 => ?_)
  · replace h := ip c808 h
    refine r_iconst (pc := 19) (v := 1) C d_Mo_most_19 (by decide) ?_
    refine r_loc (lv' := [(0, .ref (ad 11)), (1, .int p0)]) [0, 1] rfl ?_
    exact vj_Mo_most_20_M hE C hr hX (p0, 1, mk, mp) h
  · replace h := iN c808 h
    refine r_iconst (pc := 15) (v := 0) C d_Mo_most_15 (by decide) ?_
    refine r_goto (pc := 16) (tgt := 20) C d_Mo_most_16 (by decide) ?_
    refine r_loc (lv' := [(0, .ref (ad 11)), (1, .int p0)]) [0, 1] rfl ?_
    exact vj_Mo_most_20_M hE C hr hX (p0, 0, mk, mp) h
