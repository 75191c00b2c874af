def bd_Mo_count_69 (mo : (Nat → Int32)) (md : MD) (kx : Int32 × Int32 × Int32 × Int32 → Option (Int32 × Int32)) (rec : Int32 × Int32 × Int32 × Int32 → Option (Int32 × Int32)) (z : Int32 × Int32 × Int32 × Int32) : Option (Int32 × Int32) :=
  (if md.2.2.2.1 ≤ z.2.2.1 then kx (z.1, z.2.1, z.2.2.1, z.2.2.2) else (if z.1 = 4 then (if (z.2.2.1 < 0 ∨ 24 ≤ z.2.2.1.toNatClampNeg) then none else (if md.2.2.2.2.2.2.2.2.2.2 z.2.2.1.toNatClampNeg = 0 then rec (z.1, z.2.1 + (0 : Int32), z.2.2.1 + 1, z.2.2.2) else rec (z.1, z.2.1 + (1 : Int32), z.2.2.1 + 1, z.2.2.2))) else Option.bind (f_Mo_counts mo md z.2.2.1) (fun q913 => (if q913 = 0 then rec (z.1, z.2.1 + (0 : Int32), z.2.2.1 + 1, z.2.2.2) else rec (z.1, z.2.1 + (1 : Int32), z.2.2.1 + 1, z.2.2.2)))))
def f_Mo_count (mz : Int32) (mo : (Nat → Int32)) (md : MD) (p0 : Int32) : Option (Int32 × Int32) :=
  (if p0 = 0 then some (md.1, 0) else (if p0 = 1 then some (md.2.1, 0) else (if p0 = 2 then some (md.2.2.1, 0) else (if p0 = 3 then some (md.2.2.2.1, 0) else (if p0 = 5 then Option.bind (f_Mo_leftOnes mo md) (fun q929 => some (q929, 0)) else (if p0 = 7 then some (mz, 0) else (itn (bd_Mo_count_69 mo md (fun z925 => (if z925.1 = 4 then some (z925.2.1, z925.2.2.2) else (if z925.1 = 6 then some (z925.2.1, z925.2.2.2) else some ((-1), z925.2.2.2))))) 70 (p0, 0, 0, 0))))))))
abbrev rm_Mo_count : Room := { frames := 1, cells := 0, slots := 0, locals := 22 }
theorem hd_Mo_count : y_Mo_count.cls ≠ "java/lang/invoke/MethodHandle" ∧ y_Mo_count.cls ≠ "java/lang/invoke/VarHandle" ∧ (parseMethodDescriptor y_Mo_count.desc).map (fun d => d.parameters.length) = some 1 := by decide +kernel
set_option maxHeartbeats 4000000 in
set_option maxRecDepth 100000 in
theorem vl_Mo_count_69_M {l : Launch} {E : State → Heap → Prop} {D : va_G} {A : Nat → Prop} {cI cZ cJ : ClassId} (hE : stb A E) {ad : Nat → Nat} {mu : Int64} {mz : Int32} {mw : Int32} {mo : (Nat → Int32)} {md : MD} {mr : MR} {mp : MP} {rest : va_W} {p : Program} {e : Env} {sg : State} {m : MethodId} {args : Array Value} {below : List Frame} {meth : Method} {c : Code} (C : cx p sg m args meth c D clsA (TY cI cZ cJ) A GG R_Mo b_Mo_count 4) (hr : meth.sig.returnType = (some .int)) (hX : E sg sg.heap) {q : Int32 × Int32} {kx : Int32 × Int32 × Int32 × Int32 → Option (Int32 × Int32)} (K : ∀ z : Int32 × Int32 × Int32 × Int32, kx z = some q → vv p l e rm_Mo_count sg m args below meth c D clsA A 4 0 0 (MQ below (qcI D clsA A (some (.int q.1)) (WM ad cI cZ q.2 mu mz mw mo md mr mp rest)) args sg rm_Mo_count.cells rm_Mo_count.slots A) 116 [(0, .ref (ad 11)), (1, .int z.1), (2, .int z.2.1), (3, .int z.2.2.1)] [] (WM ad cI cZ z.2.2.2 mu mz mw mo md mr mp rest)) :
    ∀ (n : Nat) (z : Int32 × Int32 × Int32 × Int32), itn (bd_Mo_count_69 mo md kx) n z = some q → vv p l e rm_Mo_count sg m args below meth c D clsA A 4 0 0 (MQ below (qcI D clsA A (some (.int q.1)) (WM ad cI cZ q.2 mu mz mw mo md mr mp rest)) args sg rm_Mo_count.cells rm_Mo_count.slots A) 69 [(0, .ref (ad 11)), (1, .int z.1), (2, .int z.2.1), (3, .int z.2.2.1)] [] (WM ad cI cZ z.2.2.2 mu mz mw mo md mr mp rest) := by
  have _ := hE
  intro n
  induction n with
  | zero => intro z h; cases h
  | succ n ih =>
    intro z h
    obtain ⟨zv0, zv1, zv2, zv3⟩ := z
    replace h : bd_Mo_count_69 mo md kx (itn (bd_Mo_count_69 mo md kx) n) (zv0, zv1, zv2, zv3) = some q := h
    unfold bd_Mo_count_69 at h
    (try dsimp only at h)
    show vv p l e rm_Mo_count sg m args below meth c D clsA A 4 0 0 (MQ below (qcI D clsA A (some (.int q.1)) (WM ad cI cZ q.2 mu mz mw mo md mr mp rest)) args sg rm_Mo_count.cells rm_Mo_count.slots A) 69 [(0, .ref (ad 11)), (1, .int zv0), (2, .int zv1), (3, .int zv2)] [] (WM ad cI cZ zv3 mu mz mw mo md mr mp rest)
    refine r_iload_n (pc := 69) C d_Mo_count_69 rfl 3 rfl ?_
    refine r_aload_n (pc := 70) C d_Mo_count_70 rfl 0 rfl ?_
    refine r_get (pc := 71) (v := .int md.2.2.2.1) C hin_Mo 11 rfl rfl 10 (by decide) mm_20 rfl rfl d_Mo_count_71 ?_
    refine r_icmp_ge (pc := 74) (tgt := 116) C d_Mo_count_74 (by decide) (fun c924 => ?_) (fun c924 => ?_)
    · replace h := ip c924 h
      refine r_loc (lv' := [(0, .ref (ad 11)), (1, .int zv0), (2, .int zv1), (3, .int zv2)]) [0, 1, 2, 3] rfl ?_
      exact K (zv0, zv1, zv2, zv3) h
    · replace h := iN c924 h
      refine r_iload_n (pc := 77) C d_Mo_count_77 rfl 2 rfl ?_
      refine r_iload_n (pc := 78) C d_Mo_count_78 rfl 1 rfl ?_
      refine r_iconst (pc := 79) (v := 4) C d_Mo_count_79 (by decide) ?_
      refine r_icmp_ne (pc := 80) (tgt := 95) C d_Mo_count_80 (by decide) (fun c923 => ?_) (fun c923 => ?_)
      · replace h := iN c923 h
        refine r_aload_n (pc := 95) C d_Mo_count_95 rfl 0 rfl ?_
        refine r_iload_n (pc := 96) C d_Mo_count_96 rfl 3 rfl ?_
        obtain ⟨q919, hq919, h⟩ := ob h
        refine r_callV (pc := 97) (As := [.int zv2]) (rest := [.int zv1]) (st1 := [.int q919, .int zv1]) hE gg_good C hX (c_Mo_counts_M hE hq919) mm_53 mm_54 mm_55 mm_10 mm_56 hd_Mo_counts 11 rfl rfl ⟨⟨(Nat.le_of_ble_eq_true rfl), (Nat.le_of_ble_eq_true rfl)⟩, (Nat.le_of_ble_eq_true rfl), (Nat.le_of_ble_eq_true rfl)⟩ (Nat.le_of_ble_eq_true rfl) rfl rfl d_Mo_count_97 ?_
        refine r_if_eq (pc := 100) (tgt := 107) C d_Mo_count_100 (by decide) (fun c920 => ?_) (fun c920 => ?_)
        · replace h := ip c920 h
          refine r_iconst (pc := 107) (v := 0) C d_Mo_count_107 (by decide) ?_
          refine r_iadd (pc := 108) C d_Mo_count_108 ?_
          refine r_istore_n (pc := 109) (lv' := [(2, .int (zv1 + (0 : Int32))), (0, .ref (ad 11)), (1, .int zv0), (3, .int zv2)]) C d_Mo_count_109 rfl (by decide) rfl ?_
          refine r_iincK (pc := 110) (w0 := 1) (lv' := [(3, .int (zv2 + 1)), (2, .int (zv1 + (0 : Int32))), (0, .ref (ad 11)), (1, .int zv0)]) C d_Mo_count_110 (by decide) 3 rfl (by decide) rfl ?_
          refine r_goto (pc := 113) (tgt := 69) C d_Mo_count_113 (by decide) ?_
          refine r_loc (lv' := [(0, .ref (ad 11)), (1, .int zv0), (2, .int (zv1 + (0 : Int32))), (3, .int (zv2 + 1))]) [2, 3, 1, 0] rfl ?_
          exact ih (zv0, zv1 + (0 : Int32), zv2 + 1, zv3) h
        · replace h := iN c920 h
          refine r_iconst (pc := 103) (v := 1) C d_Mo_count_103 (by decide) ?_
          refine r_goto (pc := 104) (tgt := 108) C d_Mo_count_104 (by decide) ?_
          refine r_iadd (pc := 108) C d_Mo_count_108 ?_
          refine r_istore_n (pc := 109) (lv' := [(2, .int (zv1 + (1 : Int32))), (0, .ref (ad 11)), (1, .int zv0), (3, .int zv2)]) C d_Mo_count_109 rfl (by decide) rfl ?_
          refine r_iincK (pc := 110) (w0 := 1) (lv' := [(3, .int (zv2 + 1)), (2, .int (zv1 + (1 : Int32))), (0, .ref (ad 11)), (1, .int zv0)]) C d_Mo_count_110 (by decide) 3 rfl (by decide) rfl ?_
          refine r_goto (pc := 113) (tgt := 69) C d_Mo_count_113 (by decide) ?_
          refine r_loc (lv' := [(0, .ref (ad 11)), (1, .int zv0), (2, .int (zv1 + (1 : Int32))), (3, .int (zv2 + 1))]) [2, 3, 1, 0] rfl ?_
          exact ih (zv0, zv1 + (1 : Int32), zv2 + 1, zv3) h
      · replace h := ip c923 h
        refine r_aload_n (pc := 83) C d_Mo_count_83 rfl 0 rfl ?_
        refine r_get (pc := 84) (v := .ref (ad 3)) C hin_Mo 11 rfl rfl 15 (by decide) mm_25 rfl rfl d_Mo_count_84 ?_
        refine r_iload_n (pc := 87) C d_Mo_count_87 rfl 3 rfl ?_
        obtain ⟨hi922, h⟩ := ign h
        refine r_zald (pc := 88) C 3 1 rfl rfl hi922 d_Mo_count_88 ?_
        refine r_if_eq (pc := 89) (tgt := 107) C d_Mo_count_89 (by decide) (fun c921 => ?_) (fun c921 => ?_)
        · replace h := ip c921 h
          refine r_iconst (pc := 107) (v := 0) C d_Mo_count_107 (by decide) ?_
          refine r_iadd (pc := 108) C d_Mo_count_108 ?_
          refine r_istore_n (pc := 109) (lv' := [(2, .int (zv1 + (0 : Int32))), (0, .ref (ad 11)), (1, .int zv0), (3, .int zv2)]) C d_Mo_count_109 rfl (by decide) rfl ?_
          refine r_iincK (pc := 110) (w0 := 1) (lv' := [(3, .int (zv2 + 1)), (2, .int (zv1 + (0 : Int32))), (0, .ref (ad 11)), (1, .int zv0)]) C d_Mo_count_110 (by decide) 3 rfl (by decide) rfl ?_
          refine r_goto (pc := 113) (tgt := 69) C d_Mo_count_113 (by decide) ?_
          refine r_loc (lv' := [(0, .ref (ad 11)), (1, .int zv0), (2, .int (zv1 + (0 : Int32))), (3, .int (zv2 + 1))]) [2, 3, 1, 0] rfl ?_
          exact ih (zv0, zv1 + (0 : Int32), zv2 + 1, zv3) h
        · replace h := iN c921 h
          refine r_goto (pc := 92) (tgt := 103) C d_Mo_count_92 (by decide) ?_
          refine r_iconst (pc := 103) (v := 1) C d_Mo_count_103 (by decide) ?_
          refine r_goto (pc := 104) (tgt := 108) C d_Mo_count_104 (by decide) ?_
          refine r_iadd (pc := 108) C d_Mo_count_108 ?_
          refine r_istore_n (pc := 109) (lv' := [(2, .int (zv1 + (1 : Int32))), (0, .ref (ad 11)), (1, .int zv0), (3, .int zv2)]) C d_Mo_count_109 rfl (by decide) rfl ?_
          refine r_iincK (pc := 110) (w0 := 1) (lv' := [(3, .int (zv2 + 1)), (2, .int (zv1 + (1 : Int32))), (0, .ref (ad 11)), (1, .int zv0)]) C d_Mo_count_110 (by decide) 3 rfl (by decide) rfl ?_
          refine r_goto (pc := 113) (tgt := 69) C d_Mo_count_113 (by decide) ?_
          refine r_loc (lv' := [(0, .ref (ad 11)), (1, .int zv0), (2, .int (zv1 + (1 : Int32))), (3, .int (zv2 + 1))]) [2, 3, 1, 0] rfl ?_
          exact ih (zv0, zv1 + (1 : Int32), zv2 + 1, zv3) h
set_option maxHeartbeats 4000000 in
set_option maxRecDepth 100000 in
theorem c_Mo_count_M {l : Launch} {E : State → Heap → Prop} {D : va_G} {A : Nat → Prop} {cI cZ cJ : ClassId} (hE : stb A E) {ad : Nat → Nat} {mk : Int32} {mu : Int64} {mz : Int32} {mw : Int32} {mo : (Nat → Int32)} {md : MD} {mr : MR} {mp : MP} {rest : va_W} {p0 : Int32} {q : Int32 × Int32} (h : f_Mo_count mz mo md p0 = some q) : cm l E D clsA (TY cI cZ cJ) A GG y_Mo_count b_Mo_count 4 (some .int) rm_Mo_count [.ref (ad 11), .int p0] (WM ad cI cZ mk mu mz mw mo md mr mp rest) (some (.int q.1)) (WM ad cI cZ q.2 mu mz mw mo md mr mp rest) := by
  refine r_met (own := R_Mo) rfl (by decide) (Nat.le_of_ble_eq_true rfl) rfl ?_
  intro p e sg m args below meth c C hr hnm hX
  unfold f_Mo_count at h
  refine r_aload_n (pc := 0) C d_Mo_count_0 rfl 0 rfl ?_
  refine r_iconst (pc := 1) (v := 0) C d_Mo_count_1 (by decide) ?_
  refine r_put (pc := 2) (ty := .int) (ws' := WM ad cI cZ (0) mu mz mw mo md mr mp rest) C hin_Mo t_Mo t_Mo_ok n_Mo 11 rfl rfl 0 (by decide) mm_0 rfl rfl pd_I rfl rfl (Nat.le_of_ble_eq_true rfl) rfl d_Mo_count_2 ?_
  refine r_iload_n (pc := 5) C d_Mo_count_5 rfl 1 rfl ?_
  refine r_if_ne (pc := 6) (tgt := 14) C d_Mo_count_6 (by decide) (fun c934 => ?_) (fun c934 => ?_)
  · replace h := iN c934 h
    refine r_iload_n (pc := 14) C d_Mo_count_14 rfl 1 rfl ?_
    refine r_iconst (pc := 15) (v := 1) C d_Mo_count_15 (by decide) ?_
    refine r_icmp_ne (pc := 16) (tgt := 24) C d_Mo_count_16 (by decide) (fun c933 => ?_) (fun c933 => ?_)
    · replace h := iN c933 h
      refine r_iload_n (pc := 24) C d_Mo_count_24 rfl 1 rfl ?_
      refine r_iconst (pc := 25) (v := 2) C d_Mo_count_25 (by decide) ?_
      refine r_icmp_ne (pc := 26) (tgt := 34) C d_Mo_count_26 (by decide) (fun c932 => ?_) (fun c932 => ?_)
      · replace h := iN c932 h
        refine r_iload_n (pc := 34) C d_Mo_count_34 rfl 1 rfl ?_
        refine r_iconst (pc := 35) (v := 3) C d_Mo_count_35 (by decide) ?_
        refine r_icmp_ne (pc := 36) (tgt := 44) C d_Mo_count_36 (by decide) (fun c931 => ?_) (fun c931 => ?_)
        · replace h := iN c931 h
          refine r_iload_n (pc := 44) C d_Mo_count_44 rfl 1 rfl ?_
          refine r_iconst (pc := 45) (v := 5) C d_Mo_count_45 (by decide) ?_
          refine r_icmp_ne (pc := 46) (tgt := 54) C d_Mo_count_46 (by decide) (fun c930 => ?_) (fun c930 => ?_)
          · replace h := iN c930 h
            refine r_iload_n (pc := 54) C d_Mo_count_54 rfl 1 rfl ?_
            refine r_bipush (pc := 55) (v := 7) C d_Mo_count_55 (by decide) ?_
            refine r_icmp_ne (pc := 57) (tgt := 65) C d_Mo_count_57 (by decide) (fun c928 => ?_) (fun c928 => ?_)
            · replace h := iN c928 h
              refine r_iconst (pc := 65) (v := 0) C d_Mo_count_65 (by decide) ?_
              refine r_istore_n (pc := 66) (lv' := [(2, .int (0)), (0, .ref (ad 11)), (1, .int p0)]) C d_Mo_count_66 rfl (by decide) rfl ?_
              refine r_iconst (pc := 67) (v := 0) C d_Mo_count_67 (by decide) ?_
              refine r_istore_n (pc := 68) (lv' := [(3, .int (0)), (2, .int (0)), (0, .ref (ad 11)), (1, .int p0)]) C d_Mo_count_68 rfl (by decide) rfl ?_
              refine r_loc (lv' := [(0, .ref (ad 11)), (1, .int p0), (2, .int (0)), (3, .int (0))]) [2, 3, 1, 0] rfl ?_
              refine vl_Mo_count_69_M hE C hr hX (fun z925 h => ?_) 70 (p0, 0, 0, 0) h
              refine r_iload_n (pc := 116) C d_Mo_count_116 rfl 1 rfl ?_
              refine r_iconst (pc := 117) (v := 4) C d_Mo_count_117 (by decide) ?_
              refine r_icmp_eq (pc := 118) (tgt := 127) C d_Mo_count_118 (by decide) (fun c927 => ?_) (fun c927 => ?_)
              · replace h := ip c927 h
                refine r_iload_n (pc := 127) C d_Mo_count_127 rfl 2 rfl ?_
                refine r_goto (pc := 128) (tgt := 132) C d_Mo_count_128 (by decide) ?_
                cases h
                exact r_iret (pc := 132) C hr rfl rfl rfl d_Mo_count_132
              · replace h := iN c927 h
                refine r_iload_n (pc := 121) C d_Mo_count_121 rfl 1 rfl ?_
                refine r_bipush (pc := 122) (v := 6) C d_Mo_count_122 (by decide) ?_
                refine r_icmp_ne (pc := 124) (tgt := 131) C d_Mo_count_124 (by decide) (fun c926 => ?_) (fun c926 => ?_)
                · replace h := iN c926 h
                  refine r_iconst (pc := 131) (v := (-1)) C d_Mo_count_131 (by decide) ?_
                  cases h
                  exact r_iret (pc := 132) C hr rfl rfl rfl d_Mo_count_132
                · replace h := ip c926 h
                  refine r_iload_n (pc := 127) C d_Mo_count_127 rfl 2 rfl ?_
                  refine r_goto (pc := 128) (tgt := 132) C d_Mo_count_128 (by decide) ?_
                  cases h
                  exact r_iret (pc := 132) C hr rfl rfl rfl d_Mo_count_132
            · replace h := ip c928 h
              refine r_aload_n (pc := 60) C d_Mo_count_60 rfl 0 rfl ?_
              refine r_get (pc := 61) (v := .int mz) C hin_Mo 11 rfl rfl 2 (by decide) mm_1 rfl rfl d_Mo_count_61 ?_
              cases h
              exact r_iret (pc := 64) C hr rfl rfl rfl d_Mo_count_64
          · replace h := ip c930 h
            refine r_aload_n (pc := 49) C d_Mo_count_49 rfl 0 rfl ?_
            obtain ⟨q929, hq929, h⟩ := ob h
            refine r_callV (pc := 50) (As := []) (rest := []) (st1 := [.int q929]) hE gg_good C hX (c_Mo_leftOnes_M hE hq929) mm_66 mm_67 mm_68 mm_10 mm_69 hd_Mo_leftOnes 11 rfl rfl ⟨⟨(Nat.le_of_ble_eq_true rfl), (Nat.le_of_ble_eq_true rfl)⟩, (Nat.le_of_ble_eq_true rfl), (Nat.le_of_ble_eq_true rfl)⟩ (Nat.le_of_ble_eq_true rfl) rfl rfl d_Mo_count_50 ?_
            cases h
            exact r_iret (pc := 53) C hr rfl rfl rfl d_Mo_count_53
        · replace h := ip c931 h
          refine r_aload_n (pc := 39) C d_Mo_count_39 rfl 0 rfl ?_
          refine r_get (pc := 40) (v := .int md.2.2.2.1) C hin_Mo 11 rfl rfl 10 (by decide) mm_20 rfl rfl d_Mo_count_40 ?_
          cases h
          exact r_iret (pc := 43) C hr rfl rfl rfl d_Mo_count_43
      · replace h := ip c932 h
        refine r_aload_n (pc := 29) C d_Mo_count_29 rfl 0 rfl ?_
        refine r_get (pc := 30) (v := .int md.2.2.1) C hin_Mo 11 rfl rfl 8 (by decide) mm_18 rfl rfl d_Mo_count_30 ?_
        cases h
        exact r_iret (pc := 33) C hr rfl rfl rfl d_Mo_count_33
    · replace h := ip c933 h
      refine r_aload_n (pc := 19) C d_Mo_count_19 rfl 0 rfl ?_
      refine r_get (pc := 20) (v := .int md.2.1) C hin_Mo 11 rfl rfl 6 (by decide) mm_16 rfl rfl d_Mo_count_20 ?_
      cases h
      exact r_iret (pc := 23) C hr rfl rfl rfl d_Mo_count_23
  · replace h := ip c934 h
    refine r_aload_n (pc := 9) C d_Mo_count_9 rfl 0 rfl ?_
    refine r_get (pc := 10) (v := .int md.1) C hin_Mo 11 rfl rfl 4 (by decide) mm_26 rfl rfl d_Mo_count_10 ?_
    cases h
    exact r_iret (pc := 13) C hr rfl rfl rfl d_Mo_count_13
