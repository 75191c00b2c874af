def jn_Mo_part_145 (z : Int32 × Int32 × Int32 × Int32 × Int32 × Int32) : Option (Int32 × Int32) :=
  some (z.2.2.2.2.1, z.2.2.2.2.2)
def jn_Mo_part_129 (z : Int32 × Int32 × Int32 × Int32 × Int32 × Int32) : Option (Int32 × Int32) :=
  some (z.2.2.2.2.1, z.2.2.2.2.2)
def jn_Mo_part_87 (z : Int32 × Int32 × Int32 × Int32 × Int32 × Int32) : Option (Int32 × Int32) :=
  some (z.2.2.2.2.1, z.2.2.2.2.2)
def jn_Mo_part_28 (mo : (Nat → Int32)) (md : MD) (z : Int32 × Int32 × Int32 × Int32) : Option (Int32 × Int32) :=
  (if z.2.2.1 ≤ 0 then Option.bind (f_Mo_kindOf md z.1) (fun q295 => Option.bind (f_Mo_numberOf md z.1) (fun q296 => (if z.2.1 = 0 then some (q295, z.2.2.1) else (if z.2.1 = 1 then some (q296, z.2.2.1) else (if z.2.1 = 7 then (if (z.1 < 0 ∨ 40 ≤ z.1.toNatClampNeg) then none else (if mo z.1.toNatClampNeg = 0 then (jn_Mo_part_87 (z.1, z.2.1, q295, q296, 1, z.2.2.1)) else (jn_Mo_part_87 (z.1, z.2.1, q295, q296, 0, z.2.2.1)))) else (if z.2.1 = 2 then (if q295 = 0 then (if (q296 < 0 ∨ 8 ≤ q296.toNatClampNeg) then none else (jn_Mo_part_129 (z.1, z.2.1, q295, q296, md.2.2.2.2.1 q296.toNatClampNeg, z.2.2.1))) else (if q295 = 1 then (if (q296 < 0 ∨ 8 ≤ q296.toNatClampNeg) then none else (jn_Mo_part_129 (z.1, z.2.1, q295, q296, md.2.2.2.2.2.1 q296.toNatClampNeg, z.2.2.1))) else (if (q296 < 0 ∨ 24 ≤ q296.toNatClampNeg) then none else (jn_Mo_part_129 (z.1, z.2.1, q295, q296, md.2.2.2.2.2.2.2.2.1 q296.toNatClampNeg, z.2.2.1))))) else (if q295 = 2 then (if z.2.1 = 3 then (if (q296 < 0 ∨ 24 ≤ q296.toNatClampNeg) then none else some (md.2.2.2.2.2.2.1 q296.toNatClampNeg, z.2.2.1)) else (if z.2.1 = 4 then (if (q296 < 0 ∨ 24 ≤ q296.toNatClampNeg) then none else some (md.2.2.2.2.2.2.2.1 q296.toNatClampNeg, z.2.2.1)) else (if z.2.1 = 5 then (if (q296 < 0 ∨ 24 ≤ q296.toNatClampNeg) then none else (if md.2.2.2.2.2.2.2.2.2.1 q296.toNatClampNeg = 0 then some (0, z.2.2.1) else some (1, z.2.2.1))) else (if (q296 < 0 ∨ 24 ≤ q296.toNatClampNeg) then none else (if md.2.2.2.2.2.2.2.2.2.2 q296.toNatClampNeg = 0 then some (0, z.2.2.1) else some (1, z.2.2.1)))))) else (if (5 : Int32) ≤ z.2.1 then (jn_Mo_part_145 (z.1, z.2.1, q295, q296, 0, z.2.2.1)) else (jn_Mo_part_145 (z.1, z.2.1, q295, q296, (-1), z.2.2.1)))))))))) else some (0, z.2.2.1))
def f_Mo_part (mk : Int32) (mo : (Nat → Int32)) (md : MD) (p0 : Int32) (p1 : Int32) : Option (Int32 × Int32) :=
  Option.bind (f_Mo_isPart md p0) (fun q293 => (if q293 = 0 then (jn_Mo_part_28 mo md (p0, p1, 1, mk)) else Option.bind (f_Mo_in p1 (0) (7)) (fun q294 => (if q294 = 0 then (jn_Mo_part_28 mo md (p0, p1, 2, mk)) else (jn_Mo_part_28 mo md (p0, p1, 0, mk))))))
abbrev rm_Mo_part : Room := { frames := 2, cells := 0, slots := 0, locals := 43 }
theorem hd_Mo_part : y_Mo_part.cls ≠ "java/lang/invoke/MethodHandle" ∧ y_Mo_part.cls ≠ "java/lang/invoke/VarHandle" ∧ (parseMethodDescriptor y_Mo_part.desc).map (fun d => d.parameters.length) = some 2 := by decide +kernel
set_option maxHeartbeats 4000000 in
set_option maxRecDepth 100000 in
theorem vj_Mo_part_145_M {l : Launch} {E : State → Heap → Prop} {D : va_G} {A : Nat → Prop} {cI cZ cJ : ClassId} (hE : stb A E) {ad : Nat → Nat} {mu : Int64} {mz : Int32} {mw : Int32} {mo : (Nat → Int32)} {md : MD} {mr : MR} {mp : MP} {rest : va_W} {p : Program} {e : Env} {sg : State} {m : MethodId} {args : Array Value} {below : List Frame} {meth : Method} {c : Code} (C : cx p sg m args meth c D clsA (TY cI cZ cJ) A GG R_Mo b_Mo_part 5) (hr : meth.sig.returnType = (some .int)) (hX : E sg sg.heap) {q : Int32 × Int32} :
    ∀ z : Int32 × Int32 × Int32 × Int32 × Int32 × Int32, jn_Mo_part_145 z = some q → vv p l e rm_Mo_part sg m args below meth c D clsA A 5 0 0 (MQ below (qcI D clsA A (some (.int q.1)) (WM ad cI cZ q.2 mu mz mw mo md mr mp rest)) args sg rm_Mo_part.cells rm_Mo_part.slots A) 145 [(0, .ref (ad 11)), (1, .int z.1), (2, .int z.2.1), (3, .int z.2.2.1), (4, .int z.2.2.2.1)] [.int z.2.2.2.2.1] (WM ad cI cZ z.2.2.2.2.2 mu mz mw mo md mr mp rest) := by
  have _ := hE
  intro z h
  obtain ⟨zv0, zv1, zv2, zv3, zv4, zv5⟩ := z
  unfold jn_Mo_part_145 at h
  (try dsimp only at h)
  show vv p l e rm_Mo_part sg m args below meth c D clsA A 5 0 0 (MQ below (qcI D clsA A (some (.int q.1)) (WM ad cI cZ q.2 mu mz mw mo md mr mp rest)) args sg rm_Mo_part.cells rm_Mo_part.slots A) 145 [(0, .ref (ad 11)), (1, .int zv0), (2, .int zv1), (3, .int zv2), (4, .int zv3)] [.int zv4] (WM ad cI cZ zv5 mu mz mw mo md mr mp rest)
  cases h
  exact r_iret (pc := 145) C hr rfl rfl rfl d_Mo_part_145
set_option maxHeartbeats 4000000 in
set_option maxRecDepth 100000 in
theorem vj_Mo_part_129_M {l : Launch} {E : State → Heap → Prop} {D : va_G} {A : Nat → Prop} {cI cZ cJ : ClassId} (hE : stb A E) {ad : Nat → Nat} {mu : Int64} {mz : Int32} {mw : Int32} {mo : (Nat → Int32)} {md : MD} {mr : MR} {mp : MP} {rest : va_W} {p : Program} {e : Env} {sg : State} {m : MethodId} {args : Array Value} {below : List Frame} {meth : Method} {c : Code} (C : cx p sg m args meth c D clsA (TY cI cZ cJ) A GG R_Mo b_Mo_part 5) (hr : meth.sig.returnType = (some .int)) (hX : E sg sg.heap) {q : Int32 × Int32} :
    ∀ z : Int32 × Int32 × Int32 × Int32 × Int32 × Int32, jn_Mo_part_129 z = some q → vv p l e rm_Mo_part sg m args below meth c D clsA A 5 0 0 (MQ below (qcI D clsA A (some (.int q.1)) (WM ad cI cZ q.2 mu mz mw mo md mr mp rest)) args sg rm_Mo_part.cells rm_Mo_part.slots A) 129 [(0, .ref (ad 11)), (1, .int z.1), (2, .int z.2.1), (3, .int z.2.2.1), (4, .int z.2.2.2.1)] [.int z.2.2.2.2.1] (WM ad cI cZ z.2.2.2.2.2 mu mz mw mo md mr mp rest) := by
  have _ := hE
  intro z h
  obtain ⟨zv0, zv1, zv2, zv3, zv4, zv5⟩ := z
  unfold jn_Mo_part_129 at h
  (try dsimp only at h)
  show vv p l e rm_Mo_part sg m args below meth c D clsA A 5 0 0 (MQ below (qcI D clsA A (some (.int q.1)) (WM ad cI cZ q.2 mu mz mw mo md mr mp rest)) args sg rm_Mo_part.cells rm_Mo_part.slots A) 129 [(0, .ref (ad 11)), (1, .int zv0), (2, .int zv1), (3, .int zv2), (4, .int zv3)] [.int zv4] (WM ad cI cZ zv5 mu mz mw mo md mr mp rest)
  cases h
  exact r_iret (pc := 129) C hr rfl rfl rfl d_Mo_part_129
set_option maxHeartbeats 4000000 in
set_option maxRecDepth 100000 in
theorem vj_Mo_part_87_M {l : Launch} {E : State → Heap → Prop} {D : va_G} {A : Nat → Prop} {cI cZ cJ : ClassId} (hE : stb A E) {ad : Nat → Nat} {mu : Int64} {mz : Int32} {mw : Int32} {mo : (Nat → Int32)} {md : MD} {mr : MR} {mp : MP} {rest : va_W} {p : Program} {e : Env} {sg : State} {m : MethodId} {args : Array Value} {below : List Frame} {meth : Method} {c : Code} (C : cx p sg m args meth c D clsA (TY cI cZ cJ) A GG R_Mo b_Mo_part 5) (hr : meth.sig.returnType = (some .int)) (hX : E sg sg.heap) {q : Int32 × Int32} :
    ∀ z : Int32 × Int32 × Int32 × Int32 × Int32 × Int32, jn_Mo_part_87 z = some q → vv p l e rm_Mo_part sg m args below meth c D clsA A 5 0 0 (MQ below (qcI D clsA A (some (.int q.1)) (WM ad cI cZ q.2 mu mz mw mo md mr mp rest)) args sg rm_Mo_part.cells rm_Mo_part.slots A) 87 [(0, .ref (ad 11)), (1, .int z.1), (2, .int z.2.1), (3, .int z.2.2.1), (4, .int z.2.2.2.1)] [.int z.2.2.2.2.1] (WM ad cI cZ z.2.2.2.2.2 mu mz mw mo md mr mp rest) := by
  have _ := hE
  intro z h
  obtain ⟨zv0, zv1, zv2, zv3, zv4, zv5⟩ := z
  unfold jn_Mo_part_87 at h
  (try dsimp only at h)
  show vv p l e rm_Mo_part sg m args below meth c D clsA A 5 0 0 (MQ below (qcI D clsA A (some (.int q.1)) (WM ad cI cZ q.2 mu mz mw mo md mr mp rest)) args sg rm_Mo_part.cells rm_Mo_part.slots A) 87 [(0, .ref (ad 11)), (1, .int zv0), (2, .int zv1), (3, .int zv2), (4, .int zv3)] [.int zv4] (WM ad cI cZ zv5 mu mz mw mo md mr mp rest)
  cases h
  exact r_iret (pc := 87) C hr rfl rfl rfl d_Mo_part_87
set_option maxHeartbeats 4000000 in
set_option maxRecDepth 100000 in
theorem vj_Mo_part_28_M {l : Launch} {E : State → Heap → Prop} {D : va_G} {A : Nat → Prop} {cI cZ cJ : ClassId} (hE : stb A E) {ad : Nat → Nat} {mu : Int64} {mz : Int32} {mw : Int32} {mo : (Nat → Int32)} {md : MD} {mr : MR} {mp : MP} {rest : va_W} {p : Program} {e : Env} {sg : State} {m : MethodId} {args : Array Value} {below : List Frame} {meth : Method} {c : Code} (C : cx p sg m args meth c D clsA (TY cI cZ cJ) A GG R_Mo b_Mo_part 5) (hr : meth.sig.returnType = (some .int)) (hX : E sg sg.heap) {q : Int32 × Int32} :
    ∀ z : Int32 × Int32 × Int32 × Int32, jn_Mo_part_28 mo md z = some q → vv p l e rm_Mo_part sg m args below meth c D clsA A 5 0 0 (MQ below (qcI D clsA A (some (.int q.1)) (WM ad cI cZ q.2 mu mz mw mo md mr mp rest)) args sg rm_Mo_part.cells rm_Mo_part.slots A) 28 [(0, .ref (ad 11)), (1, .int z.1), (2, .int z.2.1)] [.int z.2.2.1, .ref (ad 11)] (WM ad cI cZ z.2.2.2 mu mz mw mo md mr mp rest) := by
  have _ := hE
  intro z h
  obtain ⟨zv0, zv1, zv2, zv3⟩ := z
  unfold jn_Mo_part_28 at h
  (try dsimp only at h)
  show vv p l e rm_Mo_part sg m args below meth c D clsA A 5 0 0 (MQ below (qcI D clsA A (some (.int q.1)) (WM ad cI cZ q.2 mu mz mw mo md mr mp rest)) args sg rm_Mo_part.cells rm_Mo_part.slots A) 28 [(0, .ref (ad 11)), (1, .int zv0), (2, .int zv1)] [.int zv2, .ref (ad 11)] (WM ad cI cZ zv3 mu mz mw mo md mr mp rest)
  refine r_put (pc := 28) (ty := .int) (ws' := WM ad cI cZ zv2 mu mz mw mo md mr mp rest) C hin_Mo t_Mo t_Mo_ok n_Mo 11 rfl rfl 0 (by decide) mm_0 rfl rfl pd_I rfl rfl (Nat.le_of_ble_eq_true rfl) rfl d_Mo_part_28 ?_
  refine r_aload_n (pc := 31) C d_Mo_part_31 rfl 0 rfl ?_
  refine r_get (pc := 32) (v := .int zv2) C hin_Mo 11 rfl rfl 0 (by decide) mm_0 rfl rfl d_Mo_part_32 ?_
  refine r_if_le (pc := 35) (tgt := 40) C d_Mo_part_35 (by decide) (fun c344 => ?_) (fun c344 => ?_)
  · replace h := ip c344 h
    refine r_aload_n (pc := 40) C d_Mo_part_40 rfl 0 rfl ?_
    refine r_iload_n (pc := 41) C d_Mo_part_41 rfl 1 rfl ?_
    obtain ⟨q320, hq320, h⟩ := ob h
    refine r_callV (pc := 42) (As := [.int zv0]) (rest := []) (st1 := [.int q320]) hE gg_good C hX (c_Mo_kindOf_M hE hq320) mm_39 mm_40 mm_41 mm_10 mm_42 hd_Mo_kindOf 11 rfl rfl ⟨⟨(Nat.le_of_ble_eq_true rfl), (Nat.le_of_ble_eq_true rfl)⟩, (Nat.le_of_ble_eq_true rfl), (Nat.le_of_ble_eq_true rfl)⟩ (Nat.le_of_ble_eq_true rfl) rfl rfl d_Mo_part_42 ?_
    refine r_istore_n (pc := 45) (lv' := [(3, .int q320), (0, .ref (ad 11)), (1, .int zv0), (2, .int zv1)]) C d_Mo_part_45 rfl (by decide) rfl ?_
    refine r_aload_n (pc := 46) C d_Mo_part_46 rfl 1 rfl ?_
    refine r_iload_n (pc := 47) C d_Mo_part_47 rfl 2 rfl ?_
    obtain ⟨q321, hq321, h⟩ := ob h
    refine r_callV (pc := 48) (As := [.int zv0]) (rest := []) (st1 := [.int q321]) hE gg_good C hX (c_Mo_numberOf_M hE hq321) mm_35 mm_36 mm_37 mm_10 mm_38 hd_Mo_numberOf 11 rfl rfl ⟨⟨(Nat.le_of_ble_eq_true rfl), (Nat.le_of_ble_eq_true rfl)⟩, (Nat.le_of_ble_eq_true rfl), (Nat.le_of_ble_eq_true rfl)⟩ (Nat.le_of_ble_eq_true rfl) rfl rfl d_Mo_part_48 ?_
    refine r_istore (pc := 51) (lv' := [(4, .int q321), (3, .int q320), (0, .ref (ad 11)), (1, .int zv0), (2, .int zv1)]) C d_Mo_part_51 (by decide) rfl ?_
    refine r_iload_n (pc := 53) C d_Mo_part_53 rfl 4 rfl ?_
    refine r_if_ne (pc := 54) (tgt := 59) C d_Mo_part_54 (by decide) (fun c343 => ?_) (fun c343 => ?_)
    · replace h := iN c343 h
      refine r_iload_n (pc := 59) C d_Mo_part_59 rfl 4 rfl ?_
      refine r_iconst (pc := 60) (v := 1) C d_Mo_part_60 (by decide) ?_
      refine r_icmp_ne (pc := 61) (tgt := 67) C d_Mo_part_61 (by decide) (fun c342 => ?_) (fun c342 => ?_)
      · replace h := iN c342 h
        refine r_iload_n (pc := 67) C d_Mo_part_67 rfl 4 rfl ?_
        refine r_bipush (pc := 68) (v := 7) C d_Mo_part_68 (by decide) ?_
        refine r_icmp_ne (pc := 70) (tgt := 88) C d_Mo_part_70 (by decide) (fun c341 => ?_) (fun c341 => ?_)
        · replace h := iN c341 h
          refine r_iload_n (pc := 88) C d_Mo_part_88 rfl 4 rfl ?_
          refine r_iconst (pc := 89) (v := 2) C d_Mo_part_89 (by decide) ?_
          refine r_icmp_ne (pc := 90) (tgt := 130) C d_Mo_part_90 (by decide) (fun c338 => ?_) (fun c338 => ?_)
          · replace h := iN c338 h
            refine r_iload_n (pc := 130) C d_Mo_part_130 rfl 1 rfl ?_
            refine r_iconst (pc := 131) (v := 2) C d_Mo_part_131 (by decide) ?_
            refine r_icmp_eq (pc := 132) (tgt := 146) C d_Mo_part_132 (by decide) (fun c332 => ?_) (fun c332 => ?_)
            · replace h := ip c332 h
              refine r_iload_n (pc := 146) C d_Mo_part_146 rfl 4 rfl ?_
              refine r_iconst (pc := 147) (v := 3) C d_Mo_part_147 (by decide) ?_
              refine r_icmp_ne (pc := 148) (tgt := 161) C d_Mo_part_148 (by decide) (fun c330 => ?_) (fun c330 => ?_)
              · replace h := iN c330 h
                refine r_iload_n (pc := 161) C d_Mo_part_161 rfl 4 rfl ?_
                refine r_iconst (pc := 162) (v := 4) C d_Mo_part_162 (by decide) ?_
                refine r_icmp_ne (pc := 163) (tgt := 176) C d_Mo_part_163 (by decide) (fun c328 => ?_) (fun c328 => ?_)
                · replace h := iN c328 h
                  refine r_iload_n (pc := 176) C d_Mo_part_176 rfl 4 rfl ?_
                  refine r_iconst (pc := 177) (v := 5) C d_Mo_part_177 (by decide) ?_
                  refine r_icmp_ne (pc := 178) (tgt := 194) C d_Mo_part_178 (by decide) (fun c326 => ?_) (fun c326 => ?_)
                  · replace h := iN c326 h
                    refine r_aload_n (pc := 194) C d_Mo_part_194 rfl 2 rfl ?_
                    refine r_get (pc := 195) (v := .ref (ad 3)) C hin_Mo 11 rfl rfl 15 (by decide) mm_25 rfl rfl d_Mo_part_195 ?_
                    refine r_iload (pc := 198) C d_Mo_part_198 0 rfl ?_
                    obtain ⟨hi323, h⟩ := ign h
                    refine r_zald (pc := 200) C 3 1 rfl rfl hi323 d_Mo_part_200 ?_
                    refine r_if_eq (pc := 201) (tgt := 208) C d_Mo_part_201 (by decide) (fun c322 => ?_) (fun c322 => ?_)
                    · replace h := ip c322 h
                      refine r_iconst (pc := 208) (v := 0) C d_Mo_part_208 (by decide) ?_
                      cases h
                      exact r_iret (pc := 209) C hr rfl rfl rfl d_Mo_part_209
                    · replace h := iN c322 h
                      refine r_iconst (pc := 204) (v := 1) C d_Mo_part_204 (by decide) ?_
                      refine r_goto (pc := 205) (tgt := 209) C d_Mo_part_205 (by decide) ?_
                      cases h
                      exact r_iret (pc := 209) C hr rfl rfl rfl d_Mo_part_209
                  · replace h := ip c326 h
                    refine r_aload_n (pc := 181) C d_Mo_part_181 rfl 2 rfl ?_
                    refine r_get (pc := 182) (v := .ref (ad 4)) C hin_Mo 11 rfl rfl 14 (by decide) mm_24 rfl rfl d_Mo_part_182 ?_
                    refine r_iload (pc := 185) C d_Mo_part_185 0 rfl ?_
                    obtain ⟨hi325, h⟩ := ign h
                    refine r_zald (pc := 187) C 4 1 rfl rfl hi325 d_Mo_part_187 ?_
                    refine r_if_eq (pc := 188) (tgt := 208) C d_Mo_part_188 (by decide) (fun c324 => ?_) (fun c324 => ?_)
                    · replace h := ip c324 h
                      refine r_iconst (pc := 208) (v := 0) C d_Mo_part_208 (by decide) ?_
                      cases h
                      exact r_iret (pc := 209) C hr rfl rfl rfl d_Mo_part_209
                    · replace h := iN c324 h
                      refine r_goto (pc := 191) (tgt := 204) C d_Mo_part_191 (by decide) ?_
                      refine r_iconst (pc := 204) (v := 1) C d_Mo_part_204 (by decide) ?_
                      refine r_goto (pc := 205) (tgt := 209) C d_Mo_part_205 (by decide) ?_
                      cases h
                      exact r_iret (pc := 209) C hr rfl rfl rfl d_Mo_part_209
                · replace h := ip c328 h
                  refine r_aload_n (pc := 166) C d_Mo_part_166 rfl 2 rfl ?_
                  refine r_get (pc := 167) (v := .ref (ad 6)) C hin_Mo 11 rfl rfl 12 (by decide) mm_22 rfl rfl d_Mo_part_167 ?_
                  refine r_iload (pc := 170) C d_Mo_part_170 0 rfl ?_
                  obtain ⟨hi327, h⟩ := ign h
                  refine r_iald (pc := 172) C 6 0 rfl rfl hi327 d_Mo_part_172 ?_
                  refine r_goto (pc := 173) (tgt := 209) C d_Mo_part_173 (by decide) ?_
                  cases h
                  exact r_iret (pc := 209) C hr rfl rfl rfl d_Mo_part_209
              · replace h := ip c330 h
                refine r_aload_n (pc := 151) C d_Mo_part_151 rfl 2 rfl ?_
                refine r_get (pc := 152) (v := .ref (ad 7)) C hin_Mo 11 rfl rfl 11 (by decide) mm_21 rfl rfl d_Mo_part_152 ?_
                refine r_iload (pc := 155) C d_Mo_part_155 0 rfl ?_
                obtain ⟨hi329, h⟩ := ign h
                refine r_iald (pc := 157) C 7 0 rfl rfl hi329 d_Mo_part_157 ?_
                refine r_goto (pc := 158) (tgt := 209) C d_Mo_part_158 (by decide) ?_
                cases h
                exact r_iret (pc := 209) C hr rfl rfl rfl d_Mo_part_209
            · replace h := iN c332 h
              refine r_iload_n (pc := 135) C d_Mo_part_135 rfl 4 rfl ?_
              refine r_iconst (pc := 136) (v := 5) C d_Mo_part_136 (by decide) ?_
              refine r_icmp_ge (pc := 137) (tgt := 144) C d_Mo_part_137 (by decide) (fun c331 => ?_) (fun c331 => ?_)
              · replace h := ip c331 h
                refine r_iconst (pc := 144) (v := 0) C d_Mo_part_144 (by decide) ?_
                refine r_loc (lv' := [(0, .ref (ad 11)), (1, .int zv0), (2, .int zv1), (3, .int q320), (4, .int q321)]) [2, 3, 4, 1, 0] rfl ?_
                exact vj_Mo_part_145_M hE C hr hX (zv0, zv1, q320, q321, 0, zv2) h
              · replace h := iN c331 h
                refine r_iconst (pc := 140) (v := (-1)) C d_Mo_part_140 (by decide) ?_
                refine r_goto (pc := 141) (tgt := 145) C d_Mo_part_141 (by decide) ?_
                refine r_loc (lv' := [(0, .ref (ad 11)), (1, .int zv0), (2, .int zv1), (3, .int q320), (4, .int q321)]) [2, 3, 4, 1, 0] rfl ?_
                exact vj_Mo_part_145_M hE C hr hX (zv0, zv1, q320, q321, (-1), zv2) h
          · replace h := ip c338 h
            refine r_iload_n (pc := 93) C d_Mo_part_93 rfl 1 rfl ?_
            refine r_if_ne (pc := 94) (tgt := 107) C d_Mo_part_94 (by decide) (fun c337 => ?_) (fun c337 => ?_)
            · replace h := iN c337 h
              refine r_iload_n (pc := 107) C d_Mo_part_107 rfl 1 rfl ?_
              refine r_iconst (pc := 108) (v := 1) C d_Mo_part_108 (by decide) ?_
              refine r_icmp_ne (pc := 109) (tgt := 122) C d_Mo_part_109 (by decide) (fun c335 => ?_) (fun c335 => ?_)
              · replace h := iN c335 h
                refine r_aload_n (pc := 122) C d_Mo_part_122 rfl 2 rfl ?_
                refine r_get (pc := 123) (v := .ref (ad 5)) C hin_Mo 11 rfl rfl 13 (by decide) mm_23 rfl rfl d_Mo_part_123 ?_
                refine r_iload (pc := 126) C d_Mo_part_126 0 rfl ?_
                obtain ⟨hi333, h⟩ := ign h
                refine r_iald (pc := 128) C 5 0 rfl rfl hi333 d_Mo_part_128 ?_
                refine r_loc (lv' := [(0, .ref (ad 11)), (1, .int zv0), (2, .int zv1), (3, .int q320), (4, .int q321)]) [2, 3, 4, 1, 0] rfl ?_
                exact vj_Mo_part_129_M hE C hr hX (zv0, zv1, q320, q321, md.2.2.2.2.2.2.2.2.1 q321.toNatClampNeg, zv2) h
              · replace h := ip c335 h
                refine r_aload_n (pc := 112) C d_Mo_part_112 rfl 2 rfl ?_
                refine r_get (pc := 113) (v := .ref (ad 8)) C hin_Mo 11 rfl rfl 9 (by decide) mm_19 rfl rfl d_Mo_part_113 ?_
                refine r_iload (pc := 116) C d_Mo_part_116 0 rfl ?_
                obtain ⟨hi334, h⟩ := ign h
                refine r_iald (pc := 118) C 8 0 rfl rfl hi334 d_Mo_part_118 ?_
                refine r_goto (pc := 119) (tgt := 129) C d_Mo_part_119 (by decide) ?_
                refine r_loc (lv' := [(0, .ref (ad 11)), (1, .int zv0), (2, .int zv1), (3, .int q320), (4, .int q321)]) [2, 3, 4, 1, 0] rfl ?_
                exact vj_Mo_part_129_M hE C hr hX (zv0, zv1, q320, q321, md.2.2.2.2.2.1 q321.toNatClampNeg, zv2) h
            · replace h := ip c337 h
              refine r_aload_n (pc := 97) C d_Mo_part_97 rfl 2 rfl ?_
              refine r_get (pc := 98) (v := .ref (ad 9)) C hin_Mo 11 rfl rfl 7 (by decide) mm_17 rfl rfl d_Mo_part_98 ?_
              refine r_iload (pc := 101) C d_Mo_part_101 0 rfl ?_
              obtain ⟨hi336, h⟩ := ign h
              refine r_iald (pc := 103) C 9 0 rfl rfl hi336 d_Mo_part_103 ?_
              refine r_goto (pc := 104) (tgt := 129) C d_Mo_part_104 (by decide) ?_
              refine r_loc (lv' := [(0, .ref (ad 11)), (1, .int zv0), (2, .int zv1), (3, .int q320), (4, .int q321)]) [2, 3, 4, 1, 0] rfl ?_
              exact vj_Mo_part_129_M hE C hr hX (zv0, zv1, q320, q321, md.2.2.2.2.1 q321.toNatClampNeg, zv2) h
        · replace h := ip c341 h
          refine r_aload_n (pc := 73) C d_Mo_part_73 rfl 2 rfl ?_
          refine r_get (pc := 74) (v := .ref (ad 10)) C hin_Mo 11 rfl rfl 5 (by decide) mm_27 rfl rfl d_Mo_part_74 ?_
          refine r_iload_n (pc := 77) C d_Mo_part_77 rfl 3 rfl ?_
          obtain ⟨hi340, h⟩ := ign h
          refine r_zald (pc := 78) C 10 1 rfl rfl hi340 d_Mo_part_78 ?_
          refine r_if_eq (pc := 79) (tgt := 86) C d_Mo_part_79 (by decide) (fun c339 => ?_) (fun c339 => ?_)
          · replace h := ip c339 h
            refine r_iconst (pc := 86) (v := 1) C d_Mo_part_86 (by decide) ?_
            refine r_loc (lv' := [(0, .ref (ad 11)), (1, .int zv0), (2, .int zv1), (3, .int q320), (4, .int q321)]) [2, 3, 4, 1, 0] rfl ?_
            exact vj_Mo_part_87_M hE C hr hX (zv0, zv1, q320, q321, 1, zv2) h
          · replace h := iN c339 h
            refine r_iconst (pc := 82) (v := 0) C d_Mo_part_82 (by decide) ?_
            refine r_goto (pc := 83) (tgt := 87) C d_Mo_part_83 (by decide) ?_
            refine r_loc (lv' := [(0, .ref (ad 11)), (1, .int zv0), (2, .int zv1), (3, .int q320), (4, .int q321)]) [2, 3, 4, 1, 0] rfl ?_
            exact vj_Mo_part_87_M hE C hr hX (zv0, zv1, q320, q321, 0, zv2) h
      · replace h := ip c342 h
        refine r_iload (pc := 64) C d_Mo_part_64 0 rfl ?_
        cases h
        exact r_iret (pc := 66) C hr rfl rfl rfl d_Mo_part_66
    · replace h := ip c343 h
      refine r_iload_n (pc := 57) C d_Mo_part_57 rfl 1 rfl ?_
      cases h
      exact r_iret (pc := 58) C hr rfl rfl rfl d_Mo_part_58
  · replace h := iN c344 h
    refine r_iconst (pc := 38) (v := 0) C d_Mo_part_38 (by decide) ?_
    cases h
    exact r_iret (pc := 39) C hr rfl rfl rfl d_Mo_part_39
set_option maxHeartbeats 4000000 in
set_option maxRecDepth 100000 in
theorem c_Mo_part_M {l : Launch} {E : State → Heap → Prop} {D : va_G} {A : Nat → Prop} {cI cZ cJ : ClassId} (hE : stb A E) {ad : Nat → Nat} {mk : Int32} {mu : Int64} {mz : Int32} {mw : Int32} {mo : (Nat → Int32)} {md : MD} {mr : MR} {mp : MP} {rest : va_W} {p0 : Int32} {p1 : Int32} {q : Int32 × Int32} (h : f_Mo_part mk mo md p0 p1 = some q) : cm l E D clsA (TY cI cZ cJ) A GG y_Mo_part b_Mo_part 5 (some .int) rm_Mo_part [.ref (ad 11), .int p0, .int p1] (WM ad cI cZ mk mu mz mw mo md mr mp rest) (some (.int q.1)) (WM ad cI cZ q.2 mu mz mw mo md mr mp rest) := by
  refine r_met (own := R_Mo) rfl (by decide) (Nat.le_of_ble_eq_true rfl) rfl ?_
  intro p e sg m args below meth c C hr hnm hX
  unfold f_Mo_part at h
  refine r_aload_n (pc := 0) C d_Mo_part_0 rfl 0 rfl ?_
  refine r_aload_n (pc := 1) C d_Mo_part_1 rfl 0 rfl ?_
  refine r_iload_n (pc := 2) C d_Mo_part_2 rfl 1 rfl ?_
  obtain ⟨q293, hq293, h⟩ := ob h
  refine r_callV (pc := 3) (As := [.int p0]) (rest := [.ref (ad 11)]) (st1 := [.int q293, .ref (ad 11)]) hE gg_good C hX (c_Mo_isPart_M hE hq293) mm_43 mm_44 mm_45 mm_10 mm_46 hd_Mo_isPart 11 rfl rfl ⟨⟨(Nat.le_of_ble_eq_true rfl), (Nat.le_of_ble_eq_true rfl)⟩, (Nat.le_of_ble_eq_true rfl), (Nat.le_of_ble_eq_true rfl)⟩ (Nat.le_of_ble_eq_true rfl) rfl rfl d_Mo_part_3 ?_
  refine r_if_ne (pc := 6) (tgt := 13) C d_Mo_part_6 (by decide) (fun c346 => ?_) (fun c346 => ?_)
  · replace h := iN c346 h
    refine r_iload_n (pc := 13) C d_Mo_part_13 rfl 2 rfl ?_
    refine r_iconst (pc := 14) (v := 0) C d_Mo_part_14 (by decide) ?_
    refine r_bipush (pc := 15) (v := 7) C d_Mo_part_15 (by decide) ?_
    obtain ⟨q294, hq294, h⟩ := ob h
    refine r_callS (pc := 17) (As := [.int p1, .int (0), .int (7)]) (rest := [.ref (ad 11)]) (st1 := [.int q294, .ref (ad 11)]) hE gg_good C hX (c_Mo_in_S hE hq294) mm_32 mm_33 mm_10 mm_34 hd_Mo_in ⟨⟨(Nat.le_of_ble_eq_true rfl), (Nat.le_of_ble_eq_true rfl)⟩, (Nat.le_of_ble_eq_true rfl), (Nat.le_of_ble_eq_true rfl)⟩ (Nat.le_of_ble_eq_true rfl) rfl rfl d_Mo_part_17 ?_
    refine r_if_ne (pc := 20) (tgt := 27) C d_Mo_part_20 (by decide) (fun c345 => ?_) (fun c345 => ?_)
    · replace h := iN c345 h
      refine r_iconst (pc := 27) (v := 0) C d_Mo_part_27 (by decide) ?_
      refine r_loc (lv' := [(0, .ref (ad 11)), (1, .int p0), (2, .int p1)]) [0, 1, 2] rfl ?_
      exact vj_Mo_part_28_M hE C hr hX (p0, p1, 0, mk) h
    · replace h := ip c345 h
      refine r_iconst (pc := 23) (v := 2) C d_Mo_part_23 (by decide) ?_
      refine r_goto (pc := 24) (tgt := 28) C d_Mo_part_24 (by decide) ?_
      refine r_loc (lv' := [(0, .ref (ad 11)), (1, .int p0), (2, .int p1)]) [0, 1, 2] rfl ?_
      exact vj_Mo_part_28_M hE C hr hX (p0, p1, 2, mk) h
  · replace h := ip c346 h
    refine r_iconst (pc := 9) (v := 1) C d_Mo_part_9 (by decide) ?_
    refine r_goto (pc := 10) (tgt := 28) C d_Mo_part_10 (by decide) ?_
    refine r_loc (lv' := [(0, .ref (ad 11)), (1, .int p0), (2, .int p1)]) [0, 1, 2] rfl ?_
    exact vj_Mo_part_28_M hE C hr hX (p0, p1, 1, mk) h
def f_Mo_counts (mo : (Nat → Int32)) (md : MD) (p0 : Int32) : Option (Int32) :=
  (if (((md.2.1 + md.2.2.1) + p0) < 0 ∨ 40 ≤ ((md.2.1 + md.2.2.1) + p0).toNatClampNeg) then none else (if mo ((md.2.1 + md.2.2.1) + p0).toNatClampNeg = 0 then (if (p0 < 0 ∨ 24 ≤ p0.toNatClampNeg) then none else (if ((md.2.2.2.2.2.2.1 p0.toNatClampNeg) < 0 ∨ 40 ≤ (md.2.2.2.2.2.2.1 p0.toNatClampNeg).toNatClampNeg) then none else (if mo (md.2.2.2.2.2.2.1 p0.toNatClampNeg).toNatClampNeg = 0 then (if (p0 < 0 ∨ 24 ≤ p0.toNatClampNeg) then none else (if ((md.2.1 + (md.2.2.2.2.2.2.2.1 p0.toNatClampNeg)) < 0 ∨ 40 ≤ (md.2.1 + (md.2.2.2.2.2.2.2.1 p0.toNatClampNeg)).toNatClampNeg) then none else (if mo (md.2.1 + (md.2.2.2.2.2.2.2.1 p0.toNatClampNeg)).toNatClampNeg = 0 then some (1) else some (0)))) else some (0)))) else some (0)))
abbrev rm_Mo_counts : Room := { frames := 0, cells := 0, slots := 0, locals := 0 }
theorem hd_Mo_counts : y_Mo_counts.cls ≠ "java/lang/invoke/MethodHandle" ∧ y_Mo_counts.cls ≠ "java/lang/invoke/VarHandle" ∧ (parseMethodDescriptor y_Mo_counts.desc).map (fun d => d.parameters.length) = some 1 := by decide +kernel
set_option maxHeartbeats 4000000 in
set_option maxRecDepth 100000 in
theorem c_Mo_counts_M {l : Launch} {E : State → Heap → Prop} {D : va_G} {A : Nat → Prop} {cI cZ cJ : ClassId} (hE : stb A E) {ad : Nat → Nat} {mk : Int32} {mu : Int64} {mz : Int32} {mw : Int32} {mo : (Nat → Int32)} {md : MD} {mr : MR} {mp : MP} {rest : va_W} {p0 : Int32} {q : Int32} (h : f_Mo_counts mo md p0 = some q) : cm l E D clsA (TY cI cZ cJ) A GG y_Mo_counts b_Mo_counts 2 (some .boolean) rm_Mo_counts [.ref (ad 11), .int p0] (WM ad cI cZ mk mu mz mw mo md mr mp rest) (some (.int q)) (WM ad cI cZ mk mu mz mw mo md mr mp rest) := by
  refine r_met (own := R_Mo) rfl (by decide) (Nat.le_of_ble_eq_true rfl) rfl ?_
  intro p e sg m args below meth c C hr hnm hX
  unfold f_Mo_counts at h
  refine r_aload_n (pc := 0) C d_Mo_counts_0 rfl 0 rfl ?_
  refine r_get (pc := 1) (v := .ref (ad 10)) C hin_Mo 11 rfl rfl 5 (by decide) mm_27 rfl rfl d_Mo_counts_1 ?_
  refine r_aload_n (pc := 4) C d_Mo_counts_4 rfl 0 rfl ?_
  refine r_get (pc := 5) (v := .int md.2.1) C hin_Mo 11 rfl rfl 6 (by decide) mm_16 rfl rfl d_Mo_counts_5 ?_
  refine r_aload_n (pc := 8) C d_Mo_counts_8 rfl 0 rfl ?_
  refine r_get (pc := 9) (v := .int md.2.2.1) C hin_Mo 11 rfl rfl 8 (by decide) mm_18 rfl rfl d_Mo_counts_9 ?_
  refine r_iadd (pc := 12) C d_Mo_counts_12 ?_
  refine r_iload_n (pc := 13) C d_Mo_counts_13 rfl 1 rfl ?_
  refine r_iadd (pc := 14) C d_Mo_counts_14 ?_
  obtain ⟨hi364, h⟩ := ign h
  refine r_zald (pc := 15) C 10 1 rfl rfl hi364 d_Mo_counts_15 ?_
  refine r_if_ne (pc := 16) (tgt := 56) C d_Mo_counts_16 (by decide) (fun c363 => ?_) (fun c363 => ?_)
  · replace h := iN c363 h
    refine r_iconst (pc := 56) (v := 0) C d_Mo_counts_56 (by decide) ?_
    cases h
    exact r_iret (pc := 57) C hr rfl rfl rfl d_Mo_counts_57
  · replace h := ip c363 h
    refine r_aload_n (pc := 19) C d_Mo_counts_19 rfl 0 rfl ?_
    refine r_get (pc := 20) (v := .ref (ad 10)) C hin_Mo 11 rfl rfl 5 (by decide) mm_27 rfl rfl d_Mo_counts_20 ?_
    refine r_aload_n (pc := 23) C d_Mo_counts_23 rfl 0 rfl ?_
    refine r_get (pc := 24) (v := .ref (ad 7)) C hin_Mo 11 rfl rfl 11 (by decide) mm_21 rfl rfl d_Mo_counts_24 ?_
    refine r_iload_n (pc := 27) C d_Mo_counts_27 rfl 1 rfl ?_
    obtain ⟨hi362, h⟩ := ign h
    refine r_iald (pc := 28) C 7 0 rfl rfl hi362 d_Mo_counts_28 ?_
    obtain ⟨hi361, h⟩ := ign h
    refine r_zald (pc := 29) C 10 1 rfl rfl hi361 d_Mo_counts_29 ?_
    refine r_if_ne (pc := 30) (tgt := 56) C d_Mo_counts_30 (by decide) (fun c360 => ?_) (fun c360 => ?_)
    · replace h := iN c360 h
      refine r_iconst (pc := 56) (v := 0) C d_Mo_counts_56 (by decide) ?_
      cases h
      exact r_iret (pc := 57) C hr rfl rfl rfl d_Mo_counts_57
    · replace h := ip c360 h
      refine r_aload_n (pc := 33) C d_Mo_counts_33 rfl 0 rfl ?_
      refine r_get (pc := 34) (v := .ref (ad 10)) C hin_Mo 11 rfl rfl 5 (by decide) mm_27 rfl rfl d_Mo_counts_34 ?_
      refine r_aload_n (pc := 37) C d_Mo_counts_37 rfl 0 rfl ?_
      refine r_get (pc := 38) (v := .int md.2.1) C hin_Mo 11 rfl rfl 6 (by decide) mm_16 rfl rfl d_Mo_counts_38 ?_
      refine r_aload_n (pc := 41) C d_Mo_counts_41 rfl 0 rfl ?_
      refine r_get (pc := 42) (v := .ref (ad 6)) C hin_Mo 11 rfl rfl 12 (by decide) mm_22 rfl rfl d_Mo_counts_42 ?_
      refine r_iload_n (pc := 45) C d_Mo_counts_45 rfl 1 rfl ?_
      obtain ⟨hi359, h⟩ := ign h
      refine r_iald (pc := 46) C 6 0 rfl rfl hi359 d_Mo_counts_46 ?_
      refine r_iadd (pc := 47) C d_Mo_counts_47 ?_
      obtain ⟨hi358, h⟩ := ign h
      refine r_zald (pc := 48) C 10 1 rfl rfl hi358 d_Mo_counts_48 ?_
      refine r_if_ne (pc := 49) (tgt := 56) C d_Mo_counts_49 (by decide) (fun c357 => ?_) (fun c357 => ?_)
      · replace h := iN c357 h
        refine r_iconst (pc := 56) (v := 0) C d_Mo_counts_56 (by decide) ?_
        cases h
        exact r_iret (pc := 57) C hr rfl rfl rfl d_Mo_counts_57
      · replace h := ip c357 h
        refine r_iconst (pc := 52) (v := 1) C d_Mo_counts_52 (by decide) ?_
        refine r_goto (pc := 53) (tgt := 57) C d_Mo_counts_53 (by decide) ?_
        cases h
        exact r_iret (pc := 57) C hr rfl rfl rfl d_Mo_counts_57
def bd_Mo_gramsAt_4 (md : MD) (mp : MP) (kx : Int32 × Int32 × Int32 → Option (Int32)) (rec : Int32 × Int32 × Int32 → Option (Int32)) (z : Int32 × Int32 × Int32) : Option (Int32) :=
  (if md.2.2.1 ≤ z.2.2 then kx (z.1, z.2.1, z.2.2) else (if ((((8 : Int32) * z.1) + z.2.2) < 0 ∨ 64 ≤ (((8 : Int32) * z.1) + z.2.2).toNatClampNeg) then none else (if mp.1 (((8 : Int32) * z.1) + z.2.2).toNatClampNeg ≤ 0 then rec (z.1, z.2.1 + (0 : Int32), z.2.2 + 1) else (if ((((8 : Int32) * z.1) + z.2.2) < 0 ∨ 64 ≤ (((8 : Int32) * z.1) + z.2.2).toNatClampNeg) then none else (if (z.2.2 < 0 ∨ 8 ≤ z.2.2.toNatClampNeg) then none else rec (z.1, z.2.1 + ((mp.1 (((8 : Int32) * z.1) + z.2.2).toNatClampNeg) * (md.2.2.2.2.2.1 z.2.2.toNatClampNeg)), z.2.2 + 1))))))
def f_Mo_gramsAt (md : MD) (mp : MP) (p0 : Int32) : Option (Int32) :=
  (itn (bd_Mo_gramsAt_4 md mp (fun z376 => some z376.2.1)) 70 (p0, 0, 0))
abbrev rm_Mo_gramsAt : Room := { frames := 0, cells := 0, slots := 0, locals := 0 }
theorem hd_Mo_gramsAt : y_Mo_gramsAt.cls ≠ "java/lang/invoke/MethodHandle" ∧ y_Mo_gramsAt.cls ≠ "java/lang/invoke/VarHandle" ∧ (parseMethodDescriptor y_Mo_gramsAt.desc).map (fun d => d.parameters.length) = some 1 := by decide +kernel
set_option maxHeartbeats 4000000 in
set_option maxRecDepth 100000 in
theorem vl_Mo_gramsAt_4_M {l : Launch} {E : State → Heap → Prop} {D : va_G} {A : Nat → Prop} {cI cZ cJ : ClassId} (hE : stb A E) {ad : Nat → Nat} {mk : Int32} {mu : Int64} {mz : Int32} {mw : Int32} {mo : (Nat → Int32)} {md : MD} {mr : MR} {mp : MP} {rest : va_W} {p : Program} {e : Env} {sg : State} {m : MethodId} {args : Array Value} {below : List Frame} {meth : Method} {c : Code} (C : cx p sg m args meth c D clsA (TY cI cZ cJ) A GG R_Mo b_Mo_gramsAt 4) (hr : meth.sig.returnType = (some .int)) (hX : E sg sg.heap) {q : Int32} {kx : Int32 × Int32 × Int32 → Option (Int32)} (K : ∀ z : Int32 × Int32 × Int32, kx z = some q → vv p l e rm_Mo_gramsAt sg m args below meth c D clsA A 4 0 0 (MQ below (qcI D clsA A (some (.int q)) (WM ad cI cZ mk mu mz mw mo md mr mp rest)) args sg rm_Mo_gramsAt.cells rm_Mo_gramsAt.slots A) 57 [(0, .ref (ad 11)), (1, .int z.1), (2, .int z.2.1), (3, .int z.2.2)] [] (WM ad cI cZ mk mu mz mw mo md mr mp rest)) :
    ∀ (n : Nat) (z : Int32 × Int32 × Int32), itn (bd_Mo_gramsAt_4 md mp kx) n z = some q → vv p l e rm_Mo_gramsAt sg m args below meth c D clsA A 4 0 0 (MQ below (qcI D clsA A (some (.int q)) (WM ad cI cZ mk mu mz mw mo md mr mp rest)) args sg rm_Mo_gramsAt.cells rm_Mo_gramsAt.slots A) 4 [(0, .ref (ad 11)), (1, .int z.1), (2, .int z.2.1), (3, .int z.2.2)] [] (WM ad cI cZ mk mu mz mw mo md mr mp rest) := by
  have _ := hE
  intro n
  induction n with
  | zero => intro z h; cases h
  | succ n ih =>
    intro z h
    obtain ⟨zv0, zv1, zv2⟩ := z
    replace h : bd_Mo_gramsAt_4 md mp kx (itn (bd_Mo_gramsAt_4 md mp kx) n) (zv0, zv1, zv2) = some q := h
    unfold bd_Mo_gramsAt_4 at h
    (try dsimp only at h)
    show vv p l e rm_Mo_gramsAt sg m args below meth c D clsA A 4 0 0 (MQ below (qcI D clsA A (some (.int q)) (WM ad cI cZ mk mu mz mw mo md mr mp rest)) args sg rm_Mo_gramsAt.cells rm_Mo_gramsAt.slots A) 4 [(0, .ref (ad 11)), (1, .int zv0), (2, .int zv1), (3, .int zv2)] [] (WM ad cI cZ mk mu mz mw mo md mr mp rest)
    refine r_iload_n (pc := 4) C d_Mo_gramsAt_4 rfl 3 rfl ?_
    refine r_aload_n (pc := 5) C d_Mo_gramsAt_5 rfl 0 rfl ?_
    refine r_get (pc := 6) (v := .int md.2.2.1) C hin_Mo 11 rfl rfl 8 (by decide) mm_18 rfl rfl d_Mo_gramsAt_6 ?_
    refine r_icmp_ge (pc := 9) (tgt := 57) C d_Mo_gramsAt_9 (by decide) (fun c375 => ?_) (fun c375 => ?_)
    · replace h := ip c375 h
      refine r_loc (lv' := [(0, .ref (ad 11)), (1, .int zv0), (2, .int zv1), (3, .int zv2)]) [0, 1, 2, 3] rfl ?_
      exact K (zv0, zv1, zv2) h
    · replace h := iN c375 h
      refine r_iload_n (pc := 12) C d_Mo_gramsAt_12 rfl 2 rfl ?_
      refine r_aload_n (pc := 13) C d_Mo_gramsAt_13 rfl 0 rfl ?_
      refine r_get (pc := 14) (v := .ref (ad 1)) C hin_Mo 11 rfl rfl 18 (by decide) mm_47 rfl rfl d_Mo_gramsAt_14 ?_
      refine r_bipush (pc := 17) (v := 8) C d_Mo_gramsAt_17 (by decide) ?_
      refine r_iload_n (pc := 19) C d_Mo_gramsAt_19 rfl 1 rfl ?_
      refine r_imul (pc := 20) C d_Mo_gramsAt_20 ?_
      refine r_iload_n (pc := 21) C d_Mo_gramsAt_21 rfl 3 rfl ?_
      refine r_iadd (pc := 22) C d_Mo_gramsAt_22 ?_
      obtain ⟨hi374, h⟩ := ign h
      refine r_iald (pc := 23) C 1 0 rfl rfl hi374 d_Mo_gramsAt_23 ?_
      refine r_if_le (pc := 24) (tgt := 48) C d_Mo_gramsAt_24 (by decide) (fun c373 => ?_) (fun c373 => ?_)
      · replace h := ip c373 h
        refine r_iconst (pc := 48) (v := 0) C d_Mo_gramsAt_48 (by decide) ?_
        refine r_iadd (pc := 49) C d_Mo_gramsAt_49 ?_
        refine r_istore_n (pc := 50) (lv' := [(2, .int (zv1 + (0 : Int32))), (0, .ref (ad 11)), (1, .int zv0), (3, .int zv2)]) C d_Mo_gramsAt_50 rfl (by decide) rfl ?_
        refine r_iincK (pc := 51) (w0 := 1) (lv' := [(3, .int (zv2 + 1)), (2, .int (zv1 + (0 : Int32))), (0, .ref (ad 11)), (1, .int zv0)]) C d_Mo_gramsAt_51 (by decide) 3 rfl (by decide) rfl ?_
        refine r_goto (pc := 54) (tgt := 4) C d_Mo_gramsAt_54 (by decide) ?_
        refine r_loc (lv' := [(0, .ref (ad 11)), (1, .int zv0), (2, .int (zv1 + (0 : Int32))), (3, .int (zv2 + 1))]) [2, 3, 1, 0] rfl ?_
        exact ih (zv0, zv1 + (0 : Int32), zv2 + 1) h
      · replace h := iN c373 h
        refine r_aload_n (pc := 27) C d_Mo_gramsAt_27 rfl 0 rfl ?_
        refine r_get (pc := 28) (v := .ref (ad 1)) C hin_Mo 11 rfl rfl 18 (by decide) mm_47 rfl rfl d_Mo_gramsAt_28 ?_
        refine r_bipush (pc := 31) (v := 8) C d_Mo_gramsAt_31 (by decide) ?_
        refine r_iload_n (pc := 33) C d_Mo_gramsAt_33 rfl 1 rfl ?_
        refine r_imul (pc := 34) C d_Mo_gramsAt_34 ?_
        refine r_iload_n (pc := 35) C d_Mo_gramsAt_35 rfl 3 rfl ?_
        refine r_iadd (pc := 36) C d_Mo_gramsAt_36 ?_
        obtain ⟨hi372, h⟩ := ign h
        refine r_iald (pc := 37) C 1 0 rfl rfl hi372 d_Mo_gramsAt_37 ?_
        refine r_aload_n (pc := 38) C d_Mo_gramsAt_38 rfl 0 rfl ?_
        refine r_get (pc := 39) (v := .ref (ad 8)) C hin_Mo 11 rfl rfl 9 (by decide) mm_19 rfl rfl d_Mo_gramsAt_39 ?_
        refine r_iload_n (pc := 42) C d_Mo_gramsAt_42 rfl 3 rfl ?_
        obtain ⟨hi371, h⟩ := ign h
        refine r_iald (pc := 43) C 8 0 rfl rfl hi371 d_Mo_gramsAt_43 ?_
        refine r_imul (pc := 44) C d_Mo_gramsAt_44 ?_
        refine r_goto (pc := 45) (tgt := 49) C d_Mo_gramsAt_45 (by decide) ?_
        refine r_iadd (pc := 49) C d_Mo_gramsAt_49 ?_
        refine r_istore_n (pc := 50) (lv' := [(2, .int (zv1 + ((mp.1 (((8 : Int32) * zv0) + zv2).toNatClampNeg) * (md.2.2.2.2.2.1 zv2.toNatClampNeg)))), (0, .ref (ad 11)), (1, .int zv0), (3, .int zv2)]) C d_Mo_gramsAt_50 rfl (by decide) rfl ?_
        refine r_iincK (pc := 51) (w0 := 1) (lv' := [(3, .int (zv2 + 1)), (2, .int (zv1 + ((mp.1 (((8 : Int32) * zv0) + zv2).toNatClampNeg) * (md.2.2.2.2.2.1 zv2.toNatClampNeg)))), (0, .ref (ad 11)), (1, .int zv0)]) C d_Mo_gramsAt_51 (by decide) 3 rfl (by decide) rfl ?_
        refine r_goto (pc := 54) (tgt := 4) C d_Mo_gramsAt_54 (by decide) ?_
        refine r_loc (lv' := [(0, .ref (ad 11)), (1, .int zv0), (2, .int (zv1 + ((mp.1 (((8 : Int32) * zv0) + zv2).toNatClampNeg) * (md.2.2.2.2.2.1 zv2.toNatClampNeg)))), (3, .int (zv2 + 1))]) [2, 3, 1, 0] rfl ?_
        exact ih (zv0, zv1 + ((mp.1 (((8 : Int32) * zv0) + zv2).toNatClampNeg) * (md.2.2.2.2.2.1 zv2.toNatClampNeg)), zv2 + 1) h
set_option maxHeartbeats 4000000 in
set_option maxRecDepth 100000 in
theorem c_Mo_gramsAt_M {l : Launch} {E : State → Heap → Prop} {D : va_G} {A : Nat → Prop} {cI cZ cJ : ClassId} (hE : stb A E) {ad : Nat → Nat} {mk : Int32} {mu : Int64} {mz : Int32} {mw : Int32} {mo : (Nat → Int32)} {md : MD} {mr : MR} {mp : MP} {rest : va_W} {p0 : Int32} {q : Int32} (h : f_Mo_gramsAt md mp p0 = some q) : cm l E D clsA (TY cI cZ cJ) A GG y_Mo_gramsAt b_Mo_gramsAt 4 (some .int) rm_Mo_gramsAt [.ref (ad 11), .int p0] (WM ad cI cZ mk mu mz mw mo md mr mp rest) (some (.int q)) (WM ad cI cZ mk mu mz mw mo md mr mp rest) := by
  refine r_met (own := R_Mo) rfl (by decide) (Nat.le_of_ble_eq_true rfl) rfl ?_
  intro p e sg m args below meth c C hr hnm hX
  unfold f_Mo_gramsAt at h
  refine r_iconst (pc := 0) (v := 0) C d_Mo_gramsAt_0 (by decide) ?_
  refine r_istore_n (pc := 1) (lv' := [(2, .int (0)), (0, .ref (ad 11)), (1, .int p0)]) C d_Mo_gramsAt_1 rfl (by decide) rfl ?_
  refine r_iconst (pc := 2) (v := 0) C d_Mo_gramsAt_2 (by decide) ?_
  refine r_istore_n (pc := 3) (lv' := [(3, .int (0)), (2, .int (0)), (0, .ref (ad 11)), (1, .int p0)]) C d_Mo_gramsAt_3 rfl (by decide) rfl ?_
  refine r_loc (lv' := [(0, .ref (ad 11)), (1, .int p0), (2, .int (0)), (3, .int (0))]) [2, 3, 1, 0] rfl ?_
  refine vl_Mo_gramsAt_4_M hE C hr hX (fun z376 h => ?_) 70 (p0, 0, 0) h
  refine r_iload_n (pc := 57) C d_Mo_gramsAt_57 rfl 2 rfl ?_
  cases h
  exact r_iret (pc := 58) C hr rfl rfl rfl d_Mo_gramsAt_58
