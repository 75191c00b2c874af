abbrev rm_So_init : Room := { frames := 1, cells := 0, slots := 0, locals := 30 }
theorem hd_So_init : y_So_init.cls ≠ "java/lang/invoke/MethodHandle" ∧ y_So_init.cls ≠ "java/lang/invoke/VarHandle" ∧ (parseMethodDescriptor y_So_init.desc).map (fun d => d.parameters.length) = some 1 := by decide +kernel
set_option maxHeartbeats 4000000 in
set_option maxRecDepth 100000 in
theorem c_So_init {l : Launch} {E : State → Heap → Prop} {D : va_G} {A : Nat → Prop} {cI cZ cJ : ClassId} (hE : stb A E) {b : Nat} {rest : va_W} {p0 : Int64} : cmg l E D clsA (TY cI cZ cJ) A GG y_So_init b_So_init 3 none rm_So_init [.ref b, .long p0] ((b, .inr (3, [.long 0])) :: rest) none (fun ws' => ws' = (b, .inr (3, [.long p0])) :: rest) := by
  have _ := hE
  refine r_metg (own := R_So) rfl (by decide) (Nat.le_of_ble_eq_true rfl) rfl ?_
  intro p e sg m args below meth c C hr hnm hX
  refine r_aload_n (pc := 0) C d_So_init_0 rfl 0 rfl ?_
  refine r_objInit (pc := 1) C mc_0 mc_1 mc_2 ⟨(Nat.le_of_ble_eq_true rfl), (Nat.le_of_ble_eq_true rfl)⟩ d_So_init_1 ?_
  refine r_aload_n (pc := 4) C d_So_init_4 rfl 0 rfl ?_
  refine r_lload_n (pc := 5) C d_So_init_5 rfl 1 rfl ?_
  refine r_put (pc := 6) (ty := t_So 0) (ws' := (b, .inr (3, [.long p0])) :: rest) C hin_So t_So t_So_ok n_So 0 rfl rfl 0 (by decide) mc_3 rfl rfl (t_So_ok 0 (by decide)) rfl rfl (Nat.le_of_ble_eq_true rfl) rfl d_So_init_6 ?_
  exact r_vretG (pc := 9) C hr rfl d_So_init_9
abbrev rm_Dr_init : Room := { frames := 1, cells := 5, slots := 150, locals := 30 }
theorem hd_Dr_init : y_Dr_init.cls ≠ "java/lang/invoke/MethodHandle" ∧ y_Dr_init.cls ≠ "java/lang/invoke/VarHandle" ∧ (parseMethodDescriptor y_Dr_init.desc).map (fun d => d.parameters.length) = some 0 := by decide +kernel
set_option maxHeartbeats 4000000 in
set_option maxRecDepth 100000 in
theorem c_Dr_init {l : Launch} {E : State → Heap → Prop} {D : va_G} {A : Nat → Prop} {cI cZ cJ : ClassId} (hE : stb A E) {b : Nat} {rest : va_W} : cmg l E D clsA (TY cI cZ cJ) A GG y_Dr_init b_Dr_init 1 none rm_Dr_init [.ref b] ((b, .inr (1, [.int 0, .int 0, .int 0, .int 0, .null, .null, .null, .null, .null])) :: rest) none (fun ws' => ∃ q0 q1 q2 q3 q4 : Nat, ws' = (q4, .inl (cZ, 30, .inl (fun _ => 0))) :: (q3, .inl (cZ, 30, .inl (fun _ => 0))) :: (q2, .inl (cI, 30, .inl (fun _ => 0))) :: (q1, .inl (cI, 30, .inl (fun _ => 0))) :: (q0, .inl (cI, 30, .inl (fun _ => 0))) :: (b, .inr (1, [.int (-1), .int 0, .int 0, .int 0, .ref q0, .ref q1, .ref q2, .ref q3, .ref q4])) :: rest) := by
  have _ := hE
  refine r_metg (own := R_Dr) rfl (by decide) (Nat.le_of_ble_eq_true rfl) rfl ?_
  intro p e sg m args below meth c C hr hnm hX
  refine r_aload_n (pc := 0) C d_Dr_init_0 rfl 0 rfl ?_
  refine r_objInit (pc := 1) C mc_4 mc_1 mc_2 ⟨(Nat.le_of_ble_eq_true rfl), (Nat.le_of_ble_eq_true rfl)⟩ d_Dr_init_1 ?_
  refine r_aload_n (pc := 4) C d_Dr_init_4 rfl 0 rfl ?_
  refine r_iconst (pc := 5) (v := (-1)) C d_Dr_init_5 (by decide) ?_
  refine r_put (pc := 6) (ty := t_Dr 0) (ws' := (b, .inr (1, [.int (-1), .int 0, .int 0, .int 0, .null, .null, .null, .null, .null])) :: rest) C hin_Dr t_Dr t_Dr_ok n_Dr 0 rfl rfl 0 (by decide) mc_5 rfl rfl (t_Dr_ok 0 (by decide)) rfl rfl (Nat.le_of_ble_eq_true rfl) rfl d_Dr_init_6 ?_
  refine r_aload_n (pc := 9) C d_Dr_init_9 rfl 0 rfl ?_
  refine r_iconst (pc := 10) (v := 0) C d_Dr_init_10 (by decide) ?_
  refine r_put (pc := 11) (ty := t_Dr 1) (ws' := (b, .inr (1, [.int (-1), .int 0, .int 0, .int 0, .null, .null, .null, .null, .null])) :: rest) C hin_Dr t_Dr t_Dr_ok n_Dr 0 rfl rfl 1 (by decide) mc_6 rfl rfl (t_Dr_ok 1 (by decide)) rfl rfl (Nat.le_of_ble_eq_true rfl) rfl d_Dr_init_11 ?_
  refine r_aload_n (pc := 14) C d_Dr_init_14 rfl 0 rfl ?_
  refine r_iconst (pc := 15) (v := 0) C d_Dr_init_15 (by decide) ?_
  refine r_put (pc := 16) (ty := t_Dr 2) (ws' := (b, .inr (1, [.int (-1), .int 0, .int 0, .int 0, .null, .null, .null, .null, .null])) :: rest) C hin_Dr t_Dr t_Dr_ok n_Dr 0 rfl rfl 2 (by decide) mc_7 rfl rfl (t_Dr_ok 2 (by decide)) rfl rfl (Nat.le_of_ble_eq_true rfl) rfl d_Dr_init_16 ?_
  refine r_aload_n (pc := 19) C d_Dr_init_19 rfl 0 rfl ?_
  refine r_iconst (pc := 20) (v := 0) C d_Dr_init_20 (by decide) ?_
  refine r_put (pc := 21) (ty := t_Dr 3) (ws' := (b, .inr (1, [.int (-1), .int 0, .int 0, .int 0, .null, .null, .null, .null, .null])) :: rest) C hin_Dr t_Dr t_Dr_ok n_Dr 0 rfl rfl 3 (by decide) mc_8 rfl rfl (t_Dr_ok 3 (by decide)) rfl rfl (Nat.le_of_ble_eq_true rfl) rfl d_Dr_init_21 ?_
  refine r_aload_n (pc := 24) C d_Dr_init_24 rfl 0 rfl ?_
  refine r_bipush (pc := 25) (v := 30) C d_Dr_init_25 (by decide) ?_
  refine r_newaF (pc := 27) (atype := .int) (ty := .int) (N' := 30) (a0 := (30, .inl (fun _ => 0))) C mc_9 rfl 0 rfl (fun _ _ h => h) (fun _ => rfl) (by decide) rfl (Nat.le_of_ble_eq_true rfl) (Nat.le_of_ble_eq_true rfl) (Nat.le_of_ble_eq_true rfl) d_Dr_init_27 (fun q0 => ?_)
  refine r_putF (pc := 29) (ty := t_Dr 4) (ws' := (q0, .inl (cI, 30, .inl (fun _ => 0))) :: (b, .inr (1, [.int (-1), .int 0, .int 0, .int 0, .ref q0, .null, .null, .null, .null])) :: rest) C hin_Dr t_Dr t_Dr_ok n_Dr 1 rfl rfl 4 (by decide) mc_10 rfl rfl hnm rfl (t_Dr_ok 4 (by decide)) rfl rfl (Nat.le_of_ble_eq_true rfl) rfl d_Dr_init_29 ?_
  refine r_aload_n (pc := 32) C d_Dr_init_32 rfl 0 rfl ?_
  refine r_bipush (pc := 33) (v := 30) C d_Dr_init_33 (by decide) ?_
  refine r_newaF (pc := 35) (atype := .int) (ty := .int) (N' := 30) (a0 := (30, .inl (fun _ => 0))) C mc_9 rfl 0 rfl (fun _ _ h => h) (fun _ => rfl) (by decide) rfl (Nat.le_of_ble_eq_true rfl) (Nat.le_of_ble_eq_true rfl) (Nat.le_of_ble_eq_true rfl) d_Dr_init_35 (fun q1 => ?_)
  refine r_putF (pc := 37) (ty := t_Dr 5) (ws' := (q1, .inl (cI, 30, .inl (fun _ => 0))) :: (q0, .inl (cI, 30, .inl (fun _ => 0))) :: (b, .inr (1, [.int (-1), .int 0, .int 0, .int 0, .ref q0, .ref q1, .null, .null, .null])) :: rest) C hin_Dr t_Dr t_Dr_ok n_Dr 2 rfl rfl 5 (by decide) mc_11 rfl rfl hnm rfl (t_Dr_ok 5 (by decide)) rfl rfl (Nat.le_of_ble_eq_true rfl) rfl d_Dr_init_37 ?_
  refine r_aload_n (pc := 40) C d_Dr_init_40 rfl 0 rfl ?_
  refine r_bipush (pc := 41) (v := 30) C d_Dr_init_41 (by decide) ?_
  refine r_newaF (pc := 43) (atype := .int) (ty := .int) (N' := 30) (a0 := (30, .inl (fun _ => 0))) C mc_9 rfl 0 rfl (fun _ _ h => h) (fun _ => rfl) (by decide) rfl (Nat.le_of_ble_eq_true rfl) (Nat.le_of_ble_eq_true rfl) (Nat.le_of_ble_eq_true rfl) d_Dr_init_43 (fun q2 => ?_)
  refine r_putF (pc := 45) (ty := t_Dr 6) (ws' := (q2, .inl (cI, 30, .inl (fun _ => 0))) :: (q1, .inl (cI, 30, .inl (fun _ => 0))) :: (q0, .inl (cI, 30, .inl (fun _ => 0))) :: (b, .inr (1, [.int (-1), .int 0, .int 0, .int 0, .ref q0, .ref q1, .ref q2, .null, .null])) :: rest) C hin_Dr t_Dr t_Dr_ok n_Dr 3 rfl rfl 6 (by decide) mc_12 rfl rfl hnm rfl (t_Dr_ok 6 (by decide)) rfl rfl (Nat.le_of_ble_eq_true rfl) rfl d_Dr_init_45 ?_
  refine r_aload_n (pc := 48) C d_Dr_init_48 rfl 0 rfl ?_
  refine r_bipush (pc := 49) (v := 30) C d_Dr_init_49 (by decide) ?_
  refine r_newaF (pc := 51) (atype := .boolean) (ty := .boolean) (N' := 30) (a0 := (30, .inl (fun _ => 0))) C mc_13 rfl 1 rfl (fun _ _ h => h) (fun _ => rfl) (by decide) rfl (Nat.le_of_ble_eq_true rfl) (Nat.le_of_ble_eq_true rfl) (Nat.le_of_ble_eq_true rfl) d_Dr_init_51 (fun q3 => ?_)
  refine r_putF (pc := 53) (ty := t_Dr 7) (ws' := (q3, .inl (cZ, 30, .inl (fun _ => 0))) :: (q2, .inl (cI, 30, .inl (fun _ => 0))) :: (q1, .inl (cI, 30, .inl (fun _ => 0))) :: (q0, .inl (cI, 30, .inl (fun _ => 0))) :: (b, .inr (1, [.int (-1), .int 0, .int 0, .int 0, .ref q0, .ref q1, .ref q2, .ref q3, .null])) :: rest) C hin_Dr t_Dr t_Dr_ok n_Dr 4 rfl rfl 7 (by decide) mc_14 rfl rfl hnm rfl (t_Dr_ok 7 (by decide)) rfl rfl (Nat.le_of_ble_eq_true rfl) rfl d_Dr_init_53 ?_
  refine r_aload_n (pc := 56) C d_Dr_init_56 rfl 0 rfl ?_
  refine r_bipush (pc := 57) (v := 30) C d_Dr_init_57 (by decide) ?_
  refine r_newaF (pc := 59) (atype := .boolean) (ty := .boolean) (N' := 30) (a0 := (30, .inl (fun _ => 0))) C mc_13 rfl 1 rfl (fun _ _ h => h) (fun _ => rfl) (by decide) rfl (Nat.le_of_ble_eq_true rfl) (Nat.le_of_ble_eq_true rfl) (Nat.le_of_ble_eq_true rfl) d_Dr_init_59 (fun q4 => ?_)
  refine r_putF (pc := 61) (ty := t_Dr 8) (ws' := (q4, .inl (cZ, 30, .inl (fun _ => 0))) :: (q3, .inl (cZ, 30, .inl (fun _ => 0))) :: (q2, .inl (cI, 30, .inl (fun _ => 0))) :: (q1, .inl (cI, 30, .inl (fun _ => 0))) :: (q0, .inl (cI, 30, .inl (fun _ => 0))) :: (b, .inr (1, [.int (-1), .int 0, .int 0, .int 0, .ref q0, .ref q1, .ref q2, .ref q3, .ref q4])) :: rest) C hin_Dr t_Dr t_Dr_ok n_Dr 5 rfl rfl 8 (by decide) mc_15 rfl rfl hnm rfl (t_Dr_ok 8 (by decide)) rfl rfl (Nat.le_of_ble_eq_true rfl) rfl d_Dr_init_61 ?_
  exact r_vretG (pc := 64) C hr ⟨q0, q1, q2, q3, q4, rfl⟩ d_Dr_init_64
abbrev rm_Re_init : Room := { frames := 1, cells := 1, slots := 30, locals := 30 }
theorem hd_Re_init : y_Re_init.cls ≠ "java/lang/invoke/MethodHandle" ∧ y_Re_init.cls ≠ "java/lang/invoke/VarHandle" ∧ (parseMethodDescriptor y_Re_init.desc).map (fun d => d.parameters.length) = some 1 := by decide +kernel
set_option maxHeartbeats 4000000 in
set_option maxRecDepth 100000 in
theorem c_Re_init {l : Launch} {E : State → Heap → Prop} {D : va_G} {A : Nat → Prop} {cI cZ cJ : ClassId} (hE : stb A E) {b : Nat} {rest : va_W} {p0 : Nat} : cmg l E D clsA (TY cI cZ cJ) A GG y_Re_init b_Re_init 2 none rm_Re_init [.ref b, .ref p0] ((b, .inr (2, [.null, .null])) :: rest) none (fun ws' => ∃ q0 : Nat, ws' = (q0, .inl (cZ, 30, .inl (fun _ => 0))) :: (b, .inr (2, [.ref p0, .ref q0])) :: rest) := by
  have _ := hE
  refine r_metg (own := R_Re) rfl (by decide) (Nat.le_of_ble_eq_true rfl) rfl ?_
  intro p e sg m args below meth c C hr hnm hX
  refine r_aload_n (pc := 0) C d_Re_init_0 rfl 0 rfl ?_
  refine r_objInit (pc := 1) C mc_16 mc_1 mc_2 ⟨(Nat.le_of_ble_eq_true rfl), (Nat.le_of_ble_eq_true rfl)⟩ d_Re_init_1 ?_
  refine r_aload_n (pc := 4) C d_Re_init_4 rfl 0 rfl ?_
  refine r_aload_n (pc := 5) C d_Re_init_5 rfl 1 rfl ?_
  refine r_putF (pc := 6) (ty := t_Re 0) (ws' := (b, .inr (2, [.ref p0, .null])) :: rest) C hin_Re t_Re t_Re_ok n_Re 0 rfl rfl 0 (by decide) mc_17 rfl rfl hnm rfl (t_Re_ok 0 (by decide)) rfl rfl (Nat.le_of_ble_eq_true rfl) rfl d_Re_init_6 ?_
  refine r_aload_n (pc := 9) C d_Re_init_9 rfl 0 rfl ?_
  refine r_bipush (pc := 10) (v := 30) C d_Re_init_10 (by decide) ?_
  refine r_newaF (pc := 12) (atype := .boolean) (ty := .boolean) (N' := 30) (a0 := (30, .inl (fun _ => 0))) C mc_13 rfl 1 rfl (fun _ _ h => h) (fun _ => rfl) (by decide) rfl (Nat.le_of_ble_eq_true rfl) (Nat.le_of_ble_eq_true rfl) (Nat.le_of_ble_eq_true rfl) d_Re_init_12 (fun q0 => ?_)
  refine r_putF (pc := 14) (ty := t_Re 1) (ws' := (q0, .inl (cZ, 30, .inl (fun _ => 0))) :: (b, .inr (2, [.ref p0, .ref q0])) :: rest) C hin_Re t_Re t_Re_ok n_Re 1 rfl rfl 1 (by decide) mc_18 rfl rfl hnm rfl (t_Re_ok 1 (by decide)) rfl rfl (Nat.le_of_ble_eq_true rfl) rfl d_Re_init_14 ?_
  exact r_vretG (pc := 17) C hr ⟨q0, rfl⟩ d_Re_init_17
abbrev rm_St_init : Room := { frames := 1, cells := 3, slots := 48, locals := 30 }
theorem hd_St_init : y_St_init.cls ≠ "java/lang/invoke/MethodHandle" ∧ y_St_init.cls ≠ "java/lang/invoke/VarHandle" ∧ (parseMethodDescriptor y_St_init.desc).map (fun d => d.parameters.length) = some 2 := by decide +kernel
set_option maxHeartbeats 4000000 in
set_option maxRecDepth 100000 in
theorem c_St_init {l : Launch} {E : State → Heap → Prop} {D : va_G} {A : Nat → Prop} {cI cZ cJ : ClassId} (hE : stb A E) {b : Nat} {rest : va_W} {p0 : Nat} {p1 : Nat} : cmg l E D clsA (TY cI cZ cJ) A GG y_St_init b_St_init 3 none rm_St_init [.ref b, .ref p0, .ref p1] ((b, .inr (4, [.null, .null, .null, .null, .null, .int 0])) :: rest) none (fun ws' => ∃ q0 q1 q2 : Nat, ws' = (q2, .inl (cZ, 6, .inl (fun _ => 0))) :: (q1, .inl (cI, 6, .inl (fun _ => 0))) :: (q0, .inl (cI, 36, .inl (fun _ => 0))) :: (b, .inr (4, [.ref p0, .ref p1, .ref q0, .ref q1, .ref q2, .int 0])) :: rest) := by
  have _ := hE
  refine r_metg (own := R_St) rfl (by decide) (Nat.le_of_ble_eq_true rfl) rfl ?_
  intro p e sg m args below meth c C hr hnm hX
  refine r_aload_n (pc := 0) C d_St_init_0 rfl 0 rfl ?_
  refine r_objInit (pc := 1) C mc_19 mc_1 mc_2 ⟨(Nat.le_of_ble_eq_true rfl), (Nat.le_of_ble_eq_true rfl)⟩ d_St_init_1 ?_
  refine r_aload_n (pc := 4) C d_St_init_4 rfl 0 rfl ?_
  refine r_aload_n (pc := 5) C d_St_init_5 rfl 1 rfl ?_
  refine r_putF (pc := 6) (ty := t_St 0) (ws' := (b, .inr (4, [.ref p0, .null, .null, .null, .null, .int 0])) :: rest) C hin_St t_St t_St_ok n_St 0 rfl rfl 0 (by decide) mc_20 rfl rfl hnm rfl (t_St_ok 0 (by decide)) rfl rfl (Nat.le_of_ble_eq_true rfl) rfl d_St_init_6 ?_
  refine r_aload_n (pc := 9) C d_St_init_9 rfl 0 rfl ?_
  refine r_aload_n (pc := 10) C d_St_init_10 rfl 2 rfl ?_
  refine r_putF (pc := 11) (ty := t_St 1) (ws' := (b, .inr (4, [.ref p0, .ref p1, .null, .null, .null, .int 0])) :: rest) C hin_St t_St t_St_ok n_St 0 rfl rfl 1 (by decide) mc_21 rfl rfl hnm rfl (t_St_ok 1 (by decide)) rfl rfl (Nat.le_of_ble_eq_true rfl) rfl d_St_init_11 ?_
  refine r_aload_n (pc := 14) C d_St_init_14 rfl 0 rfl ?_
  refine r_bipush (pc := 15) (v := 36) C d_St_init_15 (by decide) ?_
  refine r_newaF (pc := 17) (atype := .int) (ty := .int) (N' := 36) (a0 := (36, .inl (fun _ => 0))) C mc_9 rfl 0 rfl (fun _ _ h => h) (fun _ => rfl) (by decide) rfl (Nat.le_of_ble_eq_true rfl) (Nat.le_of_ble_eq_true rfl) (Nat.le_of_ble_eq_true rfl) d_St_init_17 (fun q0 => ?_)
  refine r_putF (pc := 19) (ty := t_St 2) (ws' := (q0, .inl (cI, 36, .inl (fun _ => 0))) :: (b, .inr (4, [.ref p0, .ref p1, .ref q0, .null, .null, .int 0])) :: rest) C hin_St t_St t_St_ok n_St 1 rfl rfl 2 (by decide) mc_22 rfl rfl hnm rfl (t_St_ok 2 (by decide)) rfl rfl (Nat.le_of_ble_eq_true rfl) rfl d_St_init_19 ?_
  refine r_aload_n (pc := 22) C d_St_init_22 rfl 0 rfl ?_
  refine r_bipush (pc := 23) (v := 6) C d_St_init_23 (by decide) ?_
  refine r_newaF (pc := 25) (atype := .int) (ty := .int) (N' := 6) (a0 := (6, .inl (fun _ => 0))) C mc_9 rfl 0 rfl (fun _ _ h => h) (fun _ => rfl) (by decide) rfl (Nat.le_of_ble_eq_true rfl) (Nat.le_of_ble_eq_true rfl) (Nat.le_of_ble_eq_true rfl) d_St_init_25 (fun q1 => ?_)
  refine r_putF (pc := 27) (ty := t_St 3) (ws' := (q1, .inl (cI, 6, .inl (fun _ => 0))) :: (q0, .inl (cI, 36, .inl (fun _ => 0))) :: (b, .inr (4, [.ref p0, .ref p1, .ref q0, .ref q1, .null, .int 0])) :: rest) C hin_St t_St t_St_ok n_St 2 rfl rfl 3 (by decide) mc_23 rfl rfl hnm rfl (t_St_ok 3 (by decide)) rfl rfl (Nat.le_of_ble_eq_true rfl) rfl d_St_init_27 ?_
  refine r_aload_n (pc := 30) C d_St_init_30 rfl 0 rfl ?_
  refine r_bipush (pc := 31) (v := 6) C d_St_init_31 (by decide) ?_
  refine r_newaF (pc := 33) (atype := .boolean) (ty := .boolean) (N' := 6) (a0 := (6, .inl (fun _ => 0))) C mc_13 rfl 1 rfl (fun _ _ h => h) (fun _ => rfl) (by decide) rfl (Nat.le_of_ble_eq_true rfl) (Nat.le_of_ble_eq_true rfl) (Nat.le_of_ble_eq_true rfl) d_St_init_33 (fun q2 => ?_)
  refine r_putF (pc := 35) (ty := t_St 4) (ws' := (q2, .inl (cZ, 6, .inl (fun _ => 0))) :: (q1, .inl (cI, 6, .inl (fun _ => 0))) :: (q0, .inl (cI, 36, .inl (fun _ => 0))) :: (b, .inr (4, [.ref p0, .ref p1, .ref q0, .ref q1, .ref q2, .int 0])) :: rest) C hin_St t_St t_St_ok n_St 3 rfl rfl 4 (by decide) mc_24 rfl rfl hnm rfl (t_St_ok 4 (by decide)) rfl rfl (Nat.le_of_ble_eq_true rfl) rfl d_St_init_35 ?_
  refine r_aload_n (pc := 38) C d_St_init_38 rfl 0 rfl ?_
  refine r_iconst (pc := 39) (v := 0) C d_St_init_39 (by decide) ?_
  refine r_put (pc := 40) (ty := t_St 5) (ws' := (q2, .inl (cZ, 6, .inl (fun _ => 0))) :: (q1, .inl (cI, 6, .inl (fun _ => 0))) :: (q0, .inl (cI, 36, .inl (fun _ => 0))) :: (b, .inr (4, [.ref p0, .ref p1, .ref q0, .ref q1, .ref q2, .int 0])) :: rest) C hin_St t_St t_St_ok n_St 3 rfl rfl 5 (by decide) mc_25 rfl rfl (t_St_ok 5 (by decide)) rfl rfl (Nat.le_of_ble_eq_true rfl) rfl d_St_init_40 ?_
  exact r_vretG (pc := 43) C hr ⟨q0, q1, q2, rfl⟩ d_St_init_43
abbrev rm_SD_init : Room := { frames := 2, cells := 20, slots := 406, locals := 52 }
theorem hd_SD_init : y_SD_init.cls ≠ "java/lang/invoke/MethodHandle" ∧ y_SD_init.cls ≠ "java/lang/invoke/VarHandle" ∧ (parseMethodDescriptor y_SD_init.desc).map (fun d => d.parameters.length) = some 1 := by decide +kernel
set_option maxHeartbeats 4000000 in
set_option maxRecDepth 100000 in
theorem c_SD_init {l : Launch} {E : State → Heap → Prop} {D : va_G} {A : Nat → Prop} {cI cZ cJ : ClassId} (hE : stb A E) {b : Nat} {rest : va_W} {p0 : Int32} : cmg l E D clsA (TY cI cZ cJ) A GG y_SD_init b_SD_init 4 none rm_SD_init [.ref b, .int p0] ((b, .inr (0, [.null, .null, .null, .null, .null, .null, .int 0])) :: rest) none (fun ws' => ∃ q0 q1 q2 q3 q4 q5 q6 q7 q8 q9 q10 q11 q12 q13 q14 q15 q16 q17 q18 q19 : Nat, ws' = (q19, .inl (cZ, 30, .inl (fun _ => 0))) :: (q18, .inl (cZ, 30, .inl (fun _ => 0))) :: (q17, .inl (cI, 30, .inl (fun _ => 0))) :: (q16, .inl (cI, 30, .inl (fun _ => 0))) :: (q15, .inl (cI, 30, .inl (fun _ => 0))) :: (q14, .inr (1, [.int (-1), .int 0, .int 0, .int 0, .ref q15, .ref q16, .ref q17, .ref q18, .ref q19])) :: (q13, .inr (3, [.long p0.toInt64])) :: (q12, .inl (cZ, 6, .inl (fun _ => 0))) :: (q11, .inl (cI, 6, .inl (fun _ => 0))) :: (q10, .inl (cI, 36, .inl (fun _ => 0))) :: (q9, .inr (4, [.ref q0, .ref q6, .ref q10, .ref q11, .ref q12, .int 0])) :: (q8, .inr (3, [.long p0.toInt64])) :: (q7, .inl (cZ, 30, .inl (fun _ => 0))) :: (q6, .inr (2, [.ref q0, .ref q7])) :: (q5, .inl (cZ, 30, .inl (fun _ => 0))) :: (q4, .inl (cZ, 30, .inl (fun _ => 0))) :: (q3, .inl (cI, 30, .inl (fun _ => 0))) :: (q2, .inl (cI, 30, .inl (fun _ => 0))) :: (q1, .inl (cI, 30, .inl (fun _ => 0))) :: (q0, .inr (1, [.int (-1), .int 0, .int 0, .int 0, .ref q1, .ref q2, .ref q3, .ref q4, .ref q5])) :: (b, .inr (0, [.ref q8, .ref q0, .ref q6, .ref q9, .ref q13, .ref q14, .int 0])) :: rest) := by
  have _ := hE
  refine r_metg (own := R_SD) rfl (by decide) (Nat.le_of_ble_eq_true rfl) rfl ?_
  intro p e sg m args below meth c C hr hnm hX
  refine r_aload_n (pc := 0) C d_SD_init_0 rfl 0 rfl ?_
  refine r_objInit (pc := 1) C mc_26 mc_1 mc_2 ⟨(Nat.le_of_ble_eq_true rfl), (Nat.le_of_ble_eq_true rfl)⟩ d_SD_init_1 ?_
  refine r_newF (pc := 4) (ci := 1) (fs := [.int 0, .int 0, .int 0, .int 0, .null, .null, .null, .null, .null]) C hin_Dr t_Dr t_Dr_ok mc_27 mc_28 mc_29 rfl (by decide) (Nat.le_of_ble_eq_true rfl) (Nat.le_of_ble_eq_true rfl) d_SD_init_4 (fun q0 => ?_)
  refine r_dup (pc := 7) C d_SD_init_7 rfl ?_
  refine r_callG (pc := 8) (As := []) (rest := [.ref q0]) hE gg_good C hX (c_Dr_init hE) rfl mc_30 mc_31 mc_29 mc_32 hd_Dr_init ⟨⟨(Nat.le_of_ble_eq_true rfl), (Nat.le_of_ble_eq_true rfl)⟩, (Nat.le_of_ble_eq_true rfl), (Nat.le_of_ble_eq_true rfl)⟩ (Nat.le_of_ble_eq_true rfl) rfl d_SD_init_8 ?_
  rintro _ ⟨q1, q2, q3, q4, q5, rfl⟩
  refine r_astore_n (pc := 11) (lv' := [(2, .ref q0), (0, .ref b), (1, .int p0)]) C d_SD_init_11 rfl (by decide) rfl ?_
  refine r_newF (pc := 12) (ci := 2) (fs := [.null, .null]) C hin_Re t_Re t_Re_ok mc_33 mc_34 mc_35 rfl (by decide) (Nat.le_of_ble_eq_true rfl) (Nat.le_of_ble_eq_true rfl) d_SD_init_12 (fun q6 => ?_)
  refine r_dup (pc := 15) C d_SD_init_15 rfl ?_
  refine r_aload_n (pc := 16) C d_SD_init_16 rfl 0 rfl ?_
  refine r_callG (pc := 17) (As := [.ref q0]) (rest := [.ref q6]) hE gg_good C hX (c_Re_init hE) rfl mc_36 mc_37 mc_35 mc_38 hd_Re_init ⟨⟨(Nat.le_of_ble_eq_true rfl), (Nat.le_of_ble_eq_true rfl)⟩, (Nat.le_of_ble_eq_true rfl), (Nat.le_of_ble_eq_true rfl)⟩ (Nat.le_of_ble_eq_true rfl) rfl d_SD_init_17 ?_
  rintro _ ⟨q7, rfl⟩
  refine r_astore_n (pc := 20) (lv' := [(3, .ref q6), (2, .ref q0), (0, .ref b), (1, .int p0)]) C d_SD_init_20 rfl (by decide) rfl ?_
  refine r_aload_n (pc := 21) C d_SD_init_21 rfl 2 rfl ?_
  refine r_newF (pc := 22) (ci := 3) (fs := [.long 0]) C hin_So t_So t_So_ok mc_39 mc_40 mc_41 rfl (by decide) (Nat.le_of_ble_eq_true rfl) (Nat.le_of_ble_eq_true rfl) d_SD_init_22 (fun q8 => ?_)
  refine r_dup (pc := 25) C d_SD_init_25 rfl ?_
  refine r_iload_n (pc := 26) C d_SD_init_26 rfl 3 rfl ?_
  refine r_i2l (pc := 27) C d_SD_init_27 ?_
  refine r_callG (pc := 28) (As := [.long p0.toInt64]) (rest := [.ref q8, .ref b]) hE gg_good C hX (c_So_init hE) rfl mc_42 mc_43 mc_41 mc_44 hd_So_init ⟨⟨(Nat.le_of_ble_eq_true rfl), (Nat.le_of_ble_eq_true rfl)⟩, (Nat.le_of_ble_eq_true rfl), (Nat.le_of_ble_eq_true rfl)⟩ (Nat.le_of_ble_eq_true rfl) rfl d_SD_init_28 ?_
  rintro _ rfl
  refine r_putF (pc := 31) (ty := t_SD 0) (ws' := (q8, .inr (3, [.long p0.toInt64])) :: (q7, .inl (cZ, 30, .inl (fun _ => 0))) :: (q6, .inr (2, [.ref q0, .ref q7])) :: (q5, .inl (cZ, 30, .inl (fun _ => 0))) :: (q4, .inl (cZ, 30, .inl (fun _ => 0))) :: (q3, .inl (cI, 30, .inl (fun _ => 0))) :: (q2, .inl (cI, 30, .inl (fun _ => 0))) :: (q1, .inl (cI, 30, .inl (fun _ => 0))) :: (q0, .inr (1, [.int (-1), .int 0, .int 0, .int 0, .ref q1, .ref q2, .ref q3, .ref q4, .ref q5])) :: (b, .inr (0, [.ref q8, .null, .null, .null, .null, .null, .int 0])) :: rest) C hin_SD t_SD t_SD_ok n_SD 9 rfl rfl 0 (by decide) mc_45 rfl rfl hnm rfl (t_SD_ok 0 (by decide)) rfl rfl (Nat.le_of_ble_eq_true rfl) rfl d_SD_init_31 ?_
  refine r_aload_n (pc := 34) C d_SD_init_34 rfl 2 rfl ?_
  refine r_aload_n (pc := 35) C d_SD_init_35 rfl 1 rfl ?_
  refine r_putF (pc := 36) (ty := t_SD 1) (ws' := (q8, .inr (3, [.long p0.toInt64])) :: (q7, .inl (cZ, 30, .inl (fun _ => 0))) :: (q6, .inr (2, [.ref q0, .ref q7])) :: (q5, .inl (cZ, 30, .inl (fun _ => 0))) :: (q4, .inl (cZ, 30, .inl (fun _ => 0))) :: (q3, .inl (cI, 30, .inl (fun _ => 0))) :: (q2, .inl (cI, 30, .inl (fun _ => 0))) :: (q1, .inl (cI, 30, .inl (fun _ => 0))) :: (q0, .inr (1, [.int (-1), .int 0, .int 0, .int 0, .ref q1, .ref q2, .ref q3, .ref q4, .ref q5])) :: (b, .inr (0, [.ref q8, .ref q0, .null, .null, .null, .null, .int 0])) :: rest) C hin_SD t_SD t_SD_ok n_SD 9 rfl rfl 1 (by decide) mc_46 rfl rfl hnm rfl (t_SD_ok 1 (by decide)) rfl rfl (Nat.le_of_ble_eq_true rfl) rfl d_SD_init_36 ?_
  refine r_aload_n (pc := 39) C d_SD_init_39 rfl 2 rfl ?_
  refine r_aload_n (pc := 40) C d_SD_init_40 rfl 0 rfl ?_
  refine r_putF (pc := 41) (ty := t_SD 2) (ws' := (q8, .inr (3, [.long p0.toInt64])) :: (q7, .inl (cZ, 30, .inl (fun _ => 0))) :: (q6, .inr (2, [.ref q0, .ref q7])) :: (q5, .inl (cZ, 30, .inl (fun _ => 0))) :: (q4, .inl (cZ, 30, .inl (fun _ => 0))) :: (q3, .inl (cI, 30, .inl (fun _ => 0))) :: (q2, .inl (cI, 30, .inl (fun _ => 0))) :: (q1, .inl (cI, 30, .inl (fun _ => 0))) :: (q0, .inr (1, [.int (-1), .int 0, .int 0, .int 0, .ref q1, .ref q2, .ref q3, .ref q4, .ref q5])) :: (b, .inr (0, [.ref q8, .ref q0, .ref q6, .null, .null, .null, .int 0])) :: rest) C hin_SD t_SD t_SD_ok n_SD 9 rfl rfl 2 (by decide) mc_47 rfl rfl hnm rfl (t_SD_ok 2 (by decide)) rfl rfl (Nat.le_of_ble_eq_true rfl) rfl d_SD_init_41 ?_
  refine r_aload_n (pc := 44) C d_SD_init_44 rfl 2 rfl ?_
  refine r_newF (pc := 45) (ci := 4) (fs := [.null, .null, .null, .null, .null, .int 0]) C hin_St t_St t_St_ok mc_48 mc_49 mc_50 rfl (by decide) (Nat.le_of_ble_eq_true rfl) (Nat.le_of_ble_eq_true rfl) d_SD_init_45 (fun q9 => ?_)
  refine r_dup (pc := 48) C d_SD_init_48 rfl ?_
  refine r_aload_n (pc := 49) C d_SD_init_49 rfl 1 rfl ?_
  refine r_aload_n (pc := 50) C d_SD_init_50 rfl 0 rfl ?_
  refine r_callG (pc := 51) (As := [.ref q0, .ref q6]) (rest := [.ref q9, .ref b]) hE gg_good C hX (c_St_init hE) rfl mc_51 mc_52 mc_50 mc_53 hd_St_init ⟨⟨(Nat.le_of_ble_eq_true rfl), (Nat.le_of_ble_eq_true rfl)⟩, (Nat.le_of_ble_eq_true rfl), (Nat.le_of_ble_eq_true rfl)⟩ (Nat.le_of_ble_eq_true rfl) rfl d_SD_init_51 ?_
  rintro _ ⟨q10, q11, q12, rfl⟩
  refine r_putF (pc := 54) (ty := t_SD 3) (ws' := (q12, .inl (cZ, 6, .inl (fun _ => 0))) :: (q11, .inl (cI, 6, .inl (fun _ => 0))) :: (q10, .inl (cI, 36, .inl (fun _ => 0))) :: (q9, .inr (4, [.ref q0, .ref q6, .ref q10, .ref q11, .ref q12, .int 0])) :: (q8, .inr (3, [.long p0.toInt64])) :: (q7, .inl (cZ, 30, .inl (fun _ => 0))) :: (q6, .inr (2, [.ref q0, .ref q7])) :: (q5, .inl (cZ, 30, .inl (fun _ => 0))) :: (q4, .inl (cZ, 30, .inl (fun _ => 0))) :: (q3, .inl (cI, 30, .inl (fun _ => 0))) :: (q2, .inl (cI, 30, .inl (fun _ => 0))) :: (q1, .inl (cI, 30, .inl (fun _ => 0))) :: (q0, .inr (1, [.int (-1), .int 0, .int 0, .int 0, .ref q1, .ref q2, .ref q3, .ref q4, .ref q5])) :: (b, .inr (0, [.ref q8, .ref q0, .ref q6, .ref q9, .null, .null, .int 0])) :: rest) C hin_SD t_SD t_SD_ok n_SD 13 rfl rfl 3 (by decide) mc_54 rfl rfl hnm rfl (t_SD_ok 3 (by decide)) rfl rfl (Nat.le_of_ble_eq_true rfl) rfl d_SD_init_54 ?_
  refine r_aload_n (pc := 57) C d_SD_init_57 rfl 2 rfl ?_
  refine r_newF (pc := 58) (ci := 3) (fs := [.long 0]) C hin_So t_So t_So_ok mc_39 mc_40 mc_41 rfl (by decide) (Nat.le_of_ble_eq_true rfl) (Nat.le_of_ble_eq_true rfl) d_SD_init_58 (fun q13 => ?_)
  refine r_dup (pc := 61) C d_SD_init_61 rfl ?_
  refine r_iload_n (pc := 62) C d_SD_init_62 rfl 3 rfl ?_
  refine r_i2l (pc := 63) C d_SD_init_63 ?_
  refine r_callG (pc := 64) (As := [.long p0.toInt64]) (rest := [.ref q13, .ref b]) hE gg_good C hX (c_So_init hE) rfl mc_42 mc_43 mc_41 mc_44 hd_So_init ⟨⟨(Nat.le_of_ble_eq_true rfl), (Nat.le_of_ble_eq_true rfl)⟩, (Nat.le_of_ble_eq_true rfl), (Nat.le_of_ble_eq_true rfl)⟩ (Nat.le_of_ble_eq_true rfl) rfl d_SD_init_64 ?_
  rintro _ rfl
  refine r_putF (pc := 67) (ty := t_SD 4) (ws' := (q13, .inr (3, [.long p0.toInt64])) :: (q12, .inl (cZ, 6, .inl (fun _ => 0))) :: (q11, .inl (cI, 6, .inl (fun _ => 0))) :: (q10, .inl (cI, 36, .inl (fun _ => 0))) :: (q9, .inr (4, [.ref q0, .ref q6, .ref q10, .ref q11, .ref q12, .int 0])) :: (q8, .inr (3, [.long p0.toInt64])) :: (q7, .inl (cZ, 30, .inl (fun _ => 0))) :: (q6, .inr (2, [.ref q0, .ref q7])) :: (q5, .inl (cZ, 30, .inl (fun _ => 0))) :: (q4, .inl (cZ, 30, .inl (fun _ => 0))) :: (q3, .inl (cI, 30, .inl (fun _ => 0))) :: (q2, .inl (cI, 30, .inl (fun _ => 0))) :: (q1, .inl (cI, 30, .inl (fun _ => 0))) :: (q0, .inr (1, [.int (-1), .int 0, .int 0, .int 0, .ref q1, .ref q2, .ref q3, .ref q4, .ref q5])) :: (b, .inr (0, [.ref q8, .ref q0, .ref q6, .ref q9, .ref q13, .null, .int 0])) :: rest) C hin_SD t_SD t_SD_ok n_SD 14 rfl rfl 4 (by decide) mc_55 rfl rfl hnm rfl (t_SD_ok 4 (by decide)) rfl rfl (Nat.le_of_ble_eq_true rfl) rfl d_SD_init_67 ?_
  refine r_aload_n (pc := 70) C d_SD_init_70 rfl 2 rfl ?_
  refine r_newF (pc := 71) (ci := 1) (fs := [.int 0, .int 0, .int 0, .int 0, .null, .null, .null, .null, .null]) C hin_Dr t_Dr t_Dr_ok mc_27 mc_28 mc_29 rfl (by decide) (Nat.le_of_ble_eq_true rfl) (Nat.le_of_ble_eq_true rfl) d_SD_init_71 (fun q14 => ?_)
  refine r_dup (pc := 74) C d_SD_init_74 rfl ?_
  refine r_callG (pc := 75) (As := []) (rest := [.ref q14, .ref b]) hE gg_good C hX (c_Dr_init hE) rfl mc_30 mc_31 mc_29 mc_32 hd_Dr_init ⟨⟨(Nat.le_of_ble_eq_true rfl), (Nat.le_of_ble_eq_true rfl)⟩, (Nat.le_of_ble_eq_true rfl), (Nat.le_of_ble_eq_true rfl)⟩ (Nat.le_of_ble_eq_true rfl) rfl d_SD_init_75 ?_
  rintro _ ⟨q15, q16, q17, q18, q19, rfl⟩
  refine r_putF (pc := 78) (ty := t_SD 5) (ws' := (q19, .inl (cZ, 30, .inl (fun _ => 0))) :: (q18, .inl (cZ, 30, .inl (fun _ => 0))) :: (q17, .inl (cI, 30, .inl (fun _ => 0))) :: (q16, .inl (cI, 30, .inl (fun _ => 0))) :: (q15, .inl (cI, 30, .inl (fun _ => 0))) :: (q14, .inr (1, [.int (-1), .int 0, .int 0, .int 0, .ref q15, .ref q16, .ref q17, .ref q18, .ref q19])) :: (q13, .inr (3, [.long p0.toInt64])) :: (q12, .inl (cZ, 6, .inl (fun _ => 0))) :: (q11, .inl (cI, 6, .inl (fun _ => 0))) :: (q10, .inl (cI, 36, .inl (fun _ => 0))) :: (q9, .inr (4, [.ref q0, .ref q6, .ref q10, .ref q11, .ref q12, .int 0])) :: (q8, .inr (3, [.long p0.toInt64])) :: (q7, .inl (cZ, 30, .inl (fun _ => 0))) :: (q6, .inr (2, [.ref q0, .ref q7])) :: (q5, .inl (cZ, 30, .inl (fun _ => 0))) :: (q4, .inl (cZ, 30, .inl (fun _ => 0))) :: (q3, .inl (cI, 30, .inl (fun _ => 0))) :: (q2, .inl (cI, 30, .inl (fun _ => 0))) :: (q1, .inl (cI, 30, .inl (fun _ => 0))) :: (q0, .inr (1, [.int (-1), .int 0, .int 0, .int 0, .ref q1, .ref q2, .ref q3, .ref q4, .ref q5])) :: (b, .inr (0, [.ref q8, .ref q0, .ref q6, .ref q9, .ref q13, .ref q14, .int 0])) :: rest) C hin_SD t_SD t_SD_ok n_SD 20 rfl rfl 5 (by decide) mc_56 rfl rfl hnm rfl (t_SD_ok 5 (by decide)) rfl rfl (Nat.le_of_ble_eq_true rfl) rfl d_SD_init_78 ?_
  refine r_aload_n (pc := 81) C d_SD_init_81 rfl 2 rfl ?_
  refine r_iconst (pc := 82) (v := 0) C d_SD_init_82 (by decide) ?_
  refine r_put (pc := 83) (ty := t_SD 6) (ws' := (q19, .inl (cZ, 30, .inl (fun _ => 0))) :: (q18, .inl (cZ, 30, .inl (fun _ => 0))) :: (q17, .inl (cI, 30, .inl (fun _ => 0))) :: (q16, .inl (cI, 30, .inl (fun _ => 0))) :: (q15, .inl (cI, 30, .inl (fun _ => 0))) :: (q14, .inr (1, [.int (-1), .int 0, .int 0, .int 0, .ref q15, .ref q16, .ref q17, .ref q18, .ref q19])) :: (q13, .inr (3, [.long p0.toInt64])) :: (q12, .inl (cZ, 6, .inl (fun _ => 0))) :: (q11, .inl (cI, 6, .inl (fun _ => 0))) :: (q10, .inl (cI, 36, .inl (fun _ => 0))) :: (q9, .inr (4, [.ref q0, .ref q6, .ref q10, .ref q11, .ref q12, .int 0])) :: (q8, .inr (3, [.long p0.toInt64])) :: (q7, .inl (cZ, 30, .inl (fun _ => 0))) :: (q6, .inr (2, [.ref q0, .ref q7])) :: (q5, .inl (cZ, 30, .inl (fun _ => 0))) :: (q4, .inl (cZ, 30, .inl (fun _ => 0))) :: (q3, .inl (cI, 30, .inl (fun _ => 0))) :: (q2, .inl (cI, 30, .inl (fun _ => 0))) :: (q1, .inl (cI, 30, .inl (fun _ => 0))) :: (q0, .inr (1, [.int (-1), .int 0, .int 0, .int 0, .ref q1, .ref q2, .ref q3, .ref q4, .ref q5])) :: (b, .inr (0, [.ref q8, .ref q0, .ref q6, .ref q9, .ref q13, .ref q14, .int 0])) :: rest) C hin_SD t_SD t_SD_ok n_SD 20 rfl rfl 6 (by decide) mc_57 rfl rfl (t_SD_ok 6 (by decide)) rfl rfl (Nat.le_of_ble_eq_true rfl) rfl d_SD_init_83 ?_
  exact r_vretG (pc := 86) C hr ⟨q0, q1, q2, q3, q4, q5, q6, q7, q8, q9, q10, q11, q12, q13, q14, q15, q16, q17, q18, q19, rfl⟩ d_SD_init_86
abbrev rm_Mo_init : Room := { frames := 1, cells := 11, slots := 448, locals := 30 }
theorem hd_Mo_init : y_Mo_init.cls ≠ "java/lang/invoke/MethodHandle" ∧ y_Mo_init.cls ≠ "java/lang/invoke/VarHandle" ∧ (parseMethodDescriptor y_Mo_init.desc).map (fun d => d.parameters.length) = some 1 := by decide +kernel
set_option maxHeartbeats 4000000 in
set_option maxRecDepth 100000 in
theorem c_Mo_init {l : Launch} {E : State → Heap → Prop} {D : va_G} {A : Nat → Prop} {cI cZ cJ : ClassId} (hE : stb A E) {b : Nat} {rest : va_W} {p0 : Int32} : cmg l E D clsA (TY cI cZ cJ) A GG y_Mo_init b_Mo_init 2 none rm_Mo_init [.ref b, .int p0] ((b, .inr (5, [.int 0, .long 0, .int 0, .int 0, .int 0, .null, .int 0, .null, .int 0, .null, .int 0, .null, .null, .null, .null, .null, .int 0, .null, .null, .null])) :: rest) none (fun ws' => ∃ q0 q1 q2 q3 q4 q5 q6 q7 q8 q9 q10 : Nat, ws' = (q10, .inl (cI, 8, .inl (fun _ => 0))) :: (q9, .inl (cI, 64, .inl (fun _ => 0))) :: (q8, .inl (cI, 200, .inl (fun _ => 0))) :: (q7, .inl (cZ, 24, .inl (fun _ => 0))) :: (q6, .inl (cZ, 24, .inl (fun _ => 0))) :: (q5, .inl (cI, 24, .inl (fun _ => 0))) :: (q4, .inl (cI, 24, .inl (fun _ => 0))) :: (q3, .inl (cI, 24, .inl (fun _ => 0))) :: (q2, .inl (cI, 8, .inl (fun _ => 0))) :: (q1, .inl (cI, 8, .inl (fun _ => 0))) :: (q0, .inl (cZ, 40, .inl (fun _ => 0))) :: (b, .inr (5, [.int 0, .long p0.toInt64, .int (-1), .int 0, .int 0, .ref q0, .int 0, .ref q1, .int 0, .ref q2, .int 0, .ref q3, .ref q4, .ref q5, .ref q6, .ref q7, .int 0, .ref q8, .ref q9, .ref q10])) :: rest) := by
  have _ := hE
  refine r_metg (own := R_Mo) rfl (by decide) (Nat.le_of_ble_eq_true rfl) rfl ?_
  intro p e sg m args below meth c C hr hnm hX
  refine r_aload_n (pc := 0) C d_Mo_init_0 rfl 0 rfl ?_
  refine r_objInit (pc := 1) C mc_58 mc_1 mc_2 ⟨(Nat.le_of_ble_eq_true rfl), (Nat.le_of_ble_eq_true rfl)⟩ d_Mo_init_1 ?_
  refine r_aload_n (pc := 4) C d_Mo_init_4 rfl 0 rfl ?_
  refine r_iconst (pc := 5) (v := (-1)) C d_Mo_init_5 (by decide) ?_
  refine r_put (pc := 6) (ty := t_Mo 2) (ws' := (b, .inr (5, [.int 0, .long 0, .int (-1), .int 0, .int 0, .null, .int 0, .null, .int 0, .null, .int 0, .null, .null, .null, .null, .null, .int 0, .null, .null, .null])) :: rest) C hin_Mo t_Mo t_Mo_ok n_Mo 0 rfl rfl 2 (by decide) mc_59 rfl rfl (t_Mo_ok 2 (by decide)) rfl rfl (Nat.le_of_ble_eq_true rfl) rfl d_Mo_init_6 ?_
  refine r_aload_n (pc := 9) C d_Mo_init_9 rfl 0 rfl ?_
  refine r_bipush (pc := 10) (v := 40) C d_Mo_init_10 (by decide) ?_
  refine r_newaF (pc := 12) (atype := .boolean) (ty := .boolean) (N' := 40) (a0 := (40, .inl (fun _ => 0))) C mc_13 rfl 1 rfl (fun _ _ h => h) (fun _ => rfl) (by decide) rfl (Nat.le_of_ble_eq_true rfl) (Nat.le_of_ble_eq_true rfl) (Nat.le_of_ble_eq_true rfl) d_Mo_init_12 (fun q0 => ?_)
  refine r_putF (pc := 14) (ty := t_Mo 5) (ws' := (q0, .inl (cZ, 40, .inl (fun _ => 0))) :: (b, .inr (5, [.int 0, .long 0, .int (-1), .int 0, .int 0, .ref q0, .int 0, .null, .int 0, .null, .int 0, .null, .null, .null, .null, .null, .int 0, .null, .null, .null])) :: rest) C hin_Mo t_Mo t_Mo_ok n_Mo 1 rfl rfl 5 (by decide) mc_60 rfl rfl hnm rfl (t_Mo_ok 5 (by decide)) rfl rfl (Nat.le_of_ble_eq_true rfl) rfl d_Mo_init_14 ?_
  refine r_aload_n (pc := 17) C d_Mo_init_17 rfl 0 rfl ?_
  refine r_bipush (pc := 18) (v := 8) C d_Mo_init_18 (by decide) ?_
  refine r_newaF (pc := 20) (atype := .int) (ty := .int) (N' := 8) (a0 := (8, .inl (fun _ => 0))) C mc_9 rfl 0 rfl (fun _ _ h => h) (fun _ => rfl) (by decide) rfl (Nat.le_of_ble_eq_true rfl) (Nat.le_of_ble_eq_true rfl) (Nat.le_of_ble_eq_true rfl) d_Mo_init_20 (fun q1 => ?_)
  refine r_putF (pc := 22) (ty := t_Mo 7) (ws' := (q1, .inl (cI, 8, .inl (fun _ => 0))) :: (q0, .inl (cZ, 40, .inl (fun _ => 0))) :: (b, .inr (5, [.int 0, .long 0, .int (-1), .int 0, .int 0, .ref q0, .int 0, .ref q1, .int 0, .null, .int 0, .null, .null, .null, .null, .null, .int 0, .null, .null, .null])) :: rest) C hin_Mo t_Mo t_Mo_ok n_Mo 2 rfl rfl 7 (by decide) mc_61 rfl rfl hnm rfl (t_Mo_ok 7 (by decide)) rfl rfl (Nat.le_of_ble_eq_true rfl) rfl d_Mo_init_22 ?_
  refine r_aload_n (pc := 25) C d_Mo_init_25 rfl 0 rfl ?_
  refine r_bipush (pc := 26) (v := 8) C d_Mo_init_26 (by decide) ?_
  refine r_newaF (pc := 28) (atype := .int) (ty := .int) (N' := 8) (a0 := (8, .inl (fun _ => 0))) C mc_9 rfl 0 rfl (fun _ _ h => h) (fun _ => rfl) (by decide) rfl (Nat.le_of_ble_eq_true rfl) (Nat.le_of_ble_eq_true rfl) (Nat.le_of_ble_eq_true rfl) d_Mo_init_28 (fun q2 => ?_)
  refine r_putF (pc := 30) (ty := t_Mo 9) (ws' := (q2, .inl (cI, 8, .inl (fun _ => 0))) :: (q1, .inl (cI, 8, .inl (fun _ => 0))) :: (q0, .inl (cZ, 40, .inl (fun _ => 0))) :: (b, .inr (5, [.int 0, .long 0, .int (-1), .int 0, .int 0, .ref q0, .int 0, .ref q1, .int 0, .ref q2, .int 0, .null, .null, .null, .null, .null, .int 0, .null, .null, .null])) :: rest) C hin_Mo t_Mo t_Mo_ok n_Mo 3 rfl rfl 9 (by decide) mc_62 rfl rfl hnm rfl (t_Mo_ok 9 (by decide)) rfl rfl (Nat.le_of_ble_eq_true rfl) rfl d_Mo_init_30 ?_
  refine r_aload_n (pc := 33) C d_Mo_init_33 rfl 0 rfl ?_
  refine r_bipush (pc := 34) (v := 24) C d_Mo_init_34 (by decide) ?_
  refine r_newaF (pc := 36) (atype := .int) (ty := .int) (N' := 24) (a0 := (24, .inl (fun _ => 0))) C mc_9 rfl 0 rfl (fun _ _ h => h) (fun _ => rfl) (by decide) rfl (Nat.le_of_ble_eq_true rfl) (Nat.le_of_ble_eq_true rfl) (Nat.le_of_ble_eq_true rfl) d_Mo_init_36 (fun q3 => ?_)
  refine r_putF (pc := 38) (ty := t_Mo 11) (ws' := (q3, .inl (cI, 24, .inl (fun _ => 0))) :: (q2, .inl (cI, 8, .inl (fun _ => 0))) :: (q1, .inl (cI, 8, .inl (fun _ => 0))) :: (q0, .inl (cZ, 40, .inl (fun _ => 0))) :: (b, .inr (5, [.int 0, .long 0, .int (-1), .int 0, .int 0, .ref q0, .int 0, .ref q1, .int 0, .ref q2, .int 0, .ref q3, .null, .null, .null, .null, .int 0, .null, .null, .null])) :: rest) C hin_Mo t_Mo t_Mo_ok n_Mo 4 rfl rfl 11 (by decide) mc_63 rfl rfl hnm rfl (t_Mo_ok 11 (by decide)) rfl rfl (Nat.le_of_ble_eq_true rfl) rfl d_Mo_init_38 ?_
  refine r_aload_n (pc := 41) C d_Mo_init_41 rfl 0 rfl ?_
  refine r_bipush (pc := 42) (v := 24) C d_Mo_init_42 (by decide) ?_
  refine r_newaF (pc := 44) (atype := .int) (ty := .int) (N' := 24) (a0 := (24, .inl (fun _ => 0))) C mc_9 rfl 0 rfl (fun _ _ h => h) (fun _ => rfl) (by decide) rfl (Nat.le_of_ble_eq_true rfl) (Nat.le_of_ble_eq_true rfl) (Nat.le_of_ble_eq_true rfl) d_Mo_init_44 (fun q4 => ?_)
  refine r_putF (pc := 46) (ty := t_Mo 12) (ws' := (q4, .inl (cI, 24, .inl (fun _ => 0))) :: (q3, .inl (cI, 24, .inl (fun _ => 0))) :: (q2, .inl (cI, 8, .inl (fun _ => 0))) :: (q1, .inl (cI, 8, .inl (fun _ => 0))) :: (q0, .inl (cZ, 40, .inl (fun _ => 0))) :: (b, .inr (5, [.int 0, .long 0, .int (-1), .int 0, .int 0, .ref q0, .int 0, .ref q1, .int 0, .ref q2, .int 0, .ref q3, .ref q4, .null, .null, .null, .int 0, .null, .null, .null])) :: rest) C hin_Mo t_Mo t_Mo_ok n_Mo 5 rfl rfl 12 (by decide) mc_64 rfl rfl hnm rfl (t_Mo_ok 12 (by decide)) rfl rfl (Nat.le_of_ble_eq_true rfl) rfl d_Mo_init_46 ?_
  refine r_aload_n (pc := 49) C d_Mo_init_49 rfl 0 rfl ?_
  refine r_bipush (pc := 50) (v := 24) C d_Mo_init_50 (by decide) ?_
  refine r_newaF (pc := 52) (atype := .int) (ty := .int) (N' := 24) (a0 := (24, .inl (fun _ => 0))) C mc_9 rfl 0 rfl (fun _ _ h => h) (fun _ => rfl) (by decide) rfl (Nat.le_of_ble_eq_true rfl) (Nat.le_of_ble_eq_true rfl) (Nat.le_of_ble_eq_true rfl) d_Mo_init_52 (fun q5 => ?_)
  refine r_putF (pc := 54) (ty := t_Mo 13) (ws' := (q5, .inl (cI, 24, .inl (fun _ => 0))) :: (q4, .inl (cI, 24, .inl (fun _ => 0))) :: (q3, .inl (cI, 24, .inl (fun _ => 0))) :: (q2, .inl (cI, 8, .inl (fun _ => 0))) :: (q1, .inl (cI, 8, .inl (fun _ => 0))) :: (q0, .inl (cZ, 40, .inl (fun _ => 0))) :: (b, .inr (5, [.int 0, .long 0, .int (-1), .int 0, .int 0, .ref q0, .int 0, .ref q1, .int 0, .ref q2, .int 0, .ref q3, .ref q4, .ref q5, .null, .null, .int 0, .null, .null, .null])) :: rest) C hin_Mo t_Mo t_Mo_ok n_Mo 6 rfl rfl 13 (by decide) mc_65 rfl rfl hnm rfl (t_Mo_ok 13 (by decide)) rfl rfl (Nat.le_of_ble_eq_true rfl) rfl d_Mo_init_54 ?_
  refine r_aload_n (pc := 57) C d_Mo_init_57 rfl 0 rfl ?_
  refine r_bipush (pc := 58) (v := 24) C d_Mo_init_58 (by decide) ?_
  refine r_newaF (pc := 60) (atype := .boolean) (ty := .boolean) (N' := 24) (a0 := (24, .inl (fun _ => 0))) C mc_13 rfl 1 rfl (fun _ _ h => h) (fun _ => rfl) (by decide) rfl (Nat.le_of_ble_eq_true rfl) (Nat.le_of_ble_eq_true rfl) (Nat.le_of_ble_eq_true rfl) d_Mo_init_60 (fun q6 => ?_)
  refine r_putF (pc := 62) (ty := t_Mo 14) (ws' := (q6, .inl (cZ, 24, .inl (fun _ => 0))) :: (q5, .inl (cI, 24, .inl (fun _ => 0))) :: (q4, .inl (cI, 24, .inl (fun _ => 0))) :: (q3, .inl (cI, 24, .inl (fun _ => 0))) :: (q2, .inl (cI, 8, .inl (fun _ => 0))) :: (q1, .inl (cI, 8, .inl (fun _ => 0))) :: (q0, .inl (cZ, 40, .inl (fun _ => 0))) :: (b, .inr (5, [.int 0, .long 0, .int (-1), .int 0, .int 0, .ref q0, .int 0, .ref q1, .int 0, .ref q2, .int 0, .ref q3, .ref q4, .ref q5, .ref q6, .null, .int 0, .null, .null, .null])) :: rest) C hin_Mo t_Mo t_Mo_ok n_Mo 7 rfl rfl 14 (by decide) mc_66 rfl rfl hnm rfl (t_Mo_ok 14 (by decide)) rfl rfl (Nat.le_of_ble_eq_true rfl) rfl d_Mo_init_62 ?_
  refine r_aload_n (pc := 65) C d_Mo_init_65 rfl 0 rfl ?_
  refine r_bipush (pc := 66) (v := 24) C d_Mo_init_66 (by decide) ?_
  refine r_newaF (pc := 68) (atype := .boolean) (ty := .boolean) (N' := 24) (a0 := (24, .inl (fun _ => 0))) C mc_13 rfl 1 rfl (fun _ _ h => h) (fun _ => rfl) (by decide) rfl (Nat.le_of_ble_eq_true rfl) (Nat.le_of_ble_eq_true rfl) (Nat.le_of_ble_eq_true rfl) d_Mo_init_68 (fun q7 => ?_)
  refine r_putF (pc := 70) (ty := t_Mo 15) (ws' := (q7, .inl (cZ, 24, .inl (fun _ => 0))) :: (q6, .inl (cZ, 24, .inl (fun _ => 0))) :: (q5, .inl (cI, 24, .inl (fun _ => 0))) :: (q4, .inl (cI, 24, .inl (fun _ => 0))) :: (q3, .inl (cI, 24, .inl (fun _ => 0))) :: (q2, .inl (cI, 8, .inl (fun _ => 0))) :: (q1, .inl (cI, 8, .inl (fun _ => 0))) :: (q0, .inl (cZ, 40, .inl (fun _ => 0))) :: (b, .inr (5, [.int 0, .long 0, .int (-1), .int 0, .int 0, .ref q0, .int 0, .ref q1, .int 0, .ref q2, .int 0, .ref q3, .ref q4, .ref q5, .ref q6, .ref q7, .int 0, .null, .null, .null])) :: rest) C hin_Mo t_Mo t_Mo_ok n_Mo 8 rfl rfl 15 (by decide) mc_67 rfl rfl hnm rfl (t_Mo_ok 15 (by decide)) rfl rfl (Nat.le_of_ble_eq_true rfl) rfl d_Mo_init_70 ?_
  refine r_aload_n (pc := 73) C d_Mo_init_73 rfl 0 rfl ?_
  refine r_sipush (pc := 74) (v := 200) C d_Mo_init_74 (by decide) ?_
  refine r_newaF (pc := 77) (atype := .int) (ty := .int) (N' := 200) (a0 := (200, .inl (fun _ => 0))) C mc_9 rfl 0 rfl (fun _ _ h => h) (fun _ => rfl) (by decide) rfl (Nat.le_of_ble_eq_true rfl) (Nat.le_of_ble_eq_true rfl) (Nat.le_of_ble_eq_true rfl) d_Mo_init_77 (fun q8 => ?_)
  refine r_putF (pc := 79) (ty := t_Mo 17) (ws' := (q8, .inl (cI, 200, .inl (fun _ => 0))) :: (q7, .inl (cZ, 24, .inl (fun _ => 0))) :: (q6, .inl (cZ, 24, .inl (fun _ => 0))) :: (q5, .inl (cI, 24, .inl (fun _ => 0))) :: (q4, .inl (cI, 24, .inl (fun _ => 0))) :: (q3, .inl (cI, 24, .inl (fun _ => 0))) :: (q2, .inl (cI, 8, .inl (fun _ => 0))) :: (q1, .inl (cI, 8, .inl (fun _ => 0))) :: (q0, .inl (cZ, 40, .inl (fun _ => 0))) :: (b, .inr (5, [.int 0, .long 0, .int (-1), .int 0, .int 0, .ref q0, .int 0, .ref q1, .int 0, .ref q2, .int 0, .ref q3, .ref q4, .ref q5, .ref q6, .ref q7, .int 0, .ref q8, .null, .null])) :: rest) C hin_Mo t_Mo t_Mo_ok n_Mo 9 rfl rfl 17 (by decide) mc_68 rfl rfl hnm rfl (t_Mo_ok 17 (by decide)) rfl rfl (Nat.le_of_ble_eq_true rfl) rfl d_Mo_init_79 ?_
  refine r_aload_n (pc := 82) C d_Mo_init_82 rfl 0 rfl ?_
  refine r_bipush (pc := 83) (v := 64) C d_Mo_init_83 (by decide) ?_
  refine r_newaF (pc := 85) (atype := .int) (ty := .int) (N' := 64) (a0 := (64, .inl (fun _ => 0))) C mc_9 rfl 0 rfl (fun _ _ h => h) (fun _ => rfl) (by decide) rfl (Nat.le_of_ble_eq_true rfl) (Nat.le_of_ble_eq_true rfl) (Nat.le_of_ble_eq_true rfl) d_Mo_init_85 (fun q9 => ?_)
  refine r_putF (pc := 87) (ty := t_Mo 18) (ws' := (q9, .inl (cI, 64, .inl (fun _ => 0))) :: (q8, .inl (cI, 200, .inl (fun _ => 0))) :: (q7, .inl (cZ, 24, .inl (fun _ => 0))) :: (q6, .inl (cZ, 24, .inl (fun _ => 0))) :: (q5, .inl (cI, 24, .inl (fun _ => 0))) :: (q4, .inl (cI, 24, .inl (fun _ => 0))) :: (q3, .inl (cI, 24, .inl (fun _ => 0))) :: (q2, .inl (cI, 8, .inl (fun _ => 0))) :: (q1, .inl (cI, 8, .inl (fun _ => 0))) :: (q0, .inl (cZ, 40, .inl (fun _ => 0))) :: (b, .inr (5, [.int 0, .long 0, .int (-1), .int 0, .int 0, .ref q0, .int 0, .ref q1, .int 0, .ref q2, .int 0, .ref q3, .ref q4, .ref q5, .ref q6, .ref q7, .int 0, .ref q8, .ref q9, .null])) :: rest) C hin_Mo t_Mo t_Mo_ok n_Mo 10 rfl rfl 18 (by decide) mc_69 rfl rfl hnm rfl (t_Mo_ok 18 (by decide)) rfl rfl (Nat.le_of_ble_eq_true rfl) rfl d_Mo_init_87 ?_
  refine r_aload_n (pc := 90) C d_Mo_init_90 rfl 0 rfl ?_
  refine r_bipush (pc := 91) (v := 8) C d_Mo_init_91 (by decide) ?_
  refine r_newaF (pc := 93) (atype := .int) (ty := .int) (N' := 8) (a0 := (8, .inl (fun _ => 0))) C mc_9 rfl 0 rfl (fun _ _ h => h) (fun _ => rfl) (by decide) rfl (Nat.le_of_ble_eq_true rfl) (Nat.le_of_ble_eq_true rfl) (Nat.le_of_ble_eq_true rfl) d_Mo_init_93 (fun q10 => ?_)
  refine r_putF (pc := 95) (ty := t_Mo 19) (ws' := (q10, .inl (cI, 8, .inl (fun _ => 0))) :: (q9, .inl (cI, 64, .inl (fun _ => 0))) :: (q8, .inl (cI, 200, .inl (fun _ => 0))) :: (q7, .inl (cZ, 24, .inl (fun _ => 0))) :: (q6, .inl (cZ, 24, .inl (fun _ => 0))) :: (q5, .inl (cI, 24, .inl (fun _ => 0))) :: (q4, .inl (cI, 24, .inl (fun _ => 0))) :: (q3, .inl (cI, 24, .inl (fun _ => 0))) :: (q2, .inl (cI, 8, .inl (fun _ => 0))) :: (q1, .inl (cI, 8, .inl (fun _ => 0))) :: (q0, .inl (cZ, 40, .inl (fun _ => 0))) :: (b, .inr (5, [.int 0, .long 0, .int (-1), .int 0, .int 0, .ref q0, .int 0, .ref q1, .int 0, .ref q2, .int 0, .ref q3, .ref q4, .ref q5, .ref q6, .ref q7, .int 0, .ref q8, .ref q9, .ref q10])) :: rest) C hin_Mo t_Mo t_Mo_ok n_Mo 11 rfl rfl 19 (by decide) mc_70 rfl rfl hnm rfl (t_Mo_ok 19 (by decide)) rfl rfl (Nat.le_of_ble_eq_true rfl) rfl d_Mo_init_95 ?_
  refine r_aload_n (pc := 98) C d_Mo_init_98 rfl 0 rfl ?_
  refine r_iload_n (pc := 99) C d_Mo_init_99 rfl 1 rfl ?_
  refine r_i2l (pc := 100) C d_Mo_init_100 ?_
  refine r_put (pc := 101) (ty := t_Mo 1) (ws' := (q10, .inl (cI, 8, .inl (fun _ => 0))) :: (q9, .inl (cI, 64, .inl (fun _ => 0))) :: (q8, .inl (cI, 200, .inl (fun _ => 0))) :: (q7, .inl (cZ, 24, .inl (fun _ => 0))) :: (q6, .inl (cZ, 24, .inl (fun _ => 0))) :: (q5, .inl (cI, 24, .inl (fun _ => 0))) :: (q4, .inl (cI, 24, .inl (fun _ => 0))) :: (q3, .inl (cI, 24, .inl (fun _ => 0))) :: (q2, .inl (cI, 8, .inl (fun _ => 0))) :: (q1, .inl (cI, 8, .inl (fun _ => 0))) :: (q0, .inl (cZ, 40, .inl (fun _ => 0))) :: (b, .inr (5, [.int 0, .long p0.toInt64, .int (-1), .int 0, .int 0, .ref q0, .int 0, .ref q1, .int 0, .ref q2, .int 0, .ref q3, .ref q4, .ref q5, .ref q6, .ref q7, .int 0, .ref q8, .ref q9, .ref q10])) :: rest) C hin_Mo t_Mo t_Mo_ok n_Mo 11 rfl rfl 1 (by decide) mc_71 rfl rfl (t_Mo_ok 1 (by decide)) rfl rfl (Nat.le_of_ble_eq_true rfl) rfl d_Mo_init_101 ?_
  exact r_vretG (pc := 104) C hr ⟨q0, q1, q2, q3, q4, q5, q6, q7, q8, q9, q10, rfl⟩ d_Mo_init_104
