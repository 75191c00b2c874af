abbrev b_La_cell : ByteArray := method_2_code
def y_La_cell : MethodName := ⟨R_La, "cell", "([II)I"⟩
theorem d_La_cell_0 : decode b_La_cell 0 = .ok (.iload_n 1, 1) := by decide +kernel
theorem d_La_cell_1 : decode b_La_cell 1 = .ok (.aload_n 0, 1) := by decide +kernel
theorem d_La_cell_2 : decode b_La_cell 2 = .ok (.arraylength, 1) := by decide +kernel
theorem d_La_cell_3 : decode b_La_cell 3 = .ok (.if_icmp .ge 9, 3) := by decide +kernel
theorem d_La_cell_6 : decode b_La_cell 6 = .ok (.aload_n 0, 1) := by decide +kernel
theorem d_La_cell_7 : decode b_La_cell 7 = .ok (.iload_n 1, 1) := by decide +kernel
theorem d_La_cell_8 : decode b_La_cell 8 = .ok (.iaload, 1) := by decide +kernel
theorem d_La_cell_9 : decode b_La_cell 9 = .ok (.goto 4, 3) := by decide +kernel
theorem d_La_cell_12 : decode b_La_cell 12 = .ok (.iconst 0, 1) := by decide +kernel
theorem d_La_cell_13 : decode b_La_cell 13 = .ok (.ireturn, 1) := by decide +kernel
theorem mst_0 : Cond.classLink R_La 8 R_SD ∈ GG := gin (mt_1 (List.mem_of_getElem? (i := 14) rfl)) rfl
theorem mst_1 : Cond.instantiable R_SD 7 ∈ GG := gin (mt_1 (List.mem_of_getElem? (i := 15) rfl)) rfl
theorem mst_2 : Cond.initialized R_SD ∈ GG := gin (mt_1 (List.mem_of_getElem? (i := 1) rfl)) rfl
theorem mst_3 : Cond.methodLink R_La 48 y_La_cell ∈ GG := gin (mt_2 (List.mem_of_getElem? (i := 60) rfl)) rfl
theorem mst_4 : Cond.static y_La_cell ∈ GG := gin (mt_2 (List.mem_of_getElem? (i := 61) rfl)) rfl
theorem mst_5 : Cond.initialized R_La ∈ GG := gin (mt_1 (List.mem_of_getElem? (i := 0) rfl)) rfl
theorem mst_6 : Cond.code y_La_cell b_La_cell 2 (some .int) ∈ GG := gin (mt_2 (List.mem_of_getElem? (i := 62) rfl)) rfl
theorem mst_7 : Cond.methodLink R_La 54 y_SD_init ∈ GG := gin (mt_1 (List.mem_of_getElem? (i := 16) rfl)) rfl
theorem mst_8 : Cond.instanceMethod y_SD_init ∈ GG := gin (mt_1 (List.mem_of_getElem? (i := 17) rfl)) rfl
theorem mst_9 : Cond.code y_SD_init b_SD_init 4 none ∈ GG := gin (mt_1 (List.mem_of_getElem? (i := 18) rfl)) rfl
theorem mst_10 : Cond.classLink R_La 57 R_Mo ∈ GG := gin (mt_3 (List.mem_of_getElem? (i := 68) rfl)) rfl
theorem mst_11 : Cond.instantiable R_Mo 20 ∈ GG := gin (mt_3 (List.mem_of_getElem? (i := 69) rfl)) rfl
theorem mst_12 : Cond.initialized R_Mo ∈ GG := gin (mt_1 (List.mem_of_getElem? (i := 6) rfl)) rfl
theorem mst_13 : Cond.methodLink R_La 59 y_Mo_init ∈ GG := gin (mt_3 (List.mem_of_getElem? (i := 70) rfl)) rfl
theorem mst_14 : Cond.instanceMethod y_Mo_init ∈ GG := gin (mt_3 (List.mem_of_getElem? (i := 71) rfl)) rfl
theorem mst_15 : Cond.code y_Mo_init b_Mo_init 2 none ∈ GG := gin (mt_3 (List.mem_of_getElem? (i := 72) rfl)) rfl
theorem mst_16 : Cond.arrayClass .long ∈ GG := gin (mt_4 (List.mem_of_getElem? (i := 13) rfl)) rfl
def f_La_cell (L : Nat) (xs : Nat → Int32) (p1 : Int32) : Option Int32 :=
  (if Int32.ofNat L ≤ p1 then some (0) else (if (p1 < 0 ∨ L ≤ p1.toNatClampNeg) then none else some (xs p1.toNatClampNeg)))
abbrev rm_La_cell : Room := { frames := 0, cells := 0, slots := 0, locals := 0 }
theorem hd_La_cell : y_La_cell.cls ≠ "java/lang/invoke/MethodHandle" ∧ y_La_cell.cls ≠ "java/lang/invoke/VarHandle" ∧ (parseMethodDescriptor y_La_cell.desc).map (fun d => d.parameters.length) = some 2 := by decide +kernel
set_option maxHeartbeats 4000000 in
set_option maxRecDepth 100000 in
theorem c_La_cell {l : Launch} {D : va_G} {A : Nat → Prop} {cI cZ cJ : ClassId} {u0 : State} (hA0 : ∀ q, A q → u0.heap.size ≤ q) {b L : Nat} {xs : Nat → Int32} (hS0 : va_X b L xs u0 u0.heap) (hbl0 : b < u0.heap.size) {ws : va_W} {p1 q : Int32} (h : f_La_cell L xs p1 = some q) : cm l (lat u0) D clsA (TY cI cZ cJ) A GG y_La_cell b_La_cell 2 (some .int) rm_La_cell [.ref b, .int p1] ws (some (.int q)) ws := by
  refine r_met (own := R_La) rfl (by decide) (Nat.le_of_ble_eq_true rfl) rfl ?_
  intro p e sg m args below meth c C hr hnm hX
  have hS := X_lat hX hbl0 hS0
  have hbl : b < sg.heap.size := Nat.lt_of_lt_of_le hbl0 hX.2.1
  have hbA : ¬ A b := fun h9 => Nat.not_le_of_lt hbl0 (hA0 b h9)
  unfold f_La_cell at h
  refine r_iload_n (pc := 0) C d_La_cell_0 rfl 1 rfl ?_
  refine r_aload_n (pc := 1) C d_La_cell_1 rfl 0 rfl ?_
  refine r_slen (pc := 2) C hS hbl hbA d_La_cell_2 ?_
  refine r_icmp_ge (pc := 3) (tgt := 12) C d_La_cell_3 (by decide) (fun c2 => ?_) (fun c2 => ?_)
  · replace h := ip c2 h
    refine r_iconst (pc := 12) (v := 0) C d_La_cell_12 (by decide) ?_
    cases h
    exact r_iret (pc := 13) C hr rfl rfl rfl d_La_cell_13
  · replace h := iN c2 h
    refine r_aload_n (pc := 6) C d_La_cell_6 rfl 0 rfl ?_
    refine r_iload_n (pc := 7) C d_La_cell_7 rfl 1 rfl ?_
    obtain ⟨hi1, h⟩ := ign h
    refine r_sld (pc := 8) C hS hbl hbA hi1 d_La_cell_8 ?_
    refine r_goto (pc := 9) (tgt := 13) C d_La_cell_9 (by decide) ?_
    cases h
    exact r_iret (pc := 13) C hr rfl rfl rfl d_La_cell_13
theorem start_perm {x0 : Nat × va_E} {a b : va_W} : (x0 :: (a ++ b)).Perm (b ++ x0 :: a) := (List.Perm.cons x0 List.perm_append_comm).trans List.perm_middle.symm
set_option maxHeartbeats 4000000 in
set_option maxRecDepth 100000 in
theorem st_law {l : Launch} {D : va_G} {A : Nat → Prop} {cI cZ cJ : ClassId} {sg : State} (h0 : tw sg) (hA0 : ∀ q, A q → sg.heap.size ≤ q) (hlT : l.stackTraces = false) {p : Program} {e : Env} {m : MethodId} {b L : Nat} {xs : Nat → Int32} {below : List Frame} {meth : Method} {c : Code} (C : cx p sg m #[Value.ref b] meth c D clsA (TY cI cZ cJ) A GG R_La code 7) (hr : meth.sig.returnType = ret) (hS : va_X b L xs sg sg.heap) (hbl : b < sg.heap.size) {sd : Int32} (hsd : f_La_cell L xs 0 = some sd) (hpure : itn (bd_law L xs) 513 (1, 0, sd.toInt64, ((-1), 0, 0, 0, (fun _ => 0), (fun _ => 0), (fun _ => 0), (fun _ => 0), (fun _ => 0)), (fun _ => 0), ((fun _ => 0), (fun _ => 0), (fun _ => 0), 0), sd.toInt64, ((-1), 0, 0, 0, (fun _ => 0), (fun _ => 0), (fun _ => 0), (fun _ => 0), (fun _ => 0)), (fun _ => 0), 0, sd.toInt64, (-1), 0, (fun _ => 0), (0, 0, 0, 0, (fun _ => 0), (fun _ => 0), (fun _ => 0), (fun _ => 0), (fun _ => 0), (fun _ => 0), (fun _ => 0)), (0, (fun _ => 0)), ((fun _ => 0), (fun _ => 0))) = some 1) : vv p l e room_1 sg m #[Value.ref b] below meth c D clsA A 7 0 0 (lw_Z below #[Value.ref b] sg) 0 [(0, .ref b)] [] [] := by
  have hE := lat_stb hA0
  have hX : lat sg sg sg.heap := ⟨State.WarmedH.refl sg, Nat.le_refl _, fun _ _ => rfl⟩
  refine r_newF (pc := 0) (ci := 0) (fs := [.null, .null, .null, .null, .null, .null, .int 0]) C hin_SD t_SD t_SD_ok mst_0 mst_1 mst_2 rfl (by decide) (Nat.le_of_ble_eq_true rfl) (Nat.le_of_ble_eq_true rfl) d_La_law_0 (fun xa => ?_)
  refine r_dup (pc := 3) C d_La_law_3 rfl ?_
  refine r_aload_n (pc := 4) C d_La_law_4 rfl 0 rfl ?_
  refine r_iconst (pc := 5) (v := 0) C d_La_law_5 (by decide) ?_
  refine r_callS (pc := 6) (As := [.ref b, .int 0]) (rest := [.ref xa, .ref xa]) (st1 := [.int sd, .ref xa, .ref xa]) hE gg_good C hX (c_La_cell hA0 hS hbl hsd) mst_3 mst_4 mst_5 mst_6 hd_La_cell ⟨⟨(Nat.le_of_ble_eq_true rfl), (Nat.le_of_ble_eq_true rfl)⟩, (Nat.le_of_ble_eq_true rfl), (Nat.le_of_ble_eq_true rfl)⟩ (Nat.le_of_ble_eq_true rfl) rfl rfl d_La_law_6 ?_
  refine r_callG (pc := 9) (As := [.int sd]) (rest := [.ref xa]) hE gg_good C hX (c_SD_init hE) rfl mst_7 mst_8 mst_2 mst_9 hd_SD_init ⟨⟨(Nat.le_of_ble_eq_true rfl), (Nat.le_of_ble_eq_true rfl)⟩, (Nat.le_of_ble_eq_true rfl), (Nat.le_of_ble_eq_true rfl)⟩ (Nat.le_of_ble_eq_true rfl) rfl d_La_law_9 ?_
  rintro _ ⟨q0, q1, q2, q3, q4, q5, q6, q7, q8, q9, q10, q11, q12, q13, q14, q15, q16, q17, q18, q19, rfl⟩
  refine r_astore_n (pc := 12) (lv' := [(1, .ref xa), (0, .ref b)]) C d_La_law_12 rfl (by decide) rfl ?_
  refine r_newF (pc := 13) (ci := 5) (fs := [.int 0, .long 0, .int 0, .int 0, .int 0, .null, .int 0, .null, .int 0, .null, .int 0, .null, .null, .null, .null, .null, .int 0, .null, .null, .null]) C hin_Mo t_Mo t_Mo_ok mst_10 mst_11 mst_12 rfl (by decide) (Nat.le_of_ble_eq_true rfl) (Nat.le_of_ble_eq_true rfl) d_La_law_13 (fun ma => ?_)
  refine r_dup (pc := 16) C d_La_law_16 rfl ?_
  refine r_aload_n (pc := 17) C d_La_law_17 rfl 1 rfl ?_
  refine r_iconst (pc := 18) (v := 0) C d_La_law_18 (by decide) ?_
  refine r_callS (pc := 19) (As := [.ref b, .int 0]) (rest := [.ref ma, .ref ma]) (st1 := [.int sd, .ref ma, .ref ma]) hE gg_good C hX (c_La_cell hA0 hS hbl hsd) mst_3 mst_4 mst_5 mst_6 hd_La_cell ⟨⟨(Nat.le_of_ble_eq_true rfl), (Nat.le_of_ble_eq_true rfl)⟩, (Nat.le_of_ble_eq_true rfl), (Nat.le_of_ble_eq_true rfl)⟩ (Nat.le_of_ble_eq_true rfl) rfl rfl d_La_law_19 ?_
  refine r_callG (pc := 22) (As := [.int sd]) (rest := [.ref ma]) hE gg_good C hX (c_Mo_init hE) rfl mst_13 mst_14 mst_12 mst_15 hd_Mo_init ⟨⟨(Nat.le_of_ble_eq_true rfl), (Nat.le_of_ble_eq_true rfl)⟩, (Nat.le_of_ble_eq_true rfl), (Nat.le_of_ble_eq_true rfl)⟩ (Nat.le_of_ble_eq_true rfl) rfl d_La_law_22 ?_
  rintro _ ⟨r0, r1, r2, r3, r4, r5, r6, r7, r8, r9, r10, rfl⟩
  refine r_astore_n (pc := 25) (lv' := [(2, .ref ma), (1, .ref xa), (0, .ref b)]) C d_La_law_25 rfl (by decide) rfl ?_
  refine r_iconst (pc := 26) (v := 1) C d_La_law_26 (by decide) ?_
  refine r_newaF (pc := 27) (atype := .long) (ty := .long) (N' := 1) (a0 := (1, .inr (.inl (fun _ => 0)))) C mst_16 rfl 2 rfl (fun _ _ h => h) (fun _ => rfl) (by decide) rfl (Nat.le_of_ble_eq_true rfl) (Nat.le_of_ble_eq_true rfl) (Nat.le_of_ble_eq_true rfl) d_La_law_27 (fun oa => ?_)
  refine r_astore_n (pc := 29) (lv' := [(3, .ref oa), (2, .ref ma), (1, .ref xa), (0, .ref b)]) C d_La_law_29 rfl (by decide) rfl ?_
  refine r_iconst (pc := 30) (v := 1) C d_La_law_30 (by decide) ?_
  refine r_istore (pc := 31) (lv' := [(4, .int 1), (3, .ref oa), (2, .ref ma), (1, .ref xa), (0, .ref b)]) C d_La_law_31 (by decide) rfl ?_
  refine r_loc (lv' := [(0, .ref b), (1, .ref xa), (2, .ref ma), (3, .ref oa), (4, .int 1)]) [4, 3, 2, 1, 0] rfl ?_
  refine r_widen (k1 := 34) (n1 := 882) (Nat.le_of_ble_eq_true rfl) (Nat.le_of_ble_eq_true rfl) ?_
  generalize had : (fun n => ([q19, q18, q17, q16, q15, q14, q13, q12, q11, q10, q9, q8, q7, q6, q5, q4, q3, q2, q1, q0, xa, oa] : List Nat).getD n 0) = ad
  generalize ham : (fun n => ([r10, r9, r8, r7, r6, r5, r4, r3, r2, r1, r0, ma] : List Nat).getD n 0) = am
  refine r_perm (ws' := WC ad cI cZ 0 sd.toInt64 ((-1), 0, 0, 0, (fun _ => 0), (fun _ => 0), (fun _ => 0), (fun _ => 0), (fun _ => 0)) (fun _ => 0) ((fun _ => 0), (fun _ => 0), (fun _ => 0), 0) sd.toInt64 ((-1), 0, 0, 0, (fun _ => 0), (fun _ => 0), (fun _ => 0), (fun _ => 0), (fun _ => 0)) ((ad 21, .inl (cJ, 1, .inr (.inl (fun _ => 0)))) :: WM am cI cZ 0 sd.toInt64 (-1) 0 (fun _ => 0) (0, 0, 0, 0, (fun _ => 0), (fun _ => 0), (fun _ => 0), (fun _ => 0), (fun _ => 0), (fun _ => 0), (fun _ => 0)) (0, (fun _ => 0)) ((fun _ => 0), (fun _ => 0)) ([]))) ?_ ?_
  · subst had; subst ham
    exact start_perm (x0 := (oa, .inl (cJ, 1, .inr (.inl (fun _ => 0))))) (a := WM (fun n => ([r10, r9, r8, r7, r6, r5, r4, r3, r2, r1, r0, ma] : List Nat).getD n 0) cI cZ 0 sd.toInt64 (-1) 0 (fun _ => 0) (0, 0, 0, 0, (fun _ => 0), (fun _ => 0), (fun _ => 0), (fun _ => 0), (fun _ => 0), (fun _ => 0), (fun _ => 0)) (0, (fun _ => 0)) ((fun _ => 0), (fun _ => 0)) ([])) (b := WC (fun n => ([q19, q18, q17, q16, q15, q14, q13, q12, q11, q10, q9, q8, q7, q6, q5, q4, q3, q2, q1, q0, xa, oa] : List Nat).getD n 0) cI cZ 0 sd.toInt64 ((-1), 0, 0, 0, (fun _ => 0), (fun _ => 0), (fun _ => 0), (fun _ => 0), (fun _ => 0)) (fun _ => 0) ((fun _ => 0), (fun _ => 0), (fun _ => 0), 0) sd.toInt64 ((-1), 0, 0, 0, (fun _ => 0), (fun _ => 0), (fun _ => 0), (fun _ => 0), (fun _ => 0)) ([]))
  · subst had; subst ham
    exact vl_law h0 hA0 hlT C hr hS hbl (ad := fun n => ([q19, q18, q17, q16, q15, q14, q13, q12, q11, q10, q9, q8, q7, q6, q5, q4, q3, q2, q1, q0, xa, oa] : List Nat).getD n 0) (am := fun n => ([r10, r9, r8, r7, r6, r5, r4, r3, r2, r1, r0, ma] : List Nat).getD n 0) 513 34 882 (by decide) (by decide) 1 0 sd.toInt64 ((-1), 0, 0, 0, (fun _ => 0), (fun _ => 0), (fun _ => 0), (fun _ => 0), (fun _ => 0)) (fun _ => 0) ((fun _ => 0), (fun _ => 0), (fun _ => 0), 0) sd.toInt64 ((-1), 0, 0, 0, (fun _ => 0), (fun _ => 0), (fun _ => 0), (fun _ => 0), (fun _ => 0)) (fun _ => 0) 0 sd.toInt64 (-1) 0 (fun _ => 0) (0, 0, 0, 0, (fun _ => 0), (fun _ => 0), (fun _ => 0), (fun _ => 0), (fun _ => 0), (fun _ => 0), (fun _ => 0)) (0, (fun _ => 0)) ((fun _ => 0), (fun _ => 0)) hpure
