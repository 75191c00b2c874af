set_option maxHeartbeats 4000000 in
set_option maxRecDepth 100000 in
theorem c_Dr_addAct_D2 {l : Launch} {E : State → Heap → Prop} {D : va_G} {A : Nat → Prop} {cI cZ cJ : ClassId} (hE : stb A E) {ad : Nat → Nat} {x : Int32} {s : Int64} {d : DD} {o : (Nat → Int32)} {t : TT} {s2 : Int64} {d2 : DD} {rest : va_W} {q : Int64 × DD} (h : f_Dr_addAct s2 d2 = some q) : cm l E D clsA (TY cI cZ cJ) A GG y_Dr_addAct b_Dr_addAct 7 none rm_Dr_addAct [.ref (ad 5), .ref (ad 6)] (WC ad cI cZ x s d o t s2 d2 rest) none (WC ad cI cZ x s d o t q.1 q.2 rest) := by
  refine r_met (own := R_Dr) rfl (by decide) (Nat.le_of_ble_eq_true rfl) rfl ?_
  intro p e sg m args below meth c C hr hnm hX
  unfold f_Dr_addAct at h
  refine r_aload_n (pc := 0) C d_Dr_addAct_0 rfl 1 rfl ?_
  refine r_aload_n (pc := 1) C d_Dr_addAct_1 rfl 0 rfl ?_
  refine r_get (pc := 2) (v := .int d2.2.2.1) C hin_Dr 5 rfl rfl 2 (by decide) m_14 rfl rfl d_Dr_addAct_2 ?_
  obtain ⟨q471, hq471, h⟩ := ob h
  refine r_callV (pc := 5) (As := [.int d2.2.2.1]) (rest := []) (st1 := [.int q471.1]) hE gg_good C hX (c_So_below_S2 hE hq471) m_167 m_168 m_169 m_145 m_170 hd_So_below 6 rfl rfl ⟨⟨(Nat.le_of_ble_eq_true rfl), (Nat.le_of_ble_eq_true rfl)⟩, (Nat.le_of_ble_eq_true rfl), (Nat.le_of_ble_eq_true rfl)⟩ (Nat.le_of_ble_eq_true rfl) rfl rfl d_Dr_addAct_5 ?_
  refine r_istore_n (pc := 8) (lv' := [(2, .int q471.1), (0, .ref (ad 5)), (1, .ref (ad 6))]) C d_Dr_addAct_8 rfl (by decide) rfl ?_
  refine r_aload_n (pc := 9) C d_Dr_addAct_9 rfl 2 rfl ?_
  refine r_aload_n (pc := 10) C d_Dr_addAct_10 rfl 1 rfl ?_
  refine r_get (pc := 11) (v := .int d2.2.2.2.1) C hin_Dr 5 rfl rfl 3 (by decide) m_15 rfl rfl d_Dr_addAct_11 ?_
  obtain ⟨q472, hq472, h⟩ := ob h
  refine r_callV (pc := 14) (As := [.int d2.2.2.2.1]) (rest := []) (st1 := [.int q472.1]) hE gg_good C hX (c_So_below_S2 hE hq472) m_167 m_168 m_169 m_145 m_170 hd_So_below 6 rfl rfl ⟨⟨(Nat.le_of_ble_eq_true rfl), (Nat.le_of_ble_eq_true rfl)⟩, (Nat.le_of_ble_eq_true rfl), (Nat.le_of_ble_eq_true rfl)⟩ (Nat.le_of_ble_eq_true rfl) rfl rfl d_Dr_addAct_14 ?_
  refine r_istore_n (pc := 17) (lv' := [(3, .int q472.1), (2, .int q471.1), (0, .ref (ad 5)), (1, .ref (ad 6))]) C d_Dr_addAct_17 rfl (by decide) rfl ?_
  refine r_iconst (pc := 18) (v := 1) C d_Dr_addAct_18 (by decide) ?_
  refine r_aload_n (pc := 19) C d_Dr_addAct_19 rfl 3 rfl ?_
  refine r_iconst (pc := 20) (v := 5) C d_Dr_addAct_20 (by decide) ?_
  obtain ⟨q473, hq473, h⟩ := ob h
  refine r_callV (pc := 21) (As := [.int (5)]) (rest := [.int (1)]) (st1 := [.int q473.1, .int (1)]) hE gg_good C hX (c_So_below_S2 hE hq473) m_167 m_168 m_169 m_145 m_170 hd_So_below 6 rfl rfl ⟨⟨(Nat.le_of_ble_eq_true rfl), (Nat.le_of_ble_eq_true rfl)⟩, (Nat.le_of_ble_eq_true rfl), (Nat.le_of_ble_eq_true rfl)⟩ (Nat.le_of_ble_eq_true rfl) rfl rfl d_Dr_addAct_21 ?_
  refine r_iadd (pc := 24) C d_Dr_addAct_24 ?_
  refine r_istore (pc := 25) (lv' := [(4, .int ((1 : Int32) + q473.1)), (3, .int q472.1), (2, .int q471.1), (0, .ref (ad 5)), (1, .ref (ad 6))]) C d_Dr_addAct_25 (by decide) rfl ?_
  refine r_aload_n (pc := 27) C d_Dr_addAct_27 rfl 4 rfl ?_
  refine r_iconst (pc := 28) (v := 3) C d_Dr_addAct_28 (by decide) ?_
  obtain ⟨q474, hq474, h⟩ := ob h
  refine r_callV (pc := 29) (As := [.int (3)]) (rest := []) (st1 := [.int q474.1]) hE gg_good C hX (c_So_below_S2 hE hq474) m_167 m_168 m_169 m_145 m_170 hd_So_below 6 rfl rfl ⟨⟨(Nat.le_of_ble_eq_true rfl), (Nat.le_of_ble_eq_true rfl)⟩, (Nat.le_of_ble_eq_true rfl), (Nat.le_of_ble_eq_true rfl)⟩ (Nat.le_of_ble_eq_true rfl) rfl rfl d_Dr_addAct_29 ?_
  refine r_iconst (pc := 32) (v := 2) C d_Dr_addAct_32 (by decide) ?_
  refine r_icmp_ne (pc := 33) (tgt := 40) C d_Dr_addAct_33 (by decide) (fun c483 => ?_) (fun c483 => ?_)
  · replace h := iN c483 h
    refine r_iconst (pc := 40) (v := 0) C d_Dr_addAct_40 (by decide) ?_
    refine r_istore (pc := 41) (lv' := [(5, .int (0)), (4, .int ((1 : Int32) + q473.1)), (3, .int q472.1), (2, .int q471.1), (0, .ref (ad 5)), (1, .ref (ad 6))]) C d_Dr_addAct_41 (by decide) rfl ?_
    refine r_aload_n (pc := 43) C d_Dr_addAct_43 rfl 5 rfl ?_
    refine r_bipush (pc := 44) (v := 6) C d_Dr_addAct_44 (by decide) ?_
    obtain ⟨q475, hq475, h⟩ := ob h
    refine r_callV (pc := 46) (As := [.int (6)]) (rest := []) (st1 := [.int q475.1]) hE gg_good C hX (c_So_below_S2 hE hq475) m_167 m_168 m_169 m_145 m_170 hd_So_below 6 rfl rfl ⟨⟨(Nat.le_of_ble_eq_true rfl), (Nat.le_of_ble_eq_true rfl)⟩, (Nat.le_of_ble_eq_true rfl), (Nat.le_of_ble_eq_true rfl)⟩ (Nat.le_of_ble_eq_true rfl) rfl rfl d_Dr_addAct_46 ?_
    refine r_if_ne (pc := 49) (tgt := 56) C d_Dr_addAct_49 (by decide) (fun c478 => ?_) (fun c478 => ?_)
    · replace h := iN c478 h
      refine r_iconst (pc := 56) (v := 0) C d_Dr_addAct_56 (by decide) ?_
      refine r_istore (pc := 57) (lv' := [(6, .int (0)), (5, .int (0)), (4, .int ((1 : Int32) + q473.1)), (3, .int q472.1), (2, .int q471.1), (0, .ref (ad 5)), (1, .ref (ad 6))]) C d_Dr_addAct_57 (by decide) rfl ?_
      refine r_aload_n (pc := 59) C d_Dr_addAct_59 rfl 5 rfl ?_
      refine r_iload (pc := 60) C d_Dr_addAct_60 2 rfl ?_
      refine r_iload_n (pc := 62) C d_Dr_addAct_62 rfl 4 rfl ?_
      refine r_iload_n (pc := 63) C d_Dr_addAct_63 rfl 3 rfl ?_
      refine r_iload (pc := 64) C d_Dr_addAct_64 1 rfl ?_
      refine r_iload (pc := 66) C d_Dr_addAct_66 0 rfl ?_
      obtain ⟨q476, hq476, h⟩ := ob h
      refine r_callV (pc := 68) (As := [.int ((1 : Int32) + q473.1), .int q471.1, .int q472.1, .int (0), .int (0)]) (rest := []) (st1 := []) hE gg_good C hX (c_Dr_add_D2 hE hq476) m_159 m_160 m_161 m_12 m_162 hd_Dr_add 5 rfl rfl ⟨⟨(Nat.le_of_ble_eq_true rfl), (Nat.le_of_ble_eq_true rfl)⟩, (Nat.le_of_ble_eq_true rfl), (Nat.le_of_ble_eq_true rfl)⟩ (Nat.le_of_ble_eq_true rfl) rfl rfl d_Dr_addAct_68 ?_
      cases h
      exact r_vret (pc := 71) C hr rfl rfl d_Dr_addAct_71
    · replace h := ip c478 h
      refine r_iconst (pc := 52) (v := 1) C d_Dr_addAct_52 (by decide) ?_
      refine r_goto (pc := 53) (tgt := 57) C d_Dr_addAct_53 (by decide) ?_
      refine r_istore (pc := 57) (lv' := [(6, .int (1)), (5, .int (0)), (4, .int ((1 : Int32) + q473.1)), (3, .int q472.1), (2, .int q471.1), (0, .ref (ad 5)), (1, .ref (ad 6))]) C d_Dr_addAct_57 (by decide) rfl ?_
      refine r_aload_n (pc := 59) C d_Dr_addAct_59 rfl 5 rfl ?_
      refine r_iload (pc := 60) C d_Dr_addAct_60 2 rfl ?_
      refine r_iload_n (pc := 62) C d_Dr_addAct_62 rfl 4 rfl ?_
      refine r_iload_n (pc := 63) C d_Dr_addAct_63 rfl 3 rfl ?_
      refine r_iload (pc := 64) C d_Dr_addAct_64 1 rfl ?_
      refine r_iload (pc := 66) C d_Dr_addAct_66 0 rfl ?_
      obtain ⟨q477, hq477, h⟩ := ob h
      refine r_callV (pc := 68) (As := [.int ((1 : Int32) + q473.1), .int q471.1, .int q472.1, .int (0), .int (1)]) (rest := []) (st1 := []) hE gg_good C hX (c_Dr_add_D2 hE hq477) m_159 m_160 m_161 m_12 m_162 hd_Dr_add 5 rfl rfl ⟨⟨(Nat.le_of_ble_eq_true rfl), (Nat.le_of_ble_eq_true rfl)⟩, (Nat.le_of_ble_eq_true rfl), (Nat.le_of_ble_eq_true rfl)⟩ (Nat.le_of_ble_eq_true rfl) rfl rfl d_Dr_addAct_68 ?_
      cases h
      exact r_vret (pc := 71) C hr rfl rfl d_Dr_addAct_71
  · replace h := ip c483 h
    refine r_iconst (pc := 36) (v := 1) C d_Dr_addAct_36 (by decide) ?_
    refine r_goto (pc := 37) (tgt := 41) C d_Dr_addAct_37 (by decide) ?_
    refine r_istore (pc := 41) (lv' := [(5, .int (1)), (4, .int ((1 : Int32) + q473.1)), (3, .int q472.1), (2, .int q471.1), (0, .ref (ad 5)), (1, .ref (ad 6))]) C d_Dr_addAct_41 (by decide) rfl ?_
    refine r_aload_n (pc := 43) C d_Dr_addAct_43 rfl 5 rfl ?_
    refine r_bipush (pc := 44) (v := 6) C d_Dr_addAct_44 (by decide) ?_
    obtain ⟨q479, hq479, h⟩ := ob h
    refine r_callV (pc := 46) (As := [.int (6)]) (rest := []) (st1 := [.int q479.1]) hE gg_good C hX (c_So_below_S2 hE hq479) m_167 m_168 m_169 m_145 m_170 hd_So_below 6 rfl rfl ⟨⟨(Nat.le_of_ble_eq_true rfl), (Nat.le_of_ble_eq_true rfl)⟩, (Nat.le_of_ble_eq_true rfl), (Nat.le_of_ble_eq_true rfl)⟩ (Nat.le_of_ble_eq_true rfl) rfl rfl d_Dr_addAct_46 ?_
    refine r_if_ne (pc := 49) (tgt := 56) C d_Dr_addAct_49 (by decide) (fun c482 => ?_) (fun c482 => ?_)
    · replace h := iN c482 h
      refine r_iconst (pc := 56) (v := 0) C d_Dr_addAct_56 (by decide) ?_
      refine r_istore (pc := 57) (lv' := [(6, .int (0)), (5, .int (1)), (4, .int ((1 : Int32) + q473.1)), (3, .int q472.1), (2, .int q471.1), (0, .ref (ad 5)), (1, .ref (ad 6))]) C d_Dr_addAct_57 (by decide) rfl ?_
      refine r_aload_n (pc := 59) C d_Dr_addAct_59 rfl 5 rfl ?_
      refine r_iload (pc := 60) C d_Dr_addAct_60 2 rfl ?_
      refine r_iload_n (pc := 62) C d_Dr_addAct_62 rfl 4 rfl ?_
      refine r_iload_n (pc := 63) C d_Dr_addAct_63 rfl 3 rfl ?_
      refine r_iload (pc := 64) C d_Dr_addAct_64 1 rfl ?_
      refine r_iload (pc := 66) C d_Dr_addAct_66 0 rfl ?_
      obtain ⟨q480, hq480, h⟩ := ob h
      refine r_callV (pc := 68) (As := [.int ((1 : Int32) + q473.1), .int q471.1, .int q472.1, .int (1), .int (0)]) (rest := []) (st1 := []) hE gg_good C hX (c_Dr_add_D2 hE hq480) m_159 m_160 m_161 m_12 m_162 hd_Dr_add 5 rfl rfl ⟨⟨(Nat.le_of_ble_eq_true rfl), (Nat.le_of_ble_eq_true rfl)⟩, (Nat.le_of_ble_eq_true rfl), (Nat.le_of_ble_eq_true rfl)⟩ (Nat.le_of_ble_eq_true rfl) rfl rfl d_Dr_addAct_68 ?_
      cases h
      exact r_vret (pc := 71) C hr rfl rfl d_Dr_addAct_71
    · replace h := ip c482 h
      refine r_iconst (pc := 52) (v := 1) C d_Dr_addAct_52 (by decide) ?_
      refine r_goto (pc := 53) (tgt := 57) C d_Dr_addAct_53 (by decide) ?_
      refine r_istore (pc := 57) (lv' := [(6, .int (1)), (5, .int (1)), (4, .int ((1 : Int32) + q473.1)), (3, .int q472.1), (2, .int q471.1), (0, .ref (ad 5)), (1, .ref (ad 6))]) C d_Dr_addAct_57 (by decide) rfl ?_
      refine r_aload_n (pc := 59) C d_Dr_addAct_59 rfl 5 rfl ?_
      refine r_iload (pc := 60) C d_Dr_addAct_60 2 rfl ?_
      refine r_iload_n (pc := 62) C d_Dr_addAct_62 rfl 4 rfl ?_
      refine r_iload_n (pc := 63) C d_Dr_addAct_63 rfl 3 rfl ?_
      refine r_iload (pc := 64) C d_Dr_addAct_64 1 rfl ?_
      refine r_iload (pc := 66) C d_Dr_addAct_66 0 rfl ?_
      obtain ⟨q481, hq481, h⟩ := ob h
      refine r_callV (pc := 68) (As := [.int ((1 : Int32) + q473.1), .int q471.1, .int q472.1, .int (1), .int (1)]) (rest := []) (st1 := []) hE gg_good C hX (c_Dr_add_D2 hE hq481) m_159 m_160 m_161 m_12 m_162 hd_Dr_add 5 rfl rfl ⟨⟨(Nat.le_of_ble_eq_true rfl), (Nat.le_of_ble_eq_true rfl)⟩, (Nat.le_of_ble_eq_true rfl), (Nat.le_of_ble_eq_true rfl)⟩ (Nat.le_of_ble_eq_true rfl) rfl rfl d_Dr_addAct_68 ?_
      cases h
      exact r_vret (pc := 71) C hr rfl rfl d_Dr_addAct_71
set_option maxHeartbeats 4000000 in
set_option maxRecDepth 100000 in
theorem vl_Dr_redraw_28_D2 {l : Launch} {E : State → Heap → Prop} {D : va_G} {A : Nat → Prop} {cI cZ cJ : ClassId} (hE : stb A E) {ad : Nat → Nat} {x : Int32} {s : Int64} {d : DD} {o : (Nat → Int32)} {t : TT} {rest : va_W} {p : Program} {e : Env} {sg : State} {m : MethodId} {args : Array Value} {below : List Frame} {meth : Method} {c : Code} (C : cx p sg m args meth c D clsA (TY cI cZ cJ) A GG R_Dr b_Dr_redraw 5) (hr : meth.sig.returnType = none) (hX : E sg sg.heap) {q : Int64 × DD} {kx : Int32 × Int32 × Int64 × DD → Option (Int64 × DD)} (K : ∀ z : Int32 × Int32 × Int64 × DD, kx z = some q → vv p l e rm_Dr_redraw sg m args below meth c D clsA A 5 0 0 (MQ below (qcI D clsA A none (WC ad cI cZ x s d o t q.1 q.2 rest)) args sg rm_Dr_redraw.cells rm_Dr_redraw.slots A) 54 [(0, .ref (ad 5)), (1, .ref (ad 6)), (2, .int z.1), (3, .int z.2.1)] [] (WC ad cI cZ x s d o t z.2.2.1 z.2.2.2 rest)) :
    ∀ (n : Nat) (z : Int32 × Int32 × Int64 × DD), itn (bd_Dr_redraw_28 kx) n z = some q → vv p l e rm_Dr_redraw sg m args below meth c D clsA A 5 0 0 (MQ below (qcI D clsA A none (WC ad cI cZ x s d o t q.1 q.2 rest)) args sg rm_Dr_redraw.cells rm_Dr_redraw.slots A) 28 [(0, .ref (ad 5)), (1, .ref (ad 6)), (2, .int z.1), (3, .int z.2.1)] [] (WC ad cI cZ x s d o t z.2.2.1 z.2.2.2 rest) := by
  have _ := hE
  intro n
  induction n with
  | zero => intro z h; cases h
  | succ n ih =>
    intro z h
    obtain ⟨zv0, zv1, zv2, zv3⟩ := z
    replace h : bd_Dr_redraw_28 kx (itn (bd_Dr_redraw_28 kx) n) (zv0, zv1, zv2, zv3) = some q := h
    unfold bd_Dr_redraw_28 at h
    (try dsimp only at h)
    show vv p l e rm_Dr_redraw sg m args below meth c D clsA A 5 0 0 (MQ below (qcI D clsA A none (WC ad cI cZ x s d o t q.1 q.2 rest)) args sg rm_Dr_redraw.cells rm_Dr_redraw.slots A) 28 [(0, .ref (ad 5)), (1, .ref (ad 6)), (2, .int zv0), (3, .int zv1)] [] (WC ad cI cZ x s d o t zv2 zv3 rest)
    refine r_iload_n (pc := 28) C d_Dr_redraw_28 rfl 3 rfl ?_
    refine r_aload_n (pc := 29) C d_Dr_redraw_29 rfl 0 rfl ?_
    refine r_get (pc := 30) (v := .int zv3.2.2.1) C hin_Dr 5 rfl rfl 2 (by decide) m_14 rfl rfl d_Dr_redraw_30 ?_
    refine r_icmp_ge (pc := 33) (tgt := 54) C d_Dr_redraw_33 (by decide) (fun c460 => ?_) (fun c460 => ?_)
    · replace h := ip c460 h
      refine r_loc (lv' := [(0, .ref (ad 5)), (1, .ref (ad 6)), (2, .int zv0), (3, .int zv1)]) [0, 1, 2, 3] rfl ?_
      exact K (zv0, zv1, zv2, zv3) h
    · replace h := iN c460 h
      refine r_aload_n (pc := 36) C d_Dr_redraw_36 rfl 0 rfl ?_
      refine r_iconst (pc := 37) (v := 4) C d_Dr_redraw_37 (by decide) ?_
      refine r_aload_n (pc := 38) C d_Dr_redraw_38 rfl 1 rfl ?_
      refine r_bipush (pc := 39) (v := 20) C d_Dr_redraw_39 (by decide) ?_
      obtain ⟨q458, hq458, h⟩ := ob h
      refine r_callV (pc := 41) (As := [.int (20)]) (rest := [.int (4), .ref (ad 5)]) (st1 := [.int q458.1, .int (4), .ref (ad 5)]) hE gg_good C hX (c_So_below_S2 hE hq458) m_167 m_168 m_169 m_145 m_170 hd_So_below 6 rfl rfl ⟨⟨(Nat.le_of_ble_eq_true rfl), (Nat.le_of_ble_eq_true rfl)⟩, (Nat.le_of_ble_eq_true rfl), (Nat.le_of_ble_eq_true rfl)⟩ (Nat.le_of_ble_eq_true rfl) rfl rfl d_Dr_redraw_41 ?_
      refine r_iadd (pc := 44) C d_Dr_redraw_44 ?_
      obtain ⟨q459, hq459, h⟩ := ob h
      refine r_callV (pc := 45) (As := [.int ((4 : Int32) + q458.1)]) (rest := []) (st1 := []) hE gg_good C hX (c_Dr_addThing_D2 hE hq459) m_163 m_164 m_165 m_12 m_166 hd_Dr_addThing 5 rfl rfl ⟨⟨(Nat.le_of_ble_eq_true rfl), (Nat.le_of_ble_eq_true rfl)⟩, (Nat.le_of_ble_eq_true rfl), (Nat.le_of_ble_eq_true rfl)⟩ (Nat.le_of_ble_eq_true rfl) rfl rfl d_Dr_redraw_45 ?_
      refine r_iincK (pc := 48) (w0 := 1) (lv' := [(3, .int (zv1 + 1)), (0, .ref (ad 5)), (1, .ref (ad 6)), (2, .int zv0)]) C d_Dr_redraw_48 (by decide) 3 rfl (by decide) rfl ?_
      refine r_goto (pc := 51) (tgt := 28) C d_Dr_redraw_51 (by decide) ?_
      refine r_loc (lv' := [(0, .ref (ad 5)), (1, .ref (ad 6)), (2, .int zv0), (3, .int (zv1 + 1))]) [1, 2, 3, 0] rfl ?_
      exact ih (zv0, zv1 + 1, q458.2, q459) h
set_option maxHeartbeats 4000000 in
set_option maxRecDepth 100000 in
theorem vl_Dr_redraw_72_D2 {l : Launch} {E : State → Heap → Prop} {D : va_G} {A : Nat → Prop} {cI cZ cJ : ClassId} (hE : stb A E) {ad : Nat → Nat} {x : Int32} {s : Int64} {d : DD} {o : (Nat → Int32)} {t : TT} {rest : va_W} {p : Program} {e : Env} {sg : State} {m : MethodId} {args : Array Value} {below : List Frame} {meth : Method} {c : Code} (C : cx p sg m args meth c D clsA (TY cI cZ cJ) A GG R_Dr b_Dr_redraw 5) (hr : meth.sig.returnType = none) (hX : E sg sg.heap) {q : Int64 × DD} {kx : Int32 × Int32 × Int64 × DD → Option (Int64 × DD)} (K : ∀ z : Int32 × Int32 × Int64 × DD, kx z = some q → vv p l e rm_Dr_redraw sg m args below meth c D clsA A 5 0 0 (MQ below (qcI D clsA A none (WC ad cI cZ x s d o t q.1 q.2 rest)) args sg rm_Dr_redraw.cells rm_Dr_redraw.slots A) 98 [(0, .ref (ad 5)), (1, .ref (ad 6)), (2, .int z.1), (3, .int z.2.1)] [] (WC ad cI cZ x s d o t z.2.2.1 z.2.2.2 rest)) :
    ∀ (n : Nat) (z : Int32 × Int32 × Int64 × DD), itn (bd_Dr_redraw_72 kx) n z = some q → vv p l e rm_Dr_redraw sg m args below meth c D clsA A 5 0 0 (MQ below (qcI D clsA A none (WC ad cI cZ x s d o t q.1 q.2 rest)) args sg rm_Dr_redraw.cells rm_Dr_redraw.slots A) 72 [(0, .ref (ad 5)), (1, .ref (ad 6)), (2, .int z.1), (3, .int z.2.1)] [] (WC ad cI cZ x s d o t z.2.2.1 z.2.2.2 rest) := by
  have _ := hE
  intro n
  induction n with
  | zero => intro z h; cases h
  | succ n ih =>
    intro z h
    obtain ⟨zv0, zv1, zv2, zv3⟩ := z
    replace h : bd_Dr_redraw_72 kx (itn (bd_Dr_redraw_72 kx) n) (zv0, zv1, zv2, zv3) = some q := h
    unfold bd_Dr_redraw_72 at h
    (try dsimp only at h)
    show vv p l e rm_Dr_redraw sg m args below meth c D clsA A 5 0 0 (MQ below (qcI D clsA A none (WC ad cI cZ x s d o t q.1 q.2 rest)) args sg rm_Dr_redraw.cells rm_Dr_redraw.slots A) 72 [(0, .ref (ad 5)), (1, .ref (ad 6)), (2, .int zv0), (3, .int zv1)] [] (WC ad cI cZ x s d o t zv2 zv3 rest)
    refine r_iload_n (pc := 72) C d_Dr_redraw_72 rfl 3 rfl ?_
    refine r_aload_n (pc := 73) C d_Dr_redraw_73 rfl 0 rfl ?_
    refine r_get (pc := 74) (v := .int zv3.2.2.2.1) C hin_Dr 5 rfl rfl 3 (by decide) m_15 rfl rfl d_Dr_redraw_74 ?_
    refine r_icmp_ge (pc := 77) (tgt := 98) C d_Dr_redraw_77 (by decide) (fun c468 => ?_) (fun c468 => ?_)
    · replace h := ip c468 h
      refine r_loc (lv' := [(0, .ref (ad 5)), (1, .ref (ad 6)), (2, .int zv0), (3, .int zv1)]) [0, 1, 2, 3] rfl ?_
      exact K (zv0, zv1, zv2, zv3) h
    · replace h := iN c468 h
      refine r_aload_n (pc := 80) C d_Dr_redraw_80 rfl 0 rfl ?_
      refine r_iconst (pc := 81) (v := 1) C d_Dr_redraw_81 (by decide) ?_
      refine r_aload_n (pc := 82) C d_Dr_redraw_82 rfl 1 rfl ?_
      refine r_bipush (pc := 83) (v := 6) C d_Dr_redraw_83 (by decide) ?_
      obtain ⟨q466, hq466, h⟩ := ob h
      refine r_callV (pc := 85) (As := [.int (6)]) (rest := [.int (1), .ref (ad 5)]) (st1 := [.int q466.1, .int (1), .ref (ad 5)]) hE gg_good C hX (c_So_below_S2 hE hq466) m_167 m_168 m_169 m_145 m_170 hd_So_below 6 rfl rfl ⟨⟨(Nat.le_of_ble_eq_true rfl), (Nat.le_of_ble_eq_true rfl)⟩, (Nat.le_of_ble_eq_true rfl), (Nat.le_of_ble_eq_true rfl)⟩ (Nat.le_of_ble_eq_true rfl) rfl rfl d_Dr_redraw_85 ?_
      refine r_iadd (pc := 88) C d_Dr_redraw_88 ?_
      obtain ⟨q467, hq467, h⟩ := ob h
      refine r_callV (pc := 89) (As := [.int ((1 : Int32) + q466.1)]) (rest := []) (st1 := []) hE gg_good C hX (c_Dr_addThing_D2 hE hq467) m_163 m_164 m_165 m_12 m_166 hd_Dr_addThing 5 rfl rfl ⟨⟨(Nat.le_of_ble_eq_true rfl), (Nat.le_of_ble_eq_true rfl)⟩, (Nat.le_of_ble_eq_true rfl), (Nat.le_of_ble_eq_true rfl)⟩ (Nat.le_of_ble_eq_true rfl) rfl rfl d_Dr_redraw_89 ?_
      refine r_iincK (pc := 92) (w0 := 1) (lv' := [(3, .int (zv1 + 1)), (0, .ref (ad 5)), (1, .ref (ad 6)), (2, .int zv0)]) C d_Dr_redraw_92 (by decide) 3 rfl (by decide) rfl ?_
      refine r_goto (pc := 95) (tgt := 72) C d_Dr_redraw_95 (by decide) ?_
      refine r_loc (lv' := [(0, .ref (ad 5)), (1, .ref (ad 6)), (2, .int zv0), (3, .int (zv1 + 1))]) [1, 2, 3, 0] rfl ?_
      exact ih (zv0, zv1 + 1, q466.2, q467) h
set_option maxHeartbeats 4000000 in
set_option maxRecDepth 100000 in
theorem vl_Dr_redraw_114_D2 {l : Launch} {E : State → Heap → Prop} {D : va_G} {A : Nat → Prop} {cI cZ cJ : ClassId} (hE : stb A E) {ad : Nat → Nat} {x : Int32} {s : Int64} {d : DD} {o : (Nat → Int32)} {t : TT} {rest : va_W} {p : Program} {e : Env} {sg : State} {m : MethodId} {args : Array Value} {below : List Frame} {meth : Method} {c : Code} (C : cx p sg m args meth c D clsA (TY cI cZ cJ) A GG R_Dr b_Dr_redraw 5) (hr : meth.sig.returnType = none) (hX : E sg sg.heap) {q : Int64 × DD} {kx : Int32 × Int32 × Int32 × Int64 × DD → Option (Int64 × DD)} (K : ∀ z : Int32 × Int32 × Int32 × Int64 × DD, kx z = some q → vv p l e rm_Dr_redraw sg m args below meth c D clsA A 5 0 0 (MQ below (qcI D clsA A none (WC ad cI cZ x s d o t q.1 q.2 rest)) args sg rm_Dr_redraw.cells rm_Dr_redraw.slots A) 131 [(0, .ref (ad 5)), (1, .ref (ad 6)), (2, .int z.1), (3, .int z.2.1), (4, .int z.2.2.1)] [] (WC ad cI cZ x s d o t z.2.2.2.1 z.2.2.2.2 rest)) :
    ∀ (n : Nat) (z : Int32 × Int32 × Int32 × Int64 × DD), itn (bd_Dr_redraw_114 kx) n z = some q → vv p l e rm_Dr_redraw sg m args below meth c D clsA A 5 0 0 (MQ below (qcI D clsA A none (WC ad cI cZ x s d o t q.1 q.2 rest)) args sg rm_Dr_redraw.cells rm_Dr_redraw.slots A) 114 [(0, .ref (ad 5)), (1, .ref (ad 6)), (2, .int z.1), (3, .int z.2.1), (4, .int z.2.2.1)] [] (WC ad cI cZ x s d o t z.2.2.2.1 z.2.2.2.2 rest) := by
  have _ := hE
  intro n
  induction n with
  | zero => intro z h; cases h
  | succ n ih =>
    intro z h
    obtain ⟨zv0, zv1, zv2, zv3, zv4⟩ := z
    replace h : bd_Dr_redraw_114 kx (itn (bd_Dr_redraw_114 kx) n) (zv0, zv1, zv2, zv3, zv4) = some q := h
    unfold bd_Dr_redraw_114 at h
    (try dsimp only at h)
    show vv p l e rm_Dr_redraw sg m args below meth c D clsA A 5 0 0 (MQ below (qcI D clsA A none (WC ad cI cZ x s d o t q.1 q.2 rest)) args sg rm_Dr_redraw.cells rm_Dr_redraw.slots A) 114 [(0, .ref (ad 5)), (1, .ref (ad 6)), (2, .int zv0), (3, .int zv1), (4, .int zv2)] [] (WC ad cI cZ x s d o t zv3 zv4 rest)
    refine r_iload (pc := 114) C d_Dr_redraw_114 4 rfl ?_
    refine r_iload_n (pc := 116) C d_Dr_redraw_116 rfl 3 rfl ?_
    refine r_icmp_ge (pc := 117) (tgt := 131) C d_Dr_redraw_117 (by decide) (fun c487 => ?_) (fun c487 => ?_)
    · replace h := ip c487 h
      refine r_loc (lv' := [(0, .ref (ad 5)), (1, .ref (ad 6)), (2, .int zv0), (3, .int zv1), (4, .int zv2)]) [0, 1, 2, 3, 4] rfl ?_
      exact K (zv0, zv1, zv2, zv3, zv4) h
    · replace h := iN c487 h
      refine r_aload_n (pc := 120) C d_Dr_redraw_120 rfl 0 rfl ?_
      refine r_aload_n (pc := 121) C d_Dr_redraw_121 rfl 1 rfl ?_
      obtain ⟨q486, hq486, h⟩ := ob h
      refine r_callV (pc := 122) (As := [.ref (ad 6)]) (rest := []) (st1 := []) hE gg_good C hX (c_Dr_addAct_D2 hE hq486) m_171 m_172 m_173 m_12 m_174 hd_Dr_addAct 5 rfl rfl ⟨⟨(Nat.le_of_ble_eq_true rfl), (Nat.le_of_ble_eq_true rfl)⟩, (Nat.le_of_ble_eq_true rfl), (Nat.le_of_ble_eq_true rfl)⟩ (Nat.le_of_ble_eq_true rfl) rfl rfl d_Dr_redraw_122 ?_
      refine r_iincK (pc := 125) (w0 := 1) (lv' := [(4, .int (zv2 + 1)), (0, .ref (ad 5)), (1, .ref (ad 6)), (2, .int zv0), (3, .int zv1)]) C d_Dr_redraw_125 (by decide) 4 rfl (by decide) rfl ?_
      refine r_goto (pc := 128) (tgt := 114) C d_Dr_redraw_128 (by decide) ?_
      refine r_loc (lv' := [(0, .ref (ad 5)), (1, .ref (ad 6)), (2, .int zv0), (3, .int zv1), (4, .int (zv2 + 1))]) [1, 2, 3, 4, 0] rfl ?_
      exact ih (zv0, zv1, zv2 + 1, q486.1, q486.2) h
set_option maxHeartbeats 4000000 in
set_option maxRecDepth 100000 in
theorem c_Dr_redraw_D2 {l : Launch} {E : State → Heap → Prop} {D : va_G} {A : Nat → Prop} {cI cZ cJ : ClassId} (hE : stb A E) {ad : Nat → Nat} {x : Int32} {s : Int64} {d : DD} {o : (Nat → Int32)} {t : TT} {s2 : Int64} {d2 : DD} {rest : va_W} {p1 : Int32} {q : Int64 × DD} (h : f_Dr_redraw s2 d2 p1 = some q) : cm l E D clsA (TY cI cZ cJ) A GG y_Dr_redraw b_Dr_redraw 5 none rm_Dr_redraw [.ref (ad 5), .ref (ad 6), .int p1] (WC ad cI cZ x s d o t s2 d2 rest) none (WC ad cI cZ x s d o t q.1 q.2 rest) := by
  refine r_met (own := R_Dr) rfl (by decide) (Nat.le_of_ble_eq_true rfl) rfl ?_
  intro p e sg m args below meth c C hr hnm hX
  unfold f_Dr_redraw at h
  refine r_aload_n (pc := 0) C d_Dr_redraw_0 rfl 0 rfl ?_
  refine r_iload_n (pc := 1) C d_Dr_redraw_1 rfl 2 rfl ?_
  refine r_put (pc := 2) (ty := .int) (ws' := WC ad cI cZ x s d o t s2 (p1, d2.2.1, d2.2.2.1, d2.2.2.2.1, d2.2.2.2.2.1, d2.2.2.2.2.2.1, d2.2.2.2.2.2.2.1, d2.2.2.2.2.2.2.2.1, d2.2.2.2.2.2.2.2.2) rest) C hin_Dr t_Dr t_Dr_ok n_Dr 5 rfl rfl 0 (by decide) m_156 rfl rfl pd_I rfl rfl (Nat.le_of_ble_eq_true rfl) rfl d_Dr_redraw_2 ?_
  refine r_aload_n (pc := 5) C d_Dr_redraw_5 rfl 0 rfl ?_
  refine r_iconst (pc := 6) (v := 0) C d_Dr_redraw_6 (by decide) ?_
  refine r_put (pc := 7) (ty := .int) (ws' := WC ad cI cZ x s d o t s2 (p1, 0, d2.2.2.1, d2.2.2.2.1, d2.2.2.2.2.1, d2.2.2.2.2.2.1, d2.2.2.2.2.2.2.1, d2.2.2.2.2.2.2.2.1, d2.2.2.2.2.2.2.2.2) rest) C hin_Dr t_Dr t_Dr_ok n_Dr 5 rfl rfl 1 (by decide) m_5 rfl rfl pd_I rfl rfl (Nat.le_of_ble_eq_true rfl) rfl d_Dr_redraw_7 ?_
  refine r_aload_n (pc := 10) C d_Dr_redraw_10 rfl 0 rfl ?_
  refine r_iconst (pc := 11) (v := 1) C d_Dr_redraw_11 (by decide) ?_
  refine r_aload_n (pc := 12) C d_Dr_redraw_12 rfl 1 rfl ?_
  refine r_aload_n (pc := 13) C d_Dr_redraw_13 rfl 0 rfl ?_
  refine r_get (pc := 14) (v := .int p1) C hin_Dr 5 rfl rfl 0 (by decide) m_156 rfl rfl d_Dr_redraw_14 ?_
  refine r_iconst (pc := 17) (v := 1) C d_Dr_redraw_17 (by decide) ?_
  refine r_iadd (pc := 18) C d_Dr_redraw_18 ?_
  obtain ⟨q446, hq446, h⟩ := ob h
  refine r_callV (pc := 19) (As := [.int (p1 + (1 : Int32))]) (rest := [.int (1), .ref (ad 5)]) (st1 := [.int q446.1, .int (1), .ref (ad 5)]) hE gg_good C hX (c_So_below_S2 hE hq446) m_167 m_168 m_169 m_145 m_170 hd_So_below 6 rfl rfl ⟨⟨(Nat.le_of_ble_eq_true rfl), (Nat.le_of_ble_eq_true rfl)⟩, (Nat.le_of_ble_eq_true rfl), (Nat.le_of_ble_eq_true rfl)⟩ (Nat.le_of_ble_eq_true rfl) rfl rfl d_Dr_redraw_19 ?_
  refine r_iadd (pc := 22) C d_Dr_redraw_22 ?_
  refine r_put (pc := 23) (ty := .int) (ws' := WC ad cI cZ x s d o t q446.2 (p1, 0, (1 : Int32) + q446.1, d2.2.2.2.1, d2.2.2.2.2.1, d2.2.2.2.2.2.1, d2.2.2.2.2.2.2.1, d2.2.2.2.2.2.2.2.1, d2.2.2.2.2.2.2.2.2) rest) C hin_Dr t_Dr t_Dr_ok n_Dr 5 rfl rfl 2 (by decide) m_14 rfl rfl pd_I rfl rfl (Nat.le_of_ble_eq_true rfl) rfl d_Dr_redraw_23 ?_
  refine r_iconst (pc := 26) (v := 0) C d_Dr_redraw_26 (by decide) ?_
  refine r_istore_n (pc := 27) (lv' := [(3, .int (0)), (0, .ref (ad 5)), (1, .ref (ad 6)), (2, .int p1)]) C d_Dr_redraw_27 rfl (by decide) rfl ?_
  refine r_loc (lv' := [(0, .ref (ad 5)), (1, .ref (ad 6)), (2, .int p1), (3, .int (0))]) [1, 2, 3, 0] rfl ?_
  refine vl_Dr_redraw_28_D2 hE C hr hX (fun z461 h => ?_) 70 (p1, 0, q446.2, (p1, 0, (1 : Int32) + q446.1, d2.2.2.2.1, d2.2.2.2.2.1, d2.2.2.2.2.2.1, d2.2.2.2.2.2.2.1, d2.2.2.2.2.2.2.2.1, d2.2.2.2.2.2.2.2.2)) h
  refine r_aload_n (pc := 54) C d_Dr_redraw_54 rfl 0 rfl ?_
  refine r_iconst (pc := 55) (v := 1) C d_Dr_redraw_55 (by decide) ?_
  refine r_aload_n (pc := 56) C d_Dr_redraw_56 rfl 1 rfl ?_
  refine r_aload_n (pc := 57) C d_Dr_redraw_57 rfl 0 rfl ?_
  refine r_get (pc := 58) (v := .int z461.2.2.2.1) C hin_Dr 5 rfl rfl 0 (by decide) m_156 rfl rfl d_Dr_redraw_58 ?_
  refine r_iconst (pc := 61) (v := 1) C d_Dr_redraw_61 (by decide) ?_
  refine r_iadd (pc := 62) C d_Dr_redraw_62 ?_
  obtain ⟨q462, hq462, h⟩ := ob h
  refine r_callV (pc := 63) (As := [.int (z461.2.2.2.1 + (1 : Int32))]) (rest := [.int (1), .ref (ad 5)]) (st1 := [.int q462.1, .int (1), .ref (ad 5)]) hE gg_good C hX (c_So_below_S2 hE hq462) m_167 m_168 m_169 m_145 m_170 hd_So_below 6 rfl rfl ⟨⟨(Nat.le_of_ble_eq_true rfl), (Nat.le_of_ble_eq_true rfl)⟩, (Nat.le_of_ble_eq_true rfl), (Nat.le_of_ble_eq_true rfl)⟩ (Nat.le_of_ble_eq_true rfl) rfl rfl d_Dr_redraw_63 ?_
  refine r_iadd (pc := 66) C d_Dr_redraw_66 ?_
  refine r_put (pc := 67) (ty := .int) (ws' := WC ad cI cZ x s d o t q462.2 (z461.2.2.2.1, z461.2.2.2.2.1, z461.2.2.2.2.2.1, (1 : Int32) + q462.1, z461.2.2.2.2.2.2.2.1, z461.2.2.2.2.2.2.2.2.1, z461.2.2.2.2.2.2.2.2.2.1, z461.2.2.2.2.2.2.2.2.2.2.1, z461.2.2.2.2.2.2.2.2.2.2.2) rest) C hin_Dr t_Dr t_Dr_ok n_Dr 5 rfl rfl 3 (by decide) m_15 rfl rfl pd_I rfl rfl (Nat.le_of_ble_eq_true rfl) rfl d_Dr_redraw_67 ?_
  refine r_iconst (pc := 70) (v := 0) C d_Dr_redraw_70 (by decide) ?_
  refine r_istore_n (pc := 71) (lv' := [(3, .int (0)), (0, .ref (ad 5)), (1, .ref (ad 6)), (2, .int z461.1)]) C d_Dr_redraw_71 rfl (by decide) rfl ?_
  refine r_loc (lv' := [(0, .ref (ad 5)), (1, .ref (ad 6)), (2, .int z461.1), (3, .int (0))]) [1, 2, 3, 0] rfl ?_
  refine vl_Dr_redraw_72_D2 hE C hr hX (fun z469 h => ?_) 70 (z461.1, 0, q462.2, (z461.2.2.2.1, z461.2.2.2.2.1, z461.2.2.2.2.2.1, (1 : Int32) + q462.1, z461.2.2.2.2.2.2.2.1, z461.2.2.2.2.2.2.2.2.1, z461.2.2.2.2.2.2.2.2.2.1, z461.2.2.2.2.2.2.2.2.2.2.1, z461.2.2.2.2.2.2.2.2.2.2.2)) h
  refine r_iconst (pc := 98) (v := 3) C d_Dr_redraw_98 (by decide) ?_
  refine r_aload_n (pc := 99) C d_Dr_redraw_99 rfl 0 rfl ?_
  refine r_get (pc := 100) (v := .int z469.2.2.2.1) C hin_Dr 5 rfl rfl 0 (by decide) m_156 rfl rfl d_Dr_redraw_100 ?_
  refine r_imul (pc := 103) C d_Dr_redraw_103 ?_
  refine r_aload_n (pc := 104) C d_Dr_redraw_104 rfl 1 rfl ?_
  refine r_iconst (pc := 105) (v := 4) C d_Dr_redraw_105 (by decide) ?_
  obtain ⟨q470, hq470, h⟩ := ob h
  refine r_callV (pc := 106) (As := [.int (4)]) (rest := [.int ((3 : Int32) * z469.2.2.2.1)]) (st1 := [.int q470.1, .int ((3 : Int32) * z469.2.2.2.1)]) hE gg_good C hX (c_So_below_S2 hE hq470) m_167 m_168 m_169 m_145 m_170 hd_So_below 6 rfl rfl ⟨⟨(Nat.le_of_ble_eq_true rfl), (Nat.le_of_ble_eq_true rfl)⟩, (Nat.le_of_ble_eq_true rfl), (Nat.le_of_ble_eq_true rfl)⟩ (Nat.le_of_ble_eq_true rfl) rfl rfl d_Dr_redraw_106 ?_
  refine r_iadd (pc := 109) C d_Dr_redraw_109 ?_
  refine r_istore_n (pc := 110) (lv' := [(3, .int (((3 : Int32) * z469.2.2.2.1) + q470.1)), (0, .ref (ad 5)), (1, .ref (ad 6)), (2, .int z469.1)]) C d_Dr_redraw_110 rfl (by decide) rfl ?_
  refine r_iconst (pc := 111) (v := 0) C d_Dr_redraw_111 (by decide) ?_
  refine r_istore (pc := 112) (lv' := [(4, .int (0)), (3, .int (((3 : Int32) * z469.2.2.2.1) + q470.1)), (0, .ref (ad 5)), (1, .ref (ad 6)), (2, .int z469.1)]) C d_Dr_redraw_112 (by decide) rfl ?_
  refine r_loc (lv' := [(0, .ref (ad 5)), (1, .ref (ad 6)), (2, .int z469.1), (3, .int (((3 : Int32) * z469.2.2.2.1) + q470.1)), (4, .int (0))]) [2, 3, 4, 1, 0] rfl ?_
  refine vl_Dr_redraw_114_D2 hE C hr hX (fun z488 h => ?_) 70 (z469.1, ((3 : Int32) * z469.2.2.2.1) + q470.1, 0, q470.2, z469.2.2.2) h
  cases h
  exact r_vret (pc := 131) C hr rfl rfl d_Dr_redraw_131
def f_Dr_actCount (d : DD) : Option (Int32) :=
  some ((d.2.1 - d.2.2.1) - d.2.2.2.1)
abbrev rm_Dr_actCount : Room := { frames := 0, cells := 0, slots := 0, locals := 0 }
theorem hd_Dr_actCount : y_Dr_actCount.cls ≠ "java/lang/invoke/MethodHandle" ∧ y_Dr_actCount.cls ≠ "java/lang/invoke/VarHandle" ∧ (parseMethodDescriptor y_Dr_actCount.desc).map (fun d => d.parameters.length) = some 0 := by decide +kernel
set_option maxHeartbeats 4000000 in
set_option maxRecDepth 100000 in
theorem c_Dr_actCount_D {l : Launch} {E : State → Heap → Prop} {D : va_G} {A : Nat → Prop} {cI cZ cJ : ClassId} (hE : stb A E) {ad : Nat → Nat} {x : Int32} {s : Int64} {d : DD} {o : (Nat → Int32)} {t : TT} {s2 : Int64} {d2 : DD} {rest : va_W} {q : Int32} (h : f_Dr_actCount d = some q) : cm l E D clsA (TY cI cZ cJ) A GG y_Dr_actCount b_Dr_actCount 1 (some .int) rm_Dr_actCount [.ref (ad 19)] (WC ad cI cZ x s d o t s2 d2 rest) (some (.int q)) (WC ad cI cZ x s d o t s2 d2 rest) := by
  refine r_met (own := R_Dr) rfl (by decide) (Nat.le_of_ble_eq_true rfl) rfl ?_
  intro p e sg m args below meth c C hr hnm hX
  unfold f_Dr_actCount at h
  refine r_aload_n (pc := 0) C d_Dr_actCount_0 rfl 0 rfl ?_
  refine r_get (pc := 1) (v := .int d.2.1) C hin_Dr 19 rfl rfl 1 (by decide) m_5 rfl rfl d_Dr_actCount_1 ?_
  refine r_aload_n (pc := 4) C d_Dr_actCount_4 rfl 0 rfl ?_
  refine r_get (pc := 5) (v := .int d.2.2.1) C hin_Dr 19 rfl rfl 2 (by decide) m_14 rfl rfl d_Dr_actCount_5 ?_
  refine r_isub (pc := 8) C d_Dr_actCount_8 ?_
  refine r_aload_n (pc := 9) C d_Dr_actCount_9 rfl 0 rfl ?_
  refine r_get (pc := 10) (v := .int d.2.2.2.1) C hin_Dr 19 rfl rfl 3 (by decide) m_15 rfl rfl d_Dr_actCount_10 ?_
  refine r_isub (pc := 13) C d_Dr_actCount_13 ?_
  cases h
  exact r_iret (pc := 14) C hr rfl rfl rfl d_Dr_actCount_14
def bd_Dr_lieCount_4 (d : DD) (kx : Int32 × Int32 → Option (Int32)) (rec : Int32 × Int32 → Option (Int32)) (z : Int32 × Int32) : Option (Int32) :=
  (if d.2.1 ≤ z.2 then kx (z.1, z.2) else Option.bind (f_Dr_lies d z.2) (fun q497 => (if q497 = 0 then rec (z.1, z.2 + 1) else rec (z.1 + 1, z.2 + 1))))
def f_Dr_lieCount (d : DD) : Option (Int32) :=
  (itn (bd_Dr_lieCount_4 d (fun z503 => some z503.1)) 70 (0, 0))
abbrev rm_Dr_lieCount : Room := { frames := 2, cells := 0, slots := 0, locals := 42 }
theorem hd_Dr_lieCount : y_Dr_lieCount.cls ≠ "java/lang/invoke/MethodHandle" ∧ y_Dr_lieCount.cls ≠ "java/lang/invoke/VarHandle" ∧ (parseMethodDescriptor y_Dr_lieCount.desc).map (fun d => d.parameters.length) = some 0 := by decide +kernel
set_option maxHeartbeats 4000000 in
set_option maxRecDepth 100000 in
theorem vl_Dr_lieCount_4_D {l : Launch} {E : State → Heap → Prop} {D : va_G} {A : Nat → Prop} {cI cZ cJ : ClassId} (hE : stb A E) {ad : Nat → Nat} {x : Int32} {s : Int64} {d : DD} {o : (Nat → Int32)} {t : TT} {s2 : Int64} {d2 : DD} {rest : va_W} {p : Program} {e : Env} {sg : State} {m : MethodId} {args : Array Value} {below : List Frame} {meth : Method} {c : Code} (C : cx p sg m args meth c D clsA (TY cI cZ cJ) A GG R_Dr b_Dr_lieCount 3) (hr : meth.sig.returnType = (some .int)) (hX : E sg sg.heap) {q : Int32} {kx : Int32 × Int32 → Option (Int32)} (K : ∀ z : Int32 × Int32, kx z = some q → vv p l e rm_Dr_lieCount sg m args below meth c D clsA A 3 0 0 (MQ below (qcI D clsA A (some (.int q)) (WC ad cI cZ x s d o t s2 d2 rest)) args sg rm_Dr_lieCount.cells rm_Dr_lieCount.slots A) 29 [(0, .ref (ad 19)), (1, .int z.1), (2, .int z.2)] [] (WC ad cI cZ x s d o t s2 d2 rest)) :
    ∀ (n : Nat) (z : Int32 × Int32), itn (bd_Dr_lieCount_4 d kx) n z = some q → vv p l e rm_Dr_lieCount sg m args below meth c D clsA A 3 0 0 (MQ below (qcI D clsA A (some (.int q)) (WC ad cI cZ x s d o t s2 d2 rest)) args sg rm_Dr_lieCount.cells rm_Dr_lieCount.slots A) 4 [(0, .ref (ad 19)), (1, .int z.1), (2, .int z.2)] [] (WC ad cI cZ x s d o t s2 d2 rest) := by
  have _ := hE
  intro n
  induction n with
  | zero => intro z h; cases h
  | succ n ih =>
    intro z h
    obtain ⟨zv0, zv1⟩ := z
    replace h : bd_Dr_lieCount_4 d kx (itn (bd_Dr_lieCount_4 d kx) n) (zv0, zv1) = some q := h
    unfold bd_Dr_lieCount_4 at h
    (try dsimp only at h)
    show vv p l e rm_Dr_lieCount sg m args below meth c D clsA A 3 0 0 (MQ below (qcI D clsA A (some (.int q)) (WC ad cI cZ x s d o t s2 d2 rest)) args sg rm_Dr_lieCount.cells rm_Dr_lieCount.slots A) 4 [(0, .ref (ad 19)), (1, .int zv0), (2, .int zv1)] [] (WC ad cI cZ x s d o t s2 d2 rest)
    refine r_iload_n (pc := 4) C d_Dr_lieCount_4 rfl 2 rfl ?_
    refine r_aload_n (pc := 5) C d_Dr_lieCount_5 rfl 0 rfl ?_
    refine r_get (pc := 6) (v := .int d.2.1) C hin_Dr 19 rfl rfl 1 (by decide) m_5 rfl rfl d_Dr_lieCount_6 ?_
    refine r_icmp_ge (pc := 9) (tgt := 29) C d_Dr_lieCount_9 (by decide) (fun c502 => ?_) (fun c502 => ?_)
    · replace h := ip c502 h
      refine r_loc (lv' := [(0, .ref (ad 19)), (1, .int zv0), (2, .int zv1)]) [0, 1, 2] rfl ?_
      exact K (zv0, zv1) h
    · replace h := iN c502 h
      refine r_aload_n (pc := 12) C d_Dr_lieCount_12 rfl 0 rfl ?_
      refine r_iload_n (pc := 13) C d_Dr_lieCount_13 rfl 2 rfl ?_
      obtain ⟨q500, hq500, h⟩ := ob h
      refine r_callV (pc := 14) (As := [.int zv1]) (rest := []) (st1 := [.int q500]) hE gg_good C hX (c_Dr_lies_D hE hq500) m_181 m_44 m_45 m_12 m_46 hd_Dr_lies 19 rfl rfl ⟨⟨(Nat.le_of_ble_eq_true rfl), (Nat.le_of_ble_eq_true rfl)⟩, (Nat.le_of_ble_eq_true rfl), (Nat.le_of_ble_eq_true rfl)⟩ (Nat.le_of_ble_eq_true rfl) rfl rfl d_Dr_lieCount_14 ?_
      refine r_if_eq (pc := 17) (tgt := 23) C d_Dr_lieCount_17 (by decide) (fun c501 => ?_) (fun c501 => ?_)
      · replace h := ip c501 h
        refine r_iincK (pc := 23) (w0 := 1) (lv' := [(2, .int (zv1 + 1)), (0, .ref (ad 19)), (1, .int zv0)]) C d_Dr_lieCount_23 (by decide) 2 rfl (by decide) rfl ?_
        refine r_goto (pc := 26) (tgt := 4) C d_Dr_lieCount_26 (by decide) ?_
        refine r_loc (lv' := [(0, .ref (ad 19)), (1, .int zv0), (2, .int (zv1 + 1))]) [1, 2, 0] rfl ?_
        exact ih (zv0, zv1 + 1) h
      · replace h := iN c501 h
        refine r_iincK (pc := 20) (w0 := 1) (lv' := [(1, .int (zv0 + 1)), (0, .ref (ad 19)), (2, .int zv1)]) C d_Dr_lieCount_20 (by decide) 1 rfl (by decide) rfl ?_
        refine r_iincK (pc := 23) (w0 := 1) (lv' := [(2, .int (zv1 + 1)), (1, .int (zv0 + 1)), (0, .ref (ad 19))]) C d_Dr_lieCount_23 (by decide) 2 rfl (by decide) rfl ?_
        refine r_goto (pc := 26) (tgt := 4) C d_Dr_lieCount_26 (by decide) ?_
        refine r_loc (lv' := [(0, .ref (ad 19)), (1, .int (zv0 + 1)), (2, .int (zv1 + 1))]) [2, 1, 0] rfl ?_
        exact ih (zv0 + 1, zv1 + 1) h
set_option maxHeartbeats 4000000 in
set_option maxRecDepth 100000 in
theorem c_Dr_lieCount_D {l : Launch} {E : State → Heap → Prop} {D : va_G} {A : Nat → Prop} {cI cZ cJ : ClassId} (hE : stb A E) {ad : Nat → Nat} {x : Int32} {s : Int64} {d : DD} {o : (Nat → Int32)} {t : TT} {s2 : Int64} {d2 : DD} {rest : va_W} {q : Int32} (h : f_Dr_lieCount d = some q) : cm l E D clsA (TY cI cZ cJ) A GG y_Dr_lieCount b_Dr_lieCount 3 (some .int) rm_Dr_lieCount [.ref (ad 19)] (WC ad cI cZ x s d o t s2 d2 rest) (some (.int q)) (WC ad cI cZ x s d o t s2 d2 rest) := by
  refine r_met (own := R_Dr) rfl (by decide) (Nat.le_of_ble_eq_true rfl) rfl ?_
  intro p e sg m args below meth c C hr hnm hX
  unfold f_Dr_lieCount at h
  refine r_iconst (pc := 0) (v := 0) C d_Dr_lieCount_0 (by decide) ?_
  refine r_istore_n (pc := 1) (lv' := [(1, .int (0)), (0, .ref (ad 19))]) C d_Dr_lieCount_1 rfl (by decide) rfl ?_
  refine r_iconst (pc := 2) (v := 0) C d_Dr_lieCount_2 (by decide) ?_
  refine r_istore_n (pc := 3) (lv' := [(2, .int (0)), (1, .int (0)), (0, .ref (ad 19))]) C d_Dr_lieCount_3 rfl (by decide) rfl ?_
  refine r_loc (lv' := [(0, .ref (ad 19)), (1, .int (0)), (2, .int (0))]) [2, 1, 0] rfl ?_
  refine vl_Dr_lieCount_4_D hE C hr hX (fun z503 h => ?_) 70 (0, 0) h
  refine r_iload_n (pc := 29) C d_Dr_lieCount_29 rfl 1 rfl ?_
  cases h
  exact r_iret (pc := 30) C hr rfl rfl rfl d_Dr_lieCount_30
def bd_Re_countingActs_4 (d : DD) (o : (Nat → Int32)) (kx : Int32 × Int32 → Option (Int32)) (rec : Int32 × Int32 → Option (Int32)) (z : Int32 × Int32) : Option (Int32) :=
  Option.bind (f_Dr_partCount d) (fun q508 => (if q508 ≤ z.2 then kx (z.1, z.2) else Option.bind (f_Re_isActThatCounts d o z.2) (fun q509 => (if q509 = 0 then rec (z.1, z.2 + 1) else rec (z.1 + 1, z.2 + 1)))))
def f_Re_countingActs (d : DD) (o : (Nat → Int32)) : Option (Int32) :=
  (itn (bd_Re_countingActs_4 d o (fun z516 => some z516.1)) 70 (0, 0))
abbrev rm_Re_countingActs : Room := { frames := 3, cells := 0, slots := 0, locals := 63 }
theorem hd_Re_countingActs : y_Re_countingActs.cls ≠ "java/lang/invoke/MethodHandle" ∧ y_Re_countingActs.cls ≠ "java/lang/invoke/VarHandle" ∧ (parseMethodDescriptor y_Re_countingActs.desc).map (fun d => d.parameters.length) = some 0 := by decide +kernel
set_option maxHeartbeats 4000000 in
set_option maxRecDepth 100000 in
theorem vl_Re_countingActs_4_R {l : Launch} {E : State → Heap → Prop} {D : va_G} {A : Nat → Prop} {cI cZ cJ : ClassId} (hE : stb A E) {ad : Nat → Nat} {x : Int32} {s : Int64} {d : DD} {o : (Nat → Int32)} {t : TT} {s2 : Int64} {d2 : DD} {rest : va_W} {p : Program} {e : Env} {sg : State} {m : MethodId} {args : Array Value} {below : List Frame} {meth : Method} {c : Code} (C : cx p sg m args meth c D clsA (TY cI cZ cJ) A GG R_Re b_Re_countingActs 3) (hr : meth.sig.returnType = (some .int)) (hX : E sg sg.heap) {q : Int32} {kx : Int32 × Int32 → Option (Int32)} (K : ∀ z : Int32 × Int32, kx z = some q → vv p l e rm_Re_countingActs sg m args below meth c D clsA A 3 0 0 (MQ below (qcI D clsA A (some (.int q)) (WC ad cI cZ x s d o t s2 d2 rest)) args sg rm_Re_countingActs.cells rm_Re_countingActs.slots A) 32 [(0, .ref (ad 13)), (1, .int z.1), (2, .int z.2)] [] (WC ad cI cZ x s d o t s2 d2 rest)) :
    ∀ (n : Nat) (z : Int32 × Int32), itn (bd_Re_countingActs_4 d o kx) n z = some q → vv p l e rm_Re_countingActs sg m args below meth c D clsA A 3 0 0 (MQ below (qcI D clsA A (some (.int q)) (WC ad cI cZ x s d o t s2 d2 rest)) args sg rm_Re_countingActs.cells rm_Re_countingActs.slots A) 4 [(0, .ref (ad 13)), (1, .int z.1), (2, .int z.2)] [] (WC ad cI cZ x s d o t s2 d2 rest) := by
  have _ := hE
  intro n
  induction n with
  | zero => intro z h; cases h
  | succ n ih =>
    intro z h
    obtain ⟨zv0, zv1⟩ := z
    replace h : bd_Re_countingActs_4 d o kx (itn (bd_Re_countingActs_4 d o kx) n) (zv0, zv1) = some q := h
    unfold bd_Re_countingActs_4 at h
    (try dsimp only at h)
    show vv p l e rm_Re_countingActs sg m args below meth c D clsA A 3 0 0 (MQ below (qcI D clsA A (some (.int q)) (WC ad cI cZ x s d o t s2 d2 rest)) args sg rm_Re_countingActs.cells rm_Re_countingActs.slots A) 4 [(0, .ref (ad 13)), (1, .int zv0), (2, .int zv1)] [] (WC ad cI cZ x s d o t s2 d2 rest)
    refine r_iload_n (pc := 4) C d_Re_countingActs_4 rfl 2 rfl ?_
    refine r_aload_n (pc := 5) C d_Re_countingActs_5 rfl 0 rfl ?_
    refine r_get (pc := 6) (v := .ref (ad 19)) C hin_Re 13 rfl rfl 0 (by decide) m_7 rfl rfl d_Re_countingActs_6 ?_
    obtain ⟨q512, hq512, h⟩ := ob h
    refine r_callV (pc := 9) (As := []) (rest := [.int zv1]) (st1 := [.int q512, .int zv1]) hE gg_good C hX (c_Dr_partCount_D hE hq512) m_147 m_97 m_98 m_12 m_99 hd_Dr_partCount 19 rfl rfl ⟨⟨(Nat.le_of_ble_eq_true rfl), (Nat.le_of_ble_eq_true rfl)⟩, (Nat.le_of_ble_eq_true rfl), (Nat.le_of_ble_eq_true rfl)⟩ (Nat.le_of_ble_eq_true rfl) rfl rfl d_Re_countingActs_9 ?_
    refine r_icmp_ge (pc := 12) (tgt := 32) C d_Re_countingActs_12 (by decide) (fun c515 => ?_) (fun c515 => ?_)
    · replace h := ip c515 h
      refine r_loc (lv' := [(0, .ref (ad 13)), (1, .int zv0), (2, .int zv1)]) [0, 1, 2] rfl ?_
      exact K (zv0, zv1) h
    · replace h := iN c515 h
      refine r_aload_n (pc := 15) C d_Re_countingActs_15 rfl 0 rfl ?_
      refine r_iload_n (pc := 16) C d_Re_countingActs_16 rfl 2 rfl ?_
      obtain ⟨q513, hq513, h⟩ := ob h
      refine r_callV (pc := 17) (As := [.int zv1]) (rest := []) (st1 := [.int q513]) hE gg_good C hX (c_Re_isActThatCounts_R hE hq513) m_186 m_93 m_94 m_22 m_95 hd_Re_isActThatCounts 13 rfl rfl ⟨⟨(Nat.le_of_ble_eq_true rfl), (Nat.le_of_ble_eq_true rfl)⟩, (Nat.le_of_ble_eq_true rfl), (Nat.le_of_ble_eq_true rfl)⟩ (Nat.le_of_ble_eq_true rfl) rfl rfl d_Re_countingActs_17 ?_
      refine r_if_eq (pc := 20) (tgt := 26) C d_Re_countingActs_20 (by decide) (fun c514 => ?_) (fun c514 => ?_)
      · replace h := ip c514 h
        refine r_iincK (pc := 26) (w0 := 1) (lv' := [(2, .int (zv1 + 1)), (0, .ref (ad 13)), (1, .int zv0)]) C d_Re_countingActs_26 (by decide) 2 rfl (by decide) rfl ?_
        refine r_goto (pc := 29) (tgt := 4) C d_Re_countingActs_29 (by decide) ?_
        refine r_loc (lv' := [(0, .ref (ad 13)), (1, .int zv0), (2, .int (zv1 + 1))]) [1, 2, 0] rfl ?_
        exact ih (zv0, zv1 + 1) h
      · replace h := iN c514 h
        refine r_iincK (pc := 23) (w0 := 1) (lv' := [(1, .int (zv0 + 1)), (0, .ref (ad 13)), (2, .int zv1)]) C d_Re_countingActs_23 (by decide) 1 rfl (by decide) rfl ?_
        refine r_iincK (pc := 26) (w0 := 1) (lv' := [(2, .int (zv1 + 1)), (1, .int (zv0 + 1)), (0, .ref (ad 13))]) C d_Re_countingActs_26 (by decide) 2 rfl (by decide) rfl ?_
        refine r_goto (pc := 29) (tgt := 4) C d_Re_countingActs_29 (by decide) ?_
        refine r_loc (lv' := [(0, .ref (ad 13)), (1, .int (zv0 + 1)), (2, .int (zv1 + 1))]) [2, 1, 0] rfl ?_
        exact ih (zv0 + 1, zv1 + 1) h
set_option maxHeartbeats 4000000 in
set_option maxRecDepth 100000 in
theorem c_Re_countingActs_R {l : Launch} {E : State → Heap → Prop} {D : va_G} {A : Nat → Prop} {cI cZ cJ : ClassId} (hE : stb A E) {ad : Nat → Nat} {x : Int32} {s : Int64} {d : DD} {o : (Nat → Int32)} {t : TT} {s2 : Int64} {d2 : DD} {rest : va_W} {q : Int32} (h : f_Re_countingActs d o = some q) : cm l E D clsA (TY cI cZ cJ) A GG y_Re_countingActs b_Re_countingActs 3 (some .int) rm_Re_countingActs [.ref (ad 13)] (WC ad cI cZ x s d o t s2 d2 rest) (some (.int q)) (WC ad cI cZ x s d o t s2 d2 rest) := by
  refine r_met (own := R_Re) rfl (by decide) (Nat.le_of_ble_eq_true rfl) rfl ?_
  intro p e sg m args below meth c C hr hnm hX
  unfold f_Re_countingActs at h
  refine r_iconst (pc := 0) (v := 0) C d_Re_countingActs_0 (by decide) ?_
  refine r_istore_n (pc := 1) (lv' := [(1, .int (0)), (0, .ref (ad 13))]) C d_Re_countingActs_1 rfl (by decide) rfl ?_
  refine r_iconst (pc := 2) (v := 0) C d_Re_countingActs_2 (by decide) ?_
  refine r_istore_n (pc := 3) (lv' := [(2, .int (0)), (1, .int (0)), (0, .ref (ad 13))]) C d_Re_countingActs_3 rfl (by decide) rfl ?_
  refine r_loc (lv' := [(0, .ref (ad 13)), (1, .int (0)), (2, .int (0))]) [2, 1, 0] rfl ?_
  refine vl_Re_countingActs_4_R hE C hr hX (fun z516 h => ?_) 70 (0, 0) h
  refine r_iload_n (pc := 32) C d_Re_countingActs_32 rfl 1 rfl ?_
  cases h
  exact r_iret (pc := 33) C hr rfl rfl rfl d_Re_countingActs_33
def f_Dr_drawnSize (d : DD) : Option (Int32) :=
  some d.1
abbrev rm_Dr_drawnSize : Room := { frames := 0, cells := 0, slots := 0, locals := 0 }
theorem hd_Dr_drawnSize : y_Dr_drawnSize.cls ≠ "java/lang/invoke/MethodHandle" ∧ y_Dr_drawnSize.cls ≠ "java/lang/invoke/VarHandle" ∧ (parseMethodDescriptor y_Dr_drawnSize.desc).map (fun d => d.parameters.length) = some 0 := by decide +kernel
set_option maxHeartbeats 4000000 in
set_option maxRecDepth 100000 in
theorem c_Dr_drawnSize_D {l : Launch} {E : State → Heap → Prop} {D : va_G} {A : Nat → Prop} {cI cZ cJ : ClassId} (hE : stb A E) {ad : Nat → Nat} {x : Int32} {s : Int64} {d : DD} {o : (Nat → Int32)} {t : TT} {s2 : Int64} {d2 : DD} {rest : va_W} {q : Int32} (h : f_Dr_drawnSize d = some q) : cm l E D clsA (TY cI cZ cJ) A GG y_Dr_drawnSize b_Dr_drawnSize 1 (some .int) rm_Dr_drawnSize [.ref (ad 19)] (WC ad cI cZ x s d o t s2 d2 rest) (some (.int q)) (WC ad cI cZ x s d o t s2 d2 rest) := by
  refine r_met (own := R_Dr) rfl (by decide) (Nat.le_of_ble_eq_true rfl) rfl ?_
  intro p e sg m args below meth c C hr hnm hX
  unfold f_Dr_drawnSize at h
  refine r_aload_n (pc := 0) C d_Dr_drawnSize_0 rfl 0 rfl ?_
  refine r_get (pc := 1) (v := .int d.1) C hin_Dr 19 rfl rfl 0 (by decide) m_156 rfl rfl d_Dr_drawnSize_1 ?_
  cases h
  exact r_iret (pc := 4) C hr rfl rfl rfl d_Dr_drawnSize_4
