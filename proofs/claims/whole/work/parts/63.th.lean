def f_SD_most (d : DD) (o : (Nat → Int32)) (t : TT) (p0 : Int32) : Option ((String ⊕ Int32) × TT) :=
  Option.bind (f_SD_refuseMissingPlace d p0) (fun q737 => sm q737 (fun e739 => some ((Sum.inl e739), t)) (fun v738 => Option.bind (f_St_tell d o t) (fun q741 => Option.bind (f_St_heaviestAt d q741.2 p0) (fun q742 => some ((Sum.inr q742), q741.2)))))
abbrev rm_SD_most : Room := { frames := 7, cells := 1, slots := 6, locals := 111 }
theorem hd_SD_most : y_SD_most.cls ≠ "java/lang/invoke/MethodHandle" ∧ y_SD_most.cls ≠ "java/lang/invoke/VarHandle" ∧ (parseMethodDescriptor y_SD_most.desc).map (fun d => d.parameters.length) = some 1 := by decide +kernel
set_option maxHeartbeats 4000000 in
set_option maxRecDepth 100000 in
theorem c_SD_most_X {l : Launch} {D : va_G} {A : Nat → Prop} {cI cZ cJ : ClassId} {u0 : State} (h0 : tw u0) (hA0 : ∀ q, A q → u0.heap.size ≤ q) (hlT : l.stackTraces = false) {ad : Nat → Nat} {x : Int32} {s : Int64} {d : DD} {o : (Nat → Int32)} {t : TT} {s2 : Int64} {d2 : DD} {rest : va_W} {p0 : Int32} {q : (String ⊕ Int32) × TT} (h : f_SD_most d o t p0 = some q) : cmx enI l (lat u0) D clsA (TY cI cZ cJ) A GG y_SD_most b_SD_most 2 (some .int) rm_SD_most [.ref (ad 20), .int p0] (WC ad cI cZ x s d o t s2 d2 rest) q.1 (WC ad cI cZ x s d o q.2 s2 d2 rest) := by
  have hE := lat_stb hA0
  refine r_metx (own := R_SD) rfl (by decide) (Nat.le_of_ble_eq_true rfl) rfl ?_
  intro p e sg m args below meth c C hr hno hX
  unfold f_SD_most at h
  refine r_aload_n (pc := 0) C d_SD_most_0 rfl 0 rfl ?_
  refine r_iload_n (pc := 1) C d_SD_most_1 rfl 1 rfl ?_
  obtain ⟨q737, hq737, h⟩ := ob h
  obtain ⟨e739, hs740⟩ | ⟨v738, hs740⟩ := sm_c q737
  · replace h := sm_l hs740 h
    cases h
    refine r_callVt (pc := 2) (As := [.int p0]) (rest := []) hE gg_good C hX (c_SD_refuseMissingPlace_X h0 hA0 hlT hq737) hs740 m_244 m_245 m_246 m_132 m_247 hd_SD_refuseMissingPlace 20 rfl rfl ⟨⟨(Nat.le_of_ble_eq_true rfl), (Nat.le_of_ble_eq_true rfl)⟩, (Nat.le_of_ble_eq_true rfl), (Nat.le_of_ble_eq_true rfl)⟩ (Nat.le_of_ble_eq_true rfl) rfl d_SD_most_2 ?_
    exact r_outx C hno (Nat.le_of_ble_eq_true rfl) (Nat.le_of_ble_eq_true rfl) rfl rfl
  · replace h := sm_r hs740 h
    refine r_callV (pc := 2) (As := [.int p0]) (rest := []) (st1 := []) hE gg_good C hX (cm_of_cmx (c_SD_refuseMissingPlace_X h0 hA0 hlT hq737) hs740) m_244 m_245 m_246 m_132 m_247 hd_SD_refuseMissingPlace 20 rfl rfl ⟨⟨(Nat.le_of_ble_eq_true rfl), (Nat.le_of_ble_eq_true rfl)⟩, (Nat.le_of_ble_eq_true rfl), (Nat.le_of_ble_eq_true rfl)⟩ (Nat.le_of_ble_eq_true rfl) rfl rfl d_SD_most_2 ?_
    refine r_aload_n (pc := 5) C d_SD_most_5 rfl 0 rfl ?_
    refine r_get (pc := 6) (v := .ref (ad 10)) C hin_SD 20 rfl rfl 3 (by decide) m_117 rfl rfl d_SD_most_6 ?_
    obtain ⟨q741, hq741, h⟩ := ob h
    refine r_callV (pc := 9) (As := []) (rest := []) (st1 := [.int q741.1]) hE gg_good C hX (c_St_tell_T hE hq741) m_119 m_120 m_121 m_73 m_122 hd_St_tell 10 rfl rfl ⟨⟨(Nat.le_of_ble_eq_true rfl), (Nat.le_of_ble_eq_true rfl)⟩, (Nat.le_of_ble_eq_true rfl), (Nat.le_of_ble_eq_true rfl)⟩ (Nat.le_of_ble_eq_true rfl) rfl rfl d_SD_most_9 ?_
    refine r_pop (pc := 12) C d_SD_most_12 rfl ?_
    refine r_aload_n (pc := 13) C d_SD_most_13 rfl 0 rfl ?_
    refine r_get (pc := 14) (v := .ref (ad 10)) C hin_SD 20 rfl rfl 3 (by decide) m_117 rfl rfl d_SD_most_14 ?_
    refine r_iload_n (pc := 17) C d_SD_most_17 rfl 1 rfl ?_
    obtain ⟨q742, hq742, h⟩ := ob h
    refine r_callV (pc := 18) (As := [.int p0]) (rest := []) (st1 := [.int q742]) hE gg_good C hX (c_St_heaviestAt_T hE hq742) m_248 m_249 m_250 m_73 m_251 hd_St_heaviestAt 10 rfl rfl ⟨⟨(Nat.le_of_ble_eq_true rfl), (Nat.le_of_ble_eq_true rfl)⟩, (Nat.le_of_ble_eq_true rfl), (Nat.le_of_ble_eq_true rfl)⟩ (Nat.le_of_ble_eq_true rfl) rfl rfl d_SD_most_18 ?_
    cases h
    exact r_iretx (pc := 21) C (Nat.le_of_ble_eq_true rfl) (Nat.le_of_ble_eq_true rfl) hr rfl _ rfl rfl rfl d_SD_most_21
def f_SD_same (d : DD) (s2 : Int64) (d2 : DD) (p0 : Int64) (p1 : Int32) : Option ((String ⊕ Int32) × Int64 × DD) :=
  Option.bind (f_SD_refuseWrongSize p1) (fun q751 => sm q751 (fun e753 => some ((Sum.inl e753), s2, d2)) (fun v752 => Option.bind (f_So_restart p0) (fun q755 => Option.bind (f_Dr_redraw q755 d2 p1) (fun q756 => Option.bind (f_Dr_hasThePartsOf d q756.2) (fun q757 => (if q757 = 0 ∨ q757 = 1 then some ((Sum.inr q757), q756.1, q756.2) else none))))))
abbrev rm_SD_same : Room := { frames := 7, cells := 1, slots := 6, locals := 111 }
theorem hd_SD_same : y_SD_same.cls ≠ "java/lang/invoke/MethodHandle" ∧ y_SD_same.cls ≠ "java/lang/invoke/VarHandle" ∧ (parseMethodDescriptor y_SD_same.desc).map (fun d => d.parameters.length) = some 2 := by decide +kernel
set_option maxHeartbeats 4000000 in
set_option maxRecDepth 100000 in
theorem c_SD_same_X {l : Launch} {D : va_G} {A : Nat → Prop} {cI cZ cJ : ClassId} {u0 : State} (h0 : tw u0) (hA0 : ∀ q, A q → u0.heap.size ≤ q) (hlT : l.stackTraces = false) {ad : Nat → Nat} {x : Int32} {s : Int64} {d : DD} {o : (Nat → Int32)} {t : TT} {s2 : Int64} {d2 : DD} {rest : va_W} {p0 : Int64} {p1 : Int32} {q : (String ⊕ Int32) × Int64 × DD} (h : f_SD_same d s2 d2 p0 p1 = some q) : cmx enI l (lat u0) D clsA (TY cI cZ cJ) A GG y_SD_same b_SD_same 4 (some .boolean) rm_SD_same [.ref (ad 20), .long p0, .int p1] (WC ad cI cZ x s d o t s2 d2 rest) q.1 (WC ad cI cZ x s d o t q.2.1 q.2.2 rest) := by
  have hE := lat_stb hA0
  refine r_metx (own := R_SD) rfl (by decide) (Nat.le_of_ble_eq_true rfl) rfl ?_
  intro p e sg m args below meth c C hr hno hX
  unfold f_SD_same at h
  refine r_aload_n (pc := 0) C d_SD_same_0 rfl 0 rfl ?_
  refine r_iload_n (pc := 1) C d_SD_same_1 rfl 2 rfl ?_
  obtain ⟨q751, hq751, h⟩ := ob h
  obtain ⟨e753, hs754⟩ | ⟨v752, hs754⟩ := sm_c q751
  · replace h := sm_l hs754 h
    cases h
    refine r_callVt (pc := 2) (As := [.int p1]) (rest := []) hE gg_good C hX (c_SD_refuseWrongSize_X h0 hA0 hlT hq751) hs754 m_210 m_211 m_212 m_132 m_213 hd_SD_refuseWrongSize 20 rfl rfl ⟨⟨(Nat.le_of_ble_eq_true rfl), (Nat.le_of_ble_eq_true rfl)⟩, (Nat.le_of_ble_eq_true rfl), (Nat.le_of_ble_eq_true rfl)⟩ (Nat.le_of_ble_eq_true rfl) rfl d_SD_same_2 ?_
    exact r_outx C hno (Nat.le_of_ble_eq_true rfl) (Nat.le_of_ble_eq_true rfl) rfl rfl
  · replace h := sm_r hs754 h
    refine r_callV (pc := 2) (As := [.int p1]) (rest := []) (st1 := []) hE gg_good C hX (cm_of_cmx (c_SD_refuseWrongSize_X h0 hA0 hlT hq751) hs754) m_210 m_211 m_212 m_132 m_213 hd_SD_refuseWrongSize 20 rfl rfl ⟨⟨(Nat.le_of_ble_eq_true rfl), (Nat.le_of_ble_eq_true rfl)⟩, (Nat.le_of_ble_eq_true rfl), (Nat.le_of_ble_eq_true rfl)⟩ (Nat.le_of_ble_eq_true rfl) rfl rfl d_SD_same_2 ?_
    refine r_aload_n (pc := 5) C d_SD_same_5 rfl 0 rfl ?_
    refine r_get (pc := 6) (v := .ref (ad 6)) C hin_SD 20 rfl rfl 4 (by decide) m_252 rfl rfl d_SD_same_6 ?_
    refine r_lload_n (pc := 9) C d_SD_same_9 rfl 1 rfl ?_
    obtain ⟨q755, hq755, h⟩ := ob h
    refine r_callV (pc := 10) (As := [.long p0]) (rest := []) (st1 := []) hE gg_good C hX (c_So_restart_S2 hE hq755) m_142 m_143 m_144 m_145 m_146 hd_So_restart 6 rfl rfl ⟨⟨(Nat.le_of_ble_eq_true rfl), (Nat.le_of_ble_eq_true rfl)⟩, (Nat.le_of_ble_eq_true rfl), (Nat.le_of_ble_eq_true rfl)⟩ (Nat.le_of_ble_eq_true rfl) rfl rfl d_SD_same_10 ?_
    refine r_aload_n (pc := 13) C d_SD_same_13 rfl 0 rfl ?_
    refine r_get (pc := 14) (v := .ref (ad 5)) C hin_SD 20 rfl rfl 5 (by decide) m_253 rfl rfl d_SD_same_14 ?_
    refine r_aload_n (pc := 17) C d_SD_same_17 rfl 0 rfl ?_
    refine r_get (pc := 18) (v := .ref (ad 6)) C hin_SD 20 rfl rfl 4 (by decide) m_252 rfl rfl d_SD_same_18 ?_
    refine r_iload_n (pc := 21) C d_SD_same_21 rfl 2 rfl ?_
    obtain ⟨q756, hq756, h⟩ := ob h
    refine r_callV (pc := 22) (As := [.ref (ad 6), .int p1]) (rest := []) (st1 := []) hE gg_good C hX (c_Dr_redraw_D2 hE hq756) m_206 m_207 m_208 m_12 m_209 hd_Dr_redraw 5 rfl rfl ⟨⟨(Nat.le_of_ble_eq_true rfl), (Nat.le_of_ble_eq_true rfl)⟩, (Nat.le_of_ble_eq_true rfl), (Nat.le_of_ble_eq_true rfl)⟩ (Nat.le_of_ble_eq_true rfl) rfl rfl d_SD_same_22 ?_
    refine r_aload_n (pc := 25) C d_SD_same_25 rfl 0 rfl ?_
    refine r_get (pc := 26) (v := .ref (ad 19)) C hin_SD 20 rfl rfl 1 (by decide) m_123 rfl rfl d_SD_same_26 ?_
    refine r_aload_n (pc := 29) C d_SD_same_29 rfl 0 rfl ?_
    refine r_get (pc := 30) (v := .ref (ad 5)) C hin_SD 20 rfl rfl 5 (by decide) m_253 rfl rfl d_SD_same_30 ?_
    obtain ⟨q757, hq757, h⟩ := ob h
    refine r_callV (pc := 33) (As := [.ref (ad 5)]) (rest := []) (st1 := [.int q757]) hE gg_good C hX (c_Dr_hasThePartsOf_D hE hq757) m_254 m_255 m_256 m_12 m_257 hd_Dr_hasThePartsOf 19 rfl rfl ⟨⟨(Nat.le_of_ble_eq_true rfl), (Nat.le_of_ble_eq_true rfl)⟩, (Nat.le_of_ble_eq_true rfl), (Nat.le_of_ble_eq_true rfl)⟩ (Nat.le_of_ble_eq_true rfl) rfl rfl d_SD_same_33 ?_
    obtain ⟨hb758, h⟩ := ig h
    cases h
    exact r_iretx (pc := 36) C (Nat.le_of_ble_eq_true rfl) (Nat.le_of_ble_eq_true rfl) hr (nb01 hb758) _ rfl rfl rfl d_SD_same_36
def f_La_draw (s : Int64) (d : DD) (o : (Nat → Int32)) (w : (Nat → Int64)) (p1 : Int32) : Option (Int32 × Int64 × DD × ((Nat → Int32)) × ((Nat → Int64))) :=
  Option.bind (f_SD_draw s d o p1) (fun q766 => sm q766.1 (fun e768 => (if e768 = "java/lang/IllegalArgumentException" then some (1, q766.2.1, q766.2.2.1, q766.2.2.2, w) else none)) (fun v767 => (if ((0 : Int32) < 0 ∨ 1 ≤ (0 : Int32).toNatClampNeg) then none else some (0, q766.2.1, q766.2.2.1, q766.2.2.2, vp_updL w (0 : Int32).toNatClampNeg v767.toInt64))))
abbrev rm_La_draw : Room := { frames := 8, cells := 1, slots := 6, locals := 132 }
theorem hd_La_draw : y_La_draw.cls ≠ "java/lang/invoke/MethodHandle" ∧ y_La_draw.cls ≠ "java/lang/invoke/VarHandle" ∧ (parseMethodDescriptor y_La_draw.desc).map (fun d => d.parameters.length) = some 3 := by decide +kernel
set_option maxHeartbeats 4000000 in
set_option maxRecDepth 100000 in
theorem c_La_draw_X {l : Launch} {D : va_G} {A : Nat → Prop} {cI cZ cJ : ClassId} {u0 : State} (h0 : tw u0) (hA0 : ∀ q, A q → u0.heap.size ≤ q) (hlT : l.stackTraces = false) {ad : Nat → Nat} {x : Int32} {s : Int64} {d : DD} {o : (Nat → Int32)} {t : TT} {s2 : Int64} {d2 : DD} {w : (Nat → Int64)} {rest : va_W} {p1 : Int32} {q : Int32 × Int64 × DD × ((Nat → Int32)) × ((Nat → Int64))} (h : f_La_draw s d o w p1 = some q) : cmw l (lat u0) D clsA (TY cI cZ cJ) A GG y_La_draw b_La_draw 4 (some .int) [(0, 9, 12, 13)] rm_La_draw [.ref (ad 20), .int p1, .ref (ad 21)] (WC ad cI cZ x s d o t s2 d2 ((ad 21, .inl (cJ, 1, .inr (.inl w))) :: rest)) (some (.int q.1)) (WC ad cI cZ x q.2.1 q.2.2.1 q.2.2.2.1 t s2 d2 ((ad 21, .inl (cJ, 1, .inr (.inl q.2.2.2.2))) :: rest)) := by
  have hE := lat_stb hA0
  refine r_metw (own := R_La) rfl (by decide) (Nat.le_of_ble_eq_true rfl) rfl ?_
  intro p e sg m args below meth c C hr htab hX
  unfold f_La_draw at h
  refine r_aload_n (pc := 0) C d_La_draw_0 rfl 2 rfl ?_
  refine r_iconst (pc := 1) (v := 0) C d_La_draw_1 (by decide) ?_
  refine r_aload_n (pc := 2) C d_La_draw_2 rfl 0 rfl ?_
  refine r_iload_n (pc := 3) C d_La_draw_3 rfl 1 rfl ?_
  obtain ⟨q766, hq766, h⟩ := ob h
  obtain ⟨e768, hs769⟩ | ⟨v767, hs769⟩ := sm_c q766.1
  · replace h := sm_l hs769 h
    refine r_callVt (pc := 4) (As := [.int p1]) (rest := [.int (0), .ref (ad 21)]) hE gg_good C hX (c_SD_draw_X h0 hA0 hlT hq766) hs769 m_258 m_259 m_260 m_132 m_261 hd_SD_draw 20 rfl rfl ⟨⟨(Nat.le_of_ble_eq_true rfl), (Nat.le_of_ble_eq_true rfl)⟩, (Nat.le_of_ble_eq_true rfl), (Nat.le_of_ble_eq_true rfl)⟩ (Nat.le_of_ble_eq_true rfl) rfl d_La_draw_4 ?_
    by_cases c772 : e768 = "java/lang/IllegalArgumentException"
    · replace h := ip c772 h
      subst c772
      refine r_catch1 (pc := 4) (x := ⟨0, 9, 12, 13⟩) C htab (by decide) (by decide) m_262 (tw_cast h0 hX (by decide)) (fun x771 => ?_)
      refine r_astore_n (pc := 12) (lv' := [(3, .ref x771), (0, .ref (ad 20)), (1, .int p1), (2, .ref (ad 21))]) C d_La_draw_12 rfl (by decide) rfl ?_
      refine r_iconst (pc := 13) (v := 1) C d_La_draw_13 (by decide) ?_
      cases h
      exact r_iret (pc := 14) C hr rfl rfl rfl d_La_draw_14
    replace h := iN c772 h
    cases h
  · replace h := sm_r hs769 h
    refine r_callV (pc := 4) (As := [.int p1]) (rest := [.int (0), .ref (ad 21)]) (st1 := [.int v767, .int (0), .ref (ad 21)]) hE gg_good C hX (cm_of_cmx (c_SD_draw_X h0 hA0 hlT hq766) hs769) m_258 m_259 m_260 m_132 m_261 hd_SD_draw 20 rfl rfl ⟨⟨(Nat.le_of_ble_eq_true rfl), (Nat.le_of_ble_eq_true rfl)⟩, (Nat.le_of_ble_eq_true rfl), (Nat.le_of_ble_eq_true rfl)⟩ (Nat.le_of_ble_eq_true rfl) rfl rfl d_La_draw_4 ?_
    refine r_i2l (pc := 7) C d_La_draw_7 ?_
    obtain ⟨hi770, h⟩ := ign h
    refine r_last (pc := 8) (ws' := WC ad cI cZ x q766.2.1 q766.2.2.1 q766.2.2.2 t s2 d2 ((ad 21, .inl (cJ, 1, .inr (.inl (vp_updL w (0 : Int32).toNatClampNeg v767.toInt64)))) :: rest)) C 21 2 rfl rfl hi770 rfl d_La_draw_8 ?_
    refine r_goto (pc := 9) (tgt := 15) C d_La_draw_9 (by decide) ?_
    refine r_iconst (pc := 15) (v := 0) C d_La_draw_15 (by decide) ?_
    cases h
    exact r_iret (pc := 16) C hr rfl rfl rfl d_La_draw_16
def f_La_part (d : DD) (o : (Nat → Int32)) (w : (Nat → Int64)) (p1 : Int32) (p2 : Int32) : Option (Int32 × ((Nat → Int64))) :=
  Option.bind (f_SD_part d o p1 p2) (fun q782 => sm q782 (fun e784 => (if e784 = "java/util/NoSuchElementException" then some (1, w) else (if e784 = "java/lang/IllegalArgumentException" then some (2, w) else none))) (fun v783 => (if ((0 : Int32) < 0 ∨ 1 ≤ (0 : Int32).toNatClampNeg) then none else some (0, vp_updL w (0 : Int32).toNatClampNeg v783.toInt64))))
abbrev rm_La_part : Room := { frames := 8, cells := 2, slots := 12, locals := 133 }
theorem hd_La_part : y_La_part.cls ≠ "java/lang/invoke/MethodHandle" ∧ y_La_part.cls ≠ "java/lang/invoke/VarHandle" ∧ (parseMethodDescriptor y_La_part.desc).map (fun d => d.parameters.length) = some 4 := by decide +kernel
set_option maxHeartbeats 4000000 in
set_option maxRecDepth 100000 in
theorem c_La_part_X {l : Launch} {D : va_G} {A : Nat → Prop} {cI cZ cJ : ClassId} {u0 : State} (h0 : tw u0) (hA0 : ∀ q, A q → u0.heap.size ≤ q) (hlT : l.stackTraces = false) {ad : Nat → Nat} {x : Int32} {s : Int64} {d : DD} {o : (Nat → Int32)} {t : TT} {s2 : Int64} {d2 : DD} {w : (Nat → Int64)} {rest : va_W} {p1 : Int32} {p2 : Int32} {q : Int32 × ((Nat → Int64))} (h : f_La_part d o w p1 p2 = some q) : cmw l (lat u0) D clsA (TY cI cZ cJ) A GG y_La_part b_La_part 5 (some .int) [(0, 10, 13, 19), (0, 10, 17, 13)] rm_La_part [.ref (ad 20), .int p1, .int p2, .ref (ad 21)] (WC ad cI cZ x s d o t s2 d2 ((ad 21, .inl (cJ, 1, .inr (.inl w))) :: rest)) (some (.int q.1)) (WC ad cI cZ x s d o t s2 d2 ((ad 21, .inl (cJ, 1, .inr (.inl q.2))) :: rest)) := by
  have hE := lat_stb hA0
  refine r_metw (own := R_La) rfl (by decide) (Nat.le_of_ble_eq_true rfl) rfl ?_
  intro p e sg m args below meth c C hr htab hX
  unfold f_La_part at h
  refine r_aload_n (pc := 0) C d_La_part_0 rfl 3 rfl ?_
  refine r_iconst (pc := 1) (v := 0) C d_La_part_1 (by decide) ?_
  refine r_aload_n (pc := 2) C d_La_part_2 rfl 0 rfl ?_
  refine r_iload_n (pc := 3) C d_La_part_3 rfl 1 rfl ?_
  refine r_iload_n (pc := 4) C d_La_part_4 rfl 2 rfl ?_
  obtain ⟨q782, hq782, h⟩ := ob h
  obtain ⟨e784, hs785⟩ | ⟨v783, hs785⟩ := sm_c q782
  · replace h := sm_l hs785 h
    refine r_callVt (pc := 5) (As := [.int p1, .int p2]) (rest := [.int (0), .ref (ad 21)]) hE gg_good C hX (c_SD_part_X h0 hA0 hlT hq782) hs785 m_263 m_264 m_265 m_132 m_266 hd_SD_part 20 rfl rfl ⟨⟨(Nat.le_of_ble_eq_true rfl), (Nat.le_of_ble_eq_true rfl)⟩, (Nat.le_of_ble_eq_true rfl), (Nat.le_of_ble_eq_true rfl)⟩ (Nat.le_of_ble_eq_true rfl) rfl d_La_part_5 ?_
    by_cases c789 : e784 = "java/util/NoSuchElementException"
    · replace h := ip c789 h
      subst c789
      refine r_catch1 (pc := 5) (x := ⟨0, 10, 13, 19⟩) C htab (by decide) (by decide) m_267 (tw_cast h0 hX (by decide)) (fun x787 => ?_)
      refine r_astore (pc := 13) (lv' := [(4, .ref x787), (0, .ref (ad 20)), (1, .int p1), (2, .int p2), (3, .ref (ad 21))]) C d_La_part_13 (by decide) rfl ?_
      refine r_iconst (pc := 15) (v := 1) C d_La_part_15 (by decide) ?_
      cases h
      exact r_iret (pc := 16) C hr rfl rfl rfl d_La_part_16
    replace h := iN c789 h
    by_cases c790 : e784 = "java/lang/IllegalArgumentException"
    · replace h := ip c790 h
      subst c790
      refine r_catch2 (pc := 5) (y := ⟨0, 10, 13, 19⟩) (x := ⟨0, 10, 17, 13⟩) C htab (by decide) (by decide) m_267 (tw_not h0 hX (by decide)) (by decide) (by decide) m_262 (tw_cast h0 hX (by decide)) (fun x788 => ?_)
      refine r_astore (pc := 17) (lv' := [(4, .ref x788), (0, .ref (ad 20)), (1, .int p1), (2, .int p2), (3, .ref (ad 21))]) C d_La_part_17 (by decide) rfl ?_
      refine r_iconst (pc := 19) (v := 2) C d_La_part_19 (by decide) ?_
      cases h
      exact r_iret (pc := 20) C hr rfl rfl rfl d_La_part_20
    replace h := iN c790 h
    cases h
  · replace h := sm_r hs785 h
    refine r_callV (pc := 5) (As := [.int p1, .int p2]) (rest := [.int (0), .ref (ad 21)]) (st1 := [.int v783, .int (0), .ref (ad 21)]) hE gg_good C hX (cm_of_cmx (c_SD_part_X h0 hA0 hlT hq782) hs785) m_263 m_264 m_265 m_132 m_266 hd_SD_part 20 rfl rfl ⟨⟨(Nat.le_of_ble_eq_true rfl), (Nat.le_of_ble_eq_true rfl)⟩, (Nat.le_of_ble_eq_true rfl), (Nat.le_of_ble_eq_true rfl)⟩ (Nat.le_of_ble_eq_true rfl) rfl rfl d_La_part_5 ?_
    refine r_i2l (pc := 8) C d_La_part_8 ?_
    obtain ⟨hi786, h⟩ := ign h
    refine r_last (pc := 9) (ws' := WC ad cI cZ x s d o t s2 d2 ((ad 21, .inl (cJ, 1, .inr (.inl (vp_updL w (0 : Int32).toNatClampNeg v783.toInt64)))) :: rest)) C 21 2 rfl rfl hi786 rfl d_La_part_9 ?_
    refine r_goto (pc := 10) (tgt := 21) C d_La_part_10 (by decide) ?_
    refine r_iconst (pc := 21) (v := 0) C d_La_part_21 (by decide) ?_
    cases h
    exact r_iret (pc := 22) C hr rfl rfl rfl d_La_part_22
def f_La_leave (x : Int32) (d : DD) (o : (Nat → Int32)) (t : TT) (w : (Nat → Int64)) (p1 : Int32) (p2 : Int32) : Option (Int32 × ((Nat → Int32)) × TT × ((Nat → Int64))) :=
  Option.bind (f_SD_leave x d o t p1 p2) (fun q802 => sm q802.1 (fun e804 => (if e804 = "java/util/NoSuchElementException" then some (1, q802.2.1, q802.2.2, w) else (if e804 = "java/lang/IllegalStateException" then some (2, q802.2.1, q802.2.2, w) else none))) (fun v803 => (if v803 = 0 then (if ((0 : Int32) < 0 ∨ 1 ≤ (0 : Int32).toNatClampNeg) then none else some (0, q802.2.1, q802.2.2, vp_updL w (0 : Int32).toNatClampNeg (0))) else (if ((0 : Int32) < 0 ∨ 1 ≤ (0 : Int32).toNatClampNeg) then none else some (0, q802.2.1, q802.2.2, vp_updL w (0 : Int32).toNatClampNeg (1))))))
abbrev rm_La_leave : Room := { frames := 8, cells := 2, slots := 12, locals := 133 }
theorem hd_La_leave : y_La_leave.cls ≠ "java/lang/invoke/MethodHandle" ∧ y_La_leave.cls ≠ "java/lang/invoke/VarHandle" ∧ (parseMethodDescriptor y_La_leave.desc).map (fun d => d.parameters.length) = some 4 := by decide +kernel
set_option maxHeartbeats 4000000 in
set_option maxRecDepth 100000 in
theorem c_La_leave_X {l : Launch} {D : va_G} {A : Nat → Prop} {cI cZ cJ : ClassId} {u0 : State} (h0 : tw u0) (hA0 : ∀ q, A q → u0.heap.size ≤ q) (hlT : l.stackTraces = false) {ad : Nat → Nat} {x : Int32} {s : Int64} {d : DD} {o : (Nat → Int32)} {t : TT} {s2 : Int64} {d2 : DD} {w : (Nat → Int64)} {rest : va_W} {p1 : Int32} {p2 : Int32} {q : Int32 × ((Nat → Int32)) × TT × ((Nat → Int64))} (h : f_La_leave x d o t w p1 p2 = some q) : cmw l (lat u0) D clsA (TY cI cZ cJ) A GG y_La_leave b_La_leave 5 (some .int) [(0, 17, 20, 19), (0, 17, 24, 25)] rm_La_leave [.ref (ad 20), .int p1, .int p2, .ref (ad 21)] (WC ad cI cZ x s d o t s2 d2 ((ad 21, .inl (cJ, 1, .inr (.inl w))) :: rest)) (some (.int q.1)) (WC ad cI cZ x s d q.2.1 q.2.2.1 s2 d2 ((ad 21, .inl (cJ, 1, .inr (.inl q.2.2.2))) :: rest)) := by
  have hE := lat_stb hA0
  refine r_metw (own := R_La) rfl (by decide) (Nat.le_of_ble_eq_true rfl) rfl ?_
  intro p e sg m args below meth c C hr htab hX
  unfold f_La_leave at h
  refine r_aload_n (pc := 0) C d_La_leave_0 rfl 3 rfl ?_
  refine r_iconst (pc := 1) (v := 0) C d_La_leave_1 (by decide) ?_
  refine r_aload_n (pc := 2) C d_La_leave_2 rfl 0 rfl ?_
  refine r_iload_n (pc := 3) C d_La_leave_3 rfl 1 rfl ?_
  refine r_iload_n (pc := 4) C d_La_leave_4 rfl 2 rfl ?_
  obtain ⟨q802, hq802, h⟩ := ob h
  obtain ⟨e804, hs805⟩ | ⟨v803, hs805⟩ := sm_c q802.1
  · replace h := sm_l hs805 h
    refine r_callVt (pc := 5) (As := [.int p1, .int p2]) (rest := [.int (0), .ref (ad 21)]) hE gg_good C hX (c_SD_leave_X h0 hA0 hlT hq802) hs805 m_268 m_269 m_270 m_132 m_271 hd_SD_leave 20 rfl rfl ⟨⟨(Nat.le_of_ble_eq_true rfl), (Nat.le_of_ble_eq_true rfl)⟩, (Nat.le_of_ble_eq_true rfl), (Nat.le_of_ble_eq_true rfl)⟩ (Nat.le_of_ble_eq_true rfl) rfl d_La_leave_5 ?_
    by_cases c811 : e804 = "java/util/NoSuchElementException"
    · replace h := ip c811 h
      subst c811
      refine r_catch1 (pc := 5) (x := ⟨0, 17, 20, 19⟩) C htab (by decide) (by decide) m_267 (tw_cast h0 hX (by decide)) (fun x809 => ?_)
      refine r_astore (pc := 20) (lv' := [(4, .ref x809), (0, .ref (ad 20)), (1, .int p1), (2, .int p2), (3, .ref (ad 21))]) C d_La_leave_20 (by decide) rfl ?_
      refine r_iconst (pc := 22) (v := 1) C d_La_leave_22 (by decide) ?_
      cases h
      exact r_iret (pc := 23) C hr rfl rfl rfl d_La_leave_23
    replace h := iN c811 h
    by_cases c812 : e804 = "java/lang/IllegalStateException"
    · replace h := ip c812 h
      subst c812
      refine r_catch2 (pc := 5) (y := ⟨0, 17, 20, 19⟩) (x := ⟨0, 17, 24, 25⟩) C htab (by decide) (by decide) m_267 (tw_not h0 hX (by decide)) (by decide) (by decide) m_272 (tw_cast h0 hX (by decide)) (fun x810 => ?_)
      refine r_astore (pc := 24) (lv' := [(4, .ref x810), (0, .ref (ad 20)), (1, .int p1), (2, .int p2), (3, .ref (ad 21))]) C d_La_leave_24 (by decide) rfl ?_
      refine r_iconst (pc := 26) (v := 2) C d_La_leave_26 (by decide) ?_
      cases h
      exact r_iret (pc := 27) C hr rfl rfl rfl d_La_leave_27
    replace h := iN c812 h
    cases h
  · replace h := sm_r hs805 h
    refine r_callV (pc := 5) (As := [.int p1, .int p2]) (rest := [.int (0), .ref (ad 21)]) (st1 := [.int v803, .int (0), .ref (ad 21)]) hE gg_good C hX (cm_of_cmx (c_SD_leave_X h0 hA0 hlT hq802) hs805) m_268 m_269 m_270 m_132 m_271 hd_SD_leave 20 rfl rfl ⟨⟨(Nat.le_of_ble_eq_true rfl), (Nat.le_of_ble_eq_true rfl)⟩, (Nat.le_of_ble_eq_true rfl), (Nat.le_of_ble_eq_true rfl)⟩ (Nat.le_of_ble_eq_true rfl) rfl rfl d_La_leave_5 ?_
    refine r_if_eq (pc := 8) (tgt := 15) C d_La_leave_8 (by decide) (fun c808 => ?_) (fun c808 => ?_)
    · replace h := ip c808 h
      refine r_lconst (pc := 15) (v := 0) C d_La_leave_15 rfl ?_
      obtain ⟨hi806, h⟩ := ign h
      refine r_last (pc := 16) (ws' := WC ad cI cZ x s d q802.2.1 q802.2.2 s2 d2 ((ad 21, .inl (cJ, 1, .inr (.inl (vp_updL w (0 : Int32).toNatClampNeg (0))))) :: rest)) C 21 2 rfl rfl hi806 rfl d_La_leave_16 ?_
      refine r_goto (pc := 17) (tgt := 28) C d_La_leave_17 (by decide) ?_
      refine r_iconst (pc := 28) (v := 0) C d_La_leave_28 (by decide) ?_
      cases h
      exact r_iret (pc := 29) C hr rfl rfl rfl d_La_leave_29
    · replace h := iN c808 h
      refine r_lconst (pc := 11) (v := 1) C d_La_leave_11 rfl ?_
      refine r_goto (pc := 12) (tgt := 16) C d_La_leave_12 (by decide) ?_
      obtain ⟨hi807, h⟩ := ign h
      refine r_last (pc := 16) (ws' := WC ad cI cZ x s d q802.2.1 q802.2.2 s2 d2 ((ad 21, .inl (cJ, 1, .inr (.inl (vp_updL w (0 : Int32).toNatClampNeg (1))))) :: rest)) C 21 2 rfl rfl hi807 rfl d_La_leave_16 ?_
      refine r_goto (pc := 17) (tgt := 28) C d_La_leave_17 (by decide) ?_
      refine r_iconst (pc := 28) (v := 0) C d_La_leave_28 (by decide) ?_
      cases h
      exact r_iret (pc := 29) C hr rfl rfl rfl d_La_leave_29
def f_La_verdict (x : Int32) (d : DD) (o : (Nat → Int32)) (t : TT) (w : (Nat → Int64)) (p1 : Int32) : Option (Int32 × Int32 × TT × ((Nat → Int64))) :=
  Option.bind (f_SD_verdict x d o t p1) (fun q822 => sm q822.1 (fun e824 => (if e824 = "java/lang/IllegalArgumentException" then some (1, q822.2.1, q822.2.2, w) else none)) (fun v823 => (if v823 = 0 then (if ((0 : Int32) < 0 ∨ 1 ≤ (0 : Int32).toNatClampNeg) then none else some (0, q822.2.1, q822.2.2, vp_updL w (0 : Int32).toNatClampNeg (0))) else (if ((0 : Int32) < 0 ∨ 1 ≤ (0 : Int32).toNatClampNeg) then none else some (0, q822.2.1, q822.2.2, vp_updL w (0 : Int32).toNatClampNeg (1))))))
abbrev rm_La_verdict : Room := { frames := 7, cells := 1, slots := 6, locals := 130 }
theorem hd_La_verdict : y_La_verdict.cls ≠ "java/lang/invoke/MethodHandle" ∧ y_La_verdict.cls ≠ "java/lang/invoke/VarHandle" ∧ (parseMethodDescriptor y_La_verdict.desc).map (fun d => d.parameters.length) = some 3 := by decide +kernel
set_option maxHeartbeats 4000000 in
set_option maxRecDepth 100000 in
theorem c_La_verdict_X {l : Launch} {D : va_G} {A : Nat → Prop} {cI cZ cJ : ClassId} {u0 : State} (h0 : tw u0) (hA0 : ∀ q, A q → u0.heap.size ≤ q) (hlT : l.stackTraces = false) {ad : Nat → Nat} {x : Int32} {s : Int64} {d : DD} {o : (Nat → Int32)} {t : TT} {s2 : Int64} {d2 : DD} {w : (Nat → Int64)} {rest : va_W} {p1 : Int32} {q : Int32 × Int32 × TT × ((Nat → Int64))} (h : f_La_verdict x d o t w p1 = some q) : cmw l (lat u0) D clsA (TY cI cZ cJ) A GG y_La_verdict b_La_verdict 4 (some .int) [(0, 16, 19, 13)] rm_La_verdict [.ref (ad 20), .int p1, .ref (ad 21)] (WC ad cI cZ x s d o t s2 d2 ((ad 21, .inl (cJ, 1, .inr (.inl w))) :: rest)) (some (.int q.1)) (WC ad cI cZ q.2.1 s d o q.2.2.1 s2 d2 ((ad 21, .inl (cJ, 1, .inr (.inl q.2.2.2))) :: rest)) := by
  have hE := lat_stb hA0
  refine r_metw (own := R_La) rfl (by decide) (Nat.le_of_ble_eq_true rfl) rfl ?_
  intro p e sg m args below meth c C hr htab hX
  unfold f_La_verdict at h
  refine r_aload_n (pc := 0) C d_La_verdict_0 rfl 2 rfl ?_
  refine r_iconst (pc := 1) (v := 0) C d_La_verdict_1 (by decide) ?_
  refine r_aload_n (pc := 2) C d_La_verdict_2 rfl 0 rfl ?_
  refine r_iload_n (pc := 3) C d_La_verdict_3 rfl 1 rfl ?_
  obtain ⟨q822, hq822, h⟩ := ob h
  obtain ⟨e824, hs825⟩ | ⟨v823, hs825⟩ := sm_c q822.1
  · replace h := sm_l hs825 h
    refine r_callVt (pc := 4) (As := [.int p1]) (rest := [.int (0), .ref (ad 21)]) hE gg_good C hX (c_SD_verdict_X h0 hA0 hlT hq822) hs825 m_273 m_274 m_275 m_132 m_276 hd_SD_verdict 20 rfl rfl ⟨⟨(Nat.le_of_ble_eq_true rfl), (Nat.le_of_ble_eq_true rfl)⟩, (Nat.le_of_ble_eq_true rfl), (Nat.le_of_ble_eq_true rfl)⟩ (Nat.le_of_ble_eq_true rfl) rfl d_La_verdict_4 ?_
    by_cases c830 : e824 = "java/lang/IllegalArgumentException"
    · replace h := ip c830 h
      subst c830
      refine r_catch1 (pc := 4) (x := ⟨0, 16, 19, 13⟩) C htab (by decide) (by decide) m_262 (tw_cast h0 hX (by decide)) (fun x829 => ?_)
      refine r_astore_n (pc := 19) (lv' := [(3, .ref x829), (0, .ref (ad 20)), (1, .int p1), (2, .ref (ad 21))]) C d_La_verdict_19 rfl (by decide) rfl ?_
      refine r_iconst (pc := 20) (v := 1) C d_La_verdict_20 (by decide) ?_
      cases h
      exact r_iret (pc := 21) C hr rfl rfl rfl d_La_verdict_21
    replace h := iN c830 h
    cases h
  · replace h := sm_r hs825 h
    refine r_callV (pc := 4) (As := [.int p1]) (rest := [.int (0), .ref (ad 21)]) (st1 := [.int v823, .int (0), .ref (ad 21)]) hE gg_good C hX (cm_of_cmx (c_SD_verdict_X h0 hA0 hlT hq822) hs825) m_273 m_274 m_275 m_132 m_276 hd_SD_verdict 20 rfl rfl ⟨⟨(Nat.le_of_ble_eq_true rfl), (Nat.le_of_ble_eq_true rfl)⟩, (Nat.le_of_ble_eq_true rfl), (Nat.le_of_ble_eq_true rfl)⟩ (Nat.le_of_ble_eq_true rfl) rfl rfl d_La_verdict_4 ?_
    refine r_if_eq (pc := 7) (tgt := 14) C d_La_verdict_7 (by decide) (fun c828 => ?_) (fun c828 => ?_)
    · replace h := ip c828 h
      refine r_lconst (pc := 14) (v := 0) C d_La_verdict_14 rfl ?_
      obtain ⟨hi826, h⟩ := ign h
      refine r_last (pc := 15) (ws' := WC ad cI cZ q822.2.1 s d o q822.2.2 s2 d2 ((ad 21, .inl (cJ, 1, .inr (.inl (vp_updL w (0 : Int32).toNatClampNeg (0))))) :: rest)) C 21 2 rfl rfl hi826 rfl d_La_verdict_15 ?_
      refine r_goto (pc := 16) (tgt := 22) C d_La_verdict_16 (by decide) ?_
      refine r_iconst (pc := 22) (v := 0) C d_La_verdict_22 (by decide) ?_
      cases h
      exact r_iret (pc := 23) C hr rfl rfl rfl d_La_verdict_23
    · replace h := iN c828 h
      refine r_lconst (pc := 10) (v := 1) C d_La_verdict_10 rfl ?_
      refine r_goto (pc := 11) (tgt := 15) C d_La_verdict_11 (by decide) ?_
      obtain ⟨hi827, h⟩ := ign h
      refine r_last (pc := 15) (ws' := WC ad cI cZ q822.2.1 s d o q822.2.2 s2 d2 ((ad 21, .inl (cJ, 1, .inr (.inl (vp_updL w (0 : Int32).toNatClampNeg (1))))) :: rest)) C 21 2 rfl rfl hi827 rfl d_La_verdict_15 ?_
      refine r_goto (pc := 16) (tgt := 22) C d_La_verdict_16 (by decide) ?_
      refine r_iconst (pc := 22) (v := 0) C d_La_verdict_22 (by decide) ?_
      cases h
      exact r_iret (pc := 23) C hr rfl rfl rfl d_La_verdict_23
def f_La_shorter (x : Int32) (d : DD) (o : (Nat → Int32)) (t : TT) (w : (Nat → Int64)) : Option (Int32 × ((Nat → Int32)) × TT × ((Nat → Int64))) :=
  Option.bind (f_SD_shorter x d o t) (fun q838 => sm q838.1 (fun e840 => (if e840 = "java/lang/IllegalStateException" then some (1, q838.2.1, q838.2.2, w) else none)) (fun v839 => (if ((0 : Int32) < 0 ∨ 1 ≤ (0 : Int32).toNatClampNeg) then none else some (0, q838.2.1, q838.2.2, vp_updL w (0 : Int32).toNatClampNeg v839.toInt64))))
abbrev rm_La_shorter : Room := { frames := 7, cells := 1, slots := 6, locals := 154 }
theorem hd_La_shorter : y_La_shorter.cls ≠ "java/lang/invoke/MethodHandle" ∧ y_La_shorter.cls ≠ "java/lang/invoke/VarHandle" ∧ (parseMethodDescriptor y_La_shorter.desc).map (fun d => d.parameters.length) = some 2 := by decide +kernel
set_option maxHeartbeats 4000000 in
set_option maxRecDepth 100000 in
theorem c_La_shorter_X {l : Launch} {D : va_G} {A : Nat → Prop} {cI cZ cJ : ClassId} {u0 : State} (h0 : tw u0) (hA0 : ∀ q, A q → u0.heap.size ≤ q) (hlT : l.stackTraces = false) {ad : Nat → Nat} {x : Int32} {s : Int64} {d : DD} {o : (Nat → Int32)} {t : TT} {s2 : Int64} {d2 : DD} {w : (Nat → Int64)} {rest : va_W} {q : Int32 × ((Nat → Int32)) × TT × ((Nat → Int64))} (h : f_La_shorter x d o t w = some q) : cmw l (lat u0) D clsA (TY cI cZ cJ) A GG y_La_shorter b_La_shorter 3 (some .int) [(0, 8, 11, 25)] rm_La_shorter [.ref (ad 20), .ref (ad 21)] (WC ad cI cZ x s d o t s2 d2 ((ad 21, .inl (cJ, 1, .inr (.inl w))) :: rest)) (some (.int q.1)) (WC ad cI cZ x s d q.2.1 q.2.2.1 s2 d2 ((ad 21, .inl (cJ, 1, .inr (.inl q.2.2.2))) :: rest)) := by
  have hE := lat_stb hA0
  refine r_metw (own := R_La) rfl (by decide) (Nat.le_of_ble_eq_true rfl) rfl ?_
  intro p e sg m args below meth c C hr htab hX
  unfold f_La_shorter at h
  refine r_aload_n (pc := 0) C d_La_shorter_0 rfl 1 rfl ?_
  refine r_iconst (pc := 1) (v := 0) C d_La_shorter_1 (by decide) ?_
  refine r_aload_n (pc := 2) C d_La_shorter_2 rfl 0 rfl ?_
  obtain ⟨q838, hq838, h⟩ := ob h
  obtain ⟨e840, hs841⟩ | ⟨v839, hs841⟩ := sm_c q838.1
  · replace h := sm_l hs841 h
    refine r_callVt (pc := 3) (As := []) (rest := [.int (0), .ref (ad 21)]) hE gg_good C hX (c_SD_shorter_X h0 hA0 hlT hq838) hs841 m_277 m_278 m_279 m_132 m_280 hd_SD_shorter 20 rfl rfl ⟨⟨(Nat.le_of_ble_eq_true rfl), (Nat.le_of_ble_eq_true rfl)⟩, (Nat.le_of_ble_eq_true rfl), (Nat.le_of_ble_eq_true rfl)⟩ (Nat.le_of_ble_eq_true rfl) rfl d_La_shorter_3 ?_
    by_cases c844 : e840 = "java/lang/IllegalStateException"
    · replace h := ip c844 h
      subst c844
      refine r_catch1 (pc := 3) (x := ⟨0, 8, 11, 25⟩) C htab (by decide) (by decide) m_272 (tw_cast h0 hX (by decide)) (fun x843 => ?_)
      refine r_astore_n (pc := 11) (lv' := [(2, .ref x843), (0, .ref (ad 20)), (1, .ref (ad 21))]) C d_La_shorter_11 rfl (by decide) rfl ?_
      refine r_iconst (pc := 12) (v := 1) C d_La_shorter_12 (by decide) ?_
      cases h
      exact r_iret (pc := 13) C hr rfl rfl rfl d_La_shorter_13
    replace h := iN c844 h
    cases h
  · replace h := sm_r hs841 h
    refine r_callV (pc := 3) (As := []) (rest := [.int (0), .ref (ad 21)]) (st1 := [.int v839, .int (0), .ref (ad 21)]) hE gg_good C hX (cm_of_cmx (c_SD_shorter_X h0 hA0 hlT hq838) hs841) m_277 m_278 m_279 m_132 m_280 hd_SD_shorter 20 rfl rfl ⟨⟨(Nat.le_of_ble_eq_true rfl), (Nat.le_of_ble_eq_true rfl)⟩, (Nat.le_of_ble_eq_true rfl), (Nat.le_of_ble_eq_true rfl)⟩ (Nat.le_of_ble_eq_true rfl) rfl rfl d_La_shorter_3 ?_
    refine r_i2l (pc := 6) C d_La_shorter_6 ?_
    obtain ⟨hi842, h⟩ := ign h
    refine r_last (pc := 7) (ws' := WC ad cI cZ x s d q838.2.1 q838.2.2 s2 d2 ((ad 21, .inl (cJ, 1, .inr (.inl (vp_updL w (0 : Int32).toNatClampNeg v839.toInt64)))) :: rest)) C 21 2 rfl rfl hi842 rfl d_La_shorter_7 ?_
    refine r_goto (pc := 8) (tgt := 14) C d_La_shorter_8 (by decide) ?_
    refine r_iconst (pc := 14) (v := 0) C d_La_shorter_14 (by decide) ?_
    cases h
    exact r_iret (pc := 15) C hr rfl rfl rfl d_La_shorter_15
def f_La_left (d : DD) (o : (Nat → Int32)) (w : (Nat → Int64)) (p1 : Int32) : Option (Int32 × ((Nat → Int64))) :=
  Option.bind (f_SD_left d o p1) (fun q852 => sm q852 (fun e854 => (if e854 = "java/util/NoSuchElementException" then some (1, w) else none)) (fun v853 => (if ((0 : Int32) < 0 ∨ 1 ≤ (0 : Int32).toNatClampNeg) then none else some (0, vp_updL w (0 : Int32).toNatClampNeg v853.toInt64))))
abbrev rm_La_left : Room := { frames := 7, cells := 1, slots := 6, locals := 112 }
theorem hd_La_left : y_La_left.cls ≠ "java/lang/invoke/MethodHandle" ∧ y_La_left.cls ≠ "java/lang/invoke/VarHandle" ∧ (parseMethodDescriptor y_La_left.desc).map (fun d => d.parameters.length) = some 3 := by decide +kernel
set_option maxHeartbeats 4000000 in
set_option maxRecDepth 100000 in
theorem c_La_left_X {l : Launch} {D : va_G} {A : Nat → Prop} {cI cZ cJ : ClassId} {u0 : State} (h0 : tw u0) (hA0 : ∀ q, A q → u0.heap.size ≤ q) (hlT : l.stackTraces = false) {ad : Nat → Nat} {x : Int32} {s : Int64} {d : DD} {o : (Nat → Int32)} {t : TT} {s2 : Int64} {d2 : DD} {w : (Nat → Int64)} {rest : va_W} {p1 : Int32} {q : Int32 × ((Nat → Int64))} (h : f_La_left d o w p1 = some q) : cmw l (lat u0) D clsA (TY cI cZ cJ) A GG y_La_left b_La_left 4 (some .int) [(0, 9, 12, 19)] rm_La_left [.ref (ad 20), .int p1, .ref (ad 21)] (WC ad cI cZ x s d o t s2 d2 ((ad 21, .inl (cJ, 1, .inr (.inl w))) :: rest)) (some (.int q.1)) (WC ad cI cZ x s d o t s2 d2 ((ad 21, .inl (cJ, 1, .inr (.inl q.2))) :: rest)) := by
  have hE := lat_stb hA0
  refine r_metw (own := R_La) rfl (by decide) (Nat.le_of_ble_eq_true rfl) rfl ?_
  intro p e sg m args below meth c C hr htab hX
  unfold f_La_left at h
  refine r_aload_n (pc := 0) C d_La_left_0 rfl 2 rfl ?_
  refine r_iconst (pc := 1) (v := 0) C d_La_left_1 (by decide) ?_
  refine r_aload_n (pc := 2) C d_La_left_2 rfl 0 rfl ?_
  refine r_iload_n (pc := 3) C d_La_left_3 rfl 1 rfl ?_
  obtain ⟨q852, hq852, h⟩ := ob h
  obtain ⟨e854, hs855⟩ | ⟨v853, hs855⟩ := sm_c q852
  · replace h := sm_l hs855 h
    refine r_callVt (pc := 4) (As := [.int p1]) (rest := [.int (0), .ref (ad 21)]) hE gg_good C hX (c_SD_left_X h0 hA0 hlT hq852) hs855 m_281 m_282 m_283 m_132 m_284 hd_SD_left 20 rfl rfl ⟨⟨(Nat.le_of_ble_eq_true rfl), (Nat.le_of_ble_eq_true rfl)⟩, (Nat.le_of_ble_eq_true rfl), (Nat.le_of_ble_eq_true rfl)⟩ (Nat.le_of_ble_eq_true rfl) rfl d_La_left_4 ?_
    by_cases c858 : e854 = "java/util/NoSuchElementException"
    · replace h := ip c858 h
      subst c858
      refine r_catch1 (pc := 4) (x := ⟨0, 9, 12, 19⟩) C htab (by decide) (by decide) m_267 (tw_cast h0 hX (by decide)) (fun x857 => ?_)
      refine r_astore_n (pc := 12) (lv' := [(3, .ref x857), (0, .ref (ad 20)), (1, .int p1), (2, .ref (ad 21))]) C d_La_left_12 rfl (by decide) rfl ?_
      refine r_iconst (pc := 13) (v := 1) C d_La_left_13 (by decide) ?_
      cases h
      exact r_iret (pc := 14) C hr rfl rfl rfl d_La_left_14
    replace h := iN c858 h
    cases h
  · replace h := sm_r hs855 h
    refine r_callV (pc := 4) (As := [.int p1]) (rest := [.int (0), .ref (ad 21)]) (st1 := [.int v853, .int (0), .ref (ad 21)]) hE gg_good C hX (cm_of_cmx (c_SD_left_X h0 hA0 hlT hq852) hs855) m_281 m_282 m_283 m_132 m_284 hd_SD_left 20 rfl rfl ⟨⟨(Nat.le_of_ble_eq_true rfl), (Nat.le_of_ble_eq_true rfl)⟩, (Nat.le_of_ble_eq_true rfl), (Nat.le_of_ble_eq_true rfl)⟩ (Nat.le_of_ble_eq_true rfl) rfl rfl d_La_left_4 ?_
    refine r_i2l (pc := 7) C d_La_left_7 ?_
    obtain ⟨hi856, h⟩ := ign h
    refine r_last (pc := 8) (ws' := WC ad cI cZ x s d o t s2 d2 ((ad 21, .inl (cJ, 1, .inr (.inl (vp_updL w (0 : Int32).toNatClampNeg v853.toInt64)))) :: rest)) C 21 2 rfl rfl hi856 rfl d_La_left_8 ?_
    refine r_goto (pc := 9) (tgt := 15) C d_La_left_9 (by decide) ?_
    refine r_iconst (pc := 15) (v := 0) C d_La_left_15 (by decide) ?_
    cases h
    exact r_iret (pc := 16) C hr rfl rfl rfl d_La_left_16
def f_La_pieces (d : DD) (o : (Nat → Int32)) (t : TT) (w : (Nat → Int64)) (p1 : Int32) (p2 : Int32) : Option (Int32 × TT × ((Nat → Int64))) :=
  Option.bind (f_SD_pieces d o t p1 p2) (fun q866 => sm q866.1 (fun e868 => (if e868 = "java/util/NoSuchElementException" then some (1, q866.2, w) else none)) (fun v867 => (if ((0 : Int32) < 0 ∨ 1 ≤ (0 : Int32).toNatClampNeg) then none else some (0, q866.2, vp_updL w (0 : Int32).toNatClampNeg v867.toInt64))))
abbrev rm_La_pieces : Room := { frames := 8, cells := 2, slots := 12, locals := 133 }
theorem hd_La_pieces : y_La_pieces.cls ≠ "java/lang/invoke/MethodHandle" ∧ y_La_pieces.cls ≠ "java/lang/invoke/VarHandle" ∧ (parseMethodDescriptor y_La_pieces.desc).map (fun d => d.parameters.length) = some 4 := by decide +kernel
set_option maxHeartbeats 4000000 in
set_option maxRecDepth 100000 in
theorem c_La_pieces_X {l : Launch} {D : va_G} {A : Nat → Prop} {cI cZ cJ : ClassId} {u0 : State} (h0 : tw u0) (hA0 : ∀ q, A q → u0.heap.size ≤ q) (hlT : l.stackTraces = false) {ad : Nat → Nat} {x : Int32} {s : Int64} {d : DD} {o : (Nat → Int32)} {t : TT} {s2 : Int64} {d2 : DD} {w : (Nat → Int64)} {rest : va_W} {p1 : Int32} {p2 : Int32} {q : Int32 × TT × ((Nat → Int64))} (h : f_La_pieces d o t w p1 p2 = some q) : cmw l (lat u0) D clsA (TY cI cZ cJ) A GG y_La_pieces b_La_pieces 5 (some .int) [(0, 10, 13, 19)] rm_La_pieces [.ref (ad 20), .int p1, .int p2, .ref (ad 21)] (WC ad cI cZ x s d o t s2 d2 ((ad 21, .inl (cJ, 1, .inr (.inl w))) :: rest)) (some (.int q.1)) (WC ad cI cZ x s d o q.2.1 s2 d2 ((ad 21, .inl (cJ, 1, .inr (.inl q.2.2))) :: rest)) := by
  have hE := lat_stb hA0
  refine r_metw (own := R_La) rfl (by decide) (Nat.le_of_ble_eq_true rfl) rfl ?_
  intro p e sg m args below meth c C hr htab hX
  unfold f_La_pieces at h
  refine r_aload_n (pc := 0) C d_La_pieces_0 rfl 3 rfl ?_
  refine r_iconst (pc := 1) (v := 0) C d_La_pieces_1 (by decide) ?_
  refine r_aload_n (pc := 2) C d_La_pieces_2 rfl 0 rfl ?_
  refine r_iload_n (pc := 3) C d_La_pieces_3 rfl 1 rfl ?_
  refine r_iload_n (pc := 4) C d_La_pieces_4 rfl 2 rfl ?_
  obtain ⟨q866, hq866, h⟩ := ob h
  obtain ⟨e868, hs869⟩ | ⟨v867, hs869⟩ := sm_c q866.1
  · replace h := sm_l hs869 h
    refine r_callVt (pc := 5) (As := [.int p1, .int p2]) (rest := [.int (0), .ref (ad 21)]) hE gg_good C hX (c_SD_pieces_X h0 hA0 hlT hq866) hs869 m_285 m_286 m_287 m_132 m_288 hd_SD_pieces 20 rfl rfl ⟨⟨(Nat.le_of_ble_eq_true rfl), (Nat.le_of_ble_eq_true rfl)⟩, (Nat.le_of_ble_eq_true rfl), (Nat.le_of_ble_eq_true rfl)⟩ (Nat.le_of_ble_eq_true rfl) rfl d_La_pieces_5 ?_
    by_cases c872 : e868 = "java/util/NoSuchElementException"
    · replace h := ip c872 h
      subst c872
      refine r_catch1 (pc := 5) (x := ⟨0, 10, 13, 19⟩) C htab (by decide) (by decide) m_267 (tw_cast h0 hX (by decide)) (fun x871 => ?_)
      refine r_astore (pc := 13) (lv' := [(4, .ref x871), (0, .ref (ad 20)), (1, .int p1), (2, .int p2), (3, .ref (ad 21))]) C d_La_pieces_13 (by decide) rfl ?_
      refine r_iconst (pc := 15) (v := 1) C d_La_pieces_15 (by decide) ?_
      cases h
      exact r_iret (pc := 16) C hr rfl rfl rfl d_La_pieces_16
    replace h := iN c872 h
    cases h
  · replace h := sm_r hs869 h
    refine r_callV (pc := 5) (As := [.int p1, .int p2]) (rest := [.int (0), .ref (ad 21)]) (st1 := [.int v867, .int (0), .ref (ad 21)]) hE gg_good C hX (cm_of_cmx (c_SD_pieces_X h0 hA0 hlT hq866) hs869) m_285 m_286 m_287 m_132 m_288 hd_SD_pieces 20 rfl rfl ⟨⟨(Nat.le_of_ble_eq_true rfl), (Nat.le_of_ble_eq_true rfl)⟩, (Nat.le_of_ble_eq_true rfl), (Nat.le_of_ble_eq_true rfl)⟩ (Nat.le_of_ble_eq_true rfl) rfl rfl d_La_pieces_5 ?_
    refine r_i2l (pc := 8) C d_La_pieces_8 ?_
    obtain ⟨hi870, h⟩ := ign h
    refine r_last (pc := 9) (ws' := WC ad cI cZ x s d o q866.2 s2 d2 ((ad 21, .inl (cJ, 1, .inr (.inl (vp_updL w (0 : Int32).toNatClampNeg v867.toInt64)))) :: rest)) C 21 2 rfl rfl hi870 rfl d_La_pieces_9 ?_
    refine r_goto (pc := 10) (tgt := 17) C d_La_pieces_10 (by decide) ?_
    refine r_iconst (pc := 17) (v := 0) C d_La_pieces_17 (by decide) ?_
    cases h
    exact r_iret (pc := 18) C hr rfl rfl rfl d_La_pieces_18
def f_La_most (d : DD) (o : (Nat → Int32)) (t : TT) (w : (Nat → Int64)) (p1 : Int32) : Option (Int32 × TT × ((Nat → Int64))) :=
  Option.bind (f_SD_most d o t p1) (fun q880 => sm q880.1 (fun e882 => (if e882 = "java/util/NoSuchElementException" then some (1, q880.2, w) else none)) (fun v881 => (if ((0 : Int32) < 0 ∨ 1 ≤ (0 : Int32).toNatClampNeg) then none else some (0, q880.2, vp_updL w (0 : Int32).toNatClampNeg v881.toInt64))))
abbrev rm_La_most : Room := { frames := 8, cells := 1, slots := 6, locals := 132 }
theorem hd_La_most : y_La_most.cls ≠ "java/lang/invoke/MethodHandle" ∧ y_La_most.cls ≠ "java/lang/invoke/VarHandle" ∧ (parseMethodDescriptor y_La_most.desc).map (fun d => d.parameters.length) = some 3 := by decide +kernel
set_option maxHeartbeats 4000000 in
set_option maxRecDepth 100000 in
theorem c_La_most_X {l : Launch} {D : va_G} {A : Nat → Prop} {cI cZ cJ : ClassId} {u0 : State} (h0 : tw u0) (hA0 : ∀ q, A q → u0.heap.size ≤ q) (hlT : l.stackTraces = false) {ad : Nat → Nat} {x : Int32} {s : Int64} {d : DD} {o : (Nat → Int32)} {t : TT} {s2 : Int64} {d2 : DD} {w : (Nat → Int64)} {rest : va_W} {p1 : Int32} {q : Int32 × TT × ((Nat → Int64))} (h : f_La_most d o t w p1 = some q) : cmw l (lat u0) D clsA (TY cI cZ cJ) A GG y_La_most b_La_most 4 (some .int) [(0, 9, 12, 19)] rm_La_most [.ref (ad 20), .int p1, .ref (ad 21)] (WC ad cI cZ x s d o t s2 d2 ((ad 21, .inl (cJ, 1, .inr (.inl w))) :: rest)) (some (.int q.1)) (WC ad cI cZ x s d o q.2.1 s2 d2 ((ad 21, .inl (cJ, 1, .inr (.inl q.2.2))) :: rest)) := by
  have hE := lat_stb hA0
  refine r_metw (own := R_La) rfl (by decide) (Nat.le_of_ble_eq_true rfl) rfl ?_
  intro p e sg m args below meth c C hr htab hX
  unfold f_La_most at h
  refine r_aload_n (pc := 0) C d_La_most_0 rfl 2 rfl ?_
  refine r_iconst (pc := 1) (v := 0) C d_La_most_1 (by decide) ?_
  refine r_aload_n (pc := 2) C d_La_most_2 rfl 0 rfl ?_
  refine r_iload_n (pc := 3) C d_La_most_3 rfl 1 rfl ?_
  obtain ⟨q880, hq880, h⟩ := ob h
  obtain ⟨e882, hs883⟩ | ⟨v881, hs883⟩ := sm_c q880.1
  · replace h := sm_l hs883 h
    refine r_callVt (pc := 4) (As := [.int p1]) (rest := [.int (0), .ref (ad 21)]) hE gg_good C hX (c_SD_most_X h0 hA0 hlT hq880) hs883 m_289 m_290 m_291 m_132 m_292 hd_SD_most 20 rfl rfl ⟨⟨(Nat.le_of_ble_eq_true rfl), (Nat.le_of_ble_eq_true rfl)⟩, (Nat.le_of_ble_eq_true rfl), (Nat.le_of_ble_eq_true rfl)⟩ (Nat.le_of_ble_eq_true rfl) rfl d_La_most_4 ?_
    by_cases c886 : e882 = "java/util/NoSuchElementException"
    · replace h := ip c886 h
      subst c886
      refine r_catch1 (pc := 4) (x := ⟨0, 9, 12, 19⟩) C htab (by decide) (by decide) m_267 (tw_cast h0 hX (by decide)) (fun x885 => ?_)
      refine r_astore_n (pc := 12) (lv' := [(3, .ref x885), (0, .ref (ad 20)), (1, .int p1), (2, .ref (ad 21))]) C d_La_most_12 rfl (by decide) rfl ?_
      refine r_iconst (pc := 13) (v := 1) C d_La_most_13 (by decide) ?_
      cases h
      exact r_iret (pc := 14) C hr rfl rfl rfl d_La_most_14
    replace h := iN c886 h
    cases h
  · replace h := sm_r hs883 h
    refine r_callV (pc := 4) (As := [.int p1]) (rest := [.int (0), .ref (ad 21)]) (st1 := [.int v881, .int (0), .ref (ad 21)]) hE gg_good C hX (cm_of_cmx (c_SD_most_X h0 hA0 hlT hq880) hs883) m_289 m_290 m_291 m_132 m_292 hd_SD_most 20 rfl rfl ⟨⟨(Nat.le_of_ble_eq_true rfl), (Nat.le_of_ble_eq_true rfl)⟩, (Nat.le_of_ble_eq_true rfl), (Nat.le_of_ble_eq_true rfl)⟩ (Nat.le_of_ble_eq_true rfl) rfl rfl d_La_most_4 ?_
    refine r_i2l (pc := 7) C d_La_most_7 ?_
    obtain ⟨hi884, h⟩ := ign h
    refine r_last (pc := 8) (ws' := WC ad cI cZ x s d o q880.2 s2 d2 ((ad 21, .inl (cJ, 1, .inr (.inl (vp_updL w (0 : Int32).toNatClampNeg v881.toInt64)))) :: rest)) C 21 2 rfl rfl hi884 rfl d_La_most_8 ?_
    refine r_goto (pc := 9) (tgt := 15) C d_La_most_9 (by decide) ?_
    refine r_iconst (pc := 15) (v := 0) C d_La_most_15 (by decide) ?_
    cases h
    exact r_iret (pc := 16) C hr rfl rfl rfl d_La_most_16
def f_La_same (d : DD) (s2 : Int64) (d2 : DD) (w : (Nat → Int64)) (p1 : Int64) (p2 : Int32) : Option (Int32 × Int64 × DD × ((Nat → Int64))) :=
  Option.bind (f_SD_same d s2 d2 p1 p2) (fun q896 => sm q896.1 (fun e898 => (if e898 = "java/lang/IllegalArgumentException" then some (1, q896.2.1, q896.2.2, w) else none)) (fun v897 => (if v897 = 0 then (if ((0 : Int32) < 0 ∨ 1 ≤ (0 : Int32).toNatClampNeg) then none else some (0, q896.2.1, q896.2.2, vp_updL w (0 : Int32).toNatClampNeg (0))) else (if ((0 : Int32) < 0 ∨ 1 ≤ (0 : Int32).toNatClampNeg) then none else some (0, q896.2.1, q896.2.2, vp_updL w (0 : Int32).toNatClampNeg (1))))))
abbrev rm_La_same : Room := { frames := 8, cells := 1, slots := 6, locals := 134 }
theorem hd_La_same : y_La_same.cls ≠ "java/lang/invoke/MethodHandle" ∧ y_La_same.cls ≠ "java/lang/invoke/VarHandle" ∧ (parseMethodDescriptor y_La_same.desc).map (fun d => d.parameters.length) = some 4 := by decide +kernel
set_option maxHeartbeats 4000000 in
set_option maxRecDepth 100000 in
theorem c_La_same_X {l : Launch} {D : va_G} {A : Nat → Prop} {cI cZ cJ : ClassId} {u0 : State} (h0 : tw u0) (hA0 : ∀ q, A q → u0.heap.size ≤ q) (hlT : l.stackTraces = false) {ad : Nat → Nat} {x : Int32} {s : Int64} {d : DD} {o : (Nat → Int32)} {t : TT} {s2 : Int64} {d2 : DD} {w : (Nat → Int64)} {rest : va_W} {p1 : Int64} {p2 : Int32} {q : Int32 × Int64 × DD × ((Nat → Int64))} (h : f_La_same d s2 d2 w p1 p2 = some q) : cmw l (lat u0) D clsA (TY cI cZ cJ) A GG y_La_same b_La_same 6 (some .int) [(0, 18, 21, 13)] rm_La_same [.ref (ad 20), .long p1, .int p2, .ref (ad 21)] (WC ad cI cZ x s d o t s2 d2 ((ad 21, .inl (cJ, 1, .inr (.inl w))) :: rest)) (some (.int q.1)) (WC ad cI cZ x s d o t q.2.1 q.2.2.1 ((ad 21, .inl (cJ, 1, .inr (.inl q.2.2.2))) :: rest)) := by
  have hE := lat_stb hA0
  refine r_metw (own := R_La) rfl (by decide) (Nat.le_of_ble_eq_true rfl) rfl ?_
  intro p e sg m args below meth c C hr htab hX
  unfold f_La_same at h
  refine r_aload (pc := 0) C d_La_same_0 3 rfl ?_
  refine r_iconst (pc := 2) (v := 0) C d_La_same_2 (by decide) ?_
  refine r_aload_n (pc := 3) C d_La_same_3 rfl 0 rfl ?_
  refine r_lload_n (pc := 4) C d_La_same_4 rfl 1 rfl ?_
  refine r_iload_n (pc := 5) C d_La_same_5 rfl 2 rfl ?_
  obtain ⟨q896, hq896, h⟩ := ob h
  obtain ⟨e898, hs899⟩ | ⟨v897, hs899⟩ := sm_c q896.1
  · replace h := sm_l hs899 h
    refine r_callVt (pc := 6) (As := [.long p1, .int p2]) (rest := [.int (0), .ref (ad 21)]) hE gg_good C hX (c_SD_same_X h0 hA0 hlT hq896) hs899 m_293 m_294 m_295 m_132 m_296 hd_SD_same 20 rfl rfl ⟨⟨(Nat.le_of_ble_eq_true rfl), (Nat.le_of_ble_eq_true rfl)⟩, (Nat.le_of_ble_eq_true rfl), (Nat.le_of_ble_eq_true rfl)⟩ (Nat.le_of_ble_eq_true rfl) rfl d_La_same_6 ?_
    by_cases c904 : e898 = "java/lang/IllegalArgumentException"
    · replace h := ip c904 h
      subst c904
      refine r_catch1 (pc := 6) (x := ⟨0, 18, 21, 13⟩) C htab (by decide) (by decide) m_262 (tw_cast h0 hX (by decide)) (fun x903 => ?_)
      refine r_astore (pc := 21) (lv' := [(5, .ref x903), (0, .ref (ad 20)), (1, .long p1), (3, .int p2), (4, .ref (ad 21))]) C d_La_same_21 (by decide) rfl ?_
      refine r_iconst (pc := 23) (v := 1) C d_La_same_23 (by decide) ?_
      cases h
      exact r_iret (pc := 24) C hr rfl rfl rfl d_La_same_24
    replace h := iN c904 h
    cases h
  · replace h := sm_r hs899 h
    refine r_callV (pc := 6) (As := [.long p1, .int p2]) (rest := [.int (0), .ref (ad 21)]) (st1 := [.int v897, .int (0), .ref (ad 21)]) hE gg_good C hX (cm_of_cmx (c_SD_same_X h0 hA0 hlT hq896) hs899) m_293 m_294 m_295 m_132 m_296 hd_SD_same 20 rfl rfl ⟨⟨(Nat.le_of_ble_eq_true rfl), (Nat.le_of_ble_eq_true rfl)⟩, (Nat.le_of_ble_eq_true rfl), (Nat.le_of_ble_eq_true rfl)⟩ (Nat.le_of_ble_eq_true rfl) rfl rfl d_La_same_6 ?_
    refine r_if_eq (pc := 9) (tgt := 16) C d_La_same_9 (by decide) (fun c902 => ?_) (fun c902 => ?_)
    · replace h := ip c902 h
      refine r_lconst (pc := 16) (v := 0) C d_La_same_16 rfl ?_
      obtain ⟨hi900, h⟩ := ign h
      refine r_last (pc := 17) (ws' := WC ad cI cZ x s d o t q896.2.1 q896.2.2 ((ad 21, .inl (cJ, 1, .inr (.inl (vp_updL w (0 : Int32).toNatClampNeg (0))))) :: rest)) C 21 2 rfl rfl hi900 rfl d_La_same_17 ?_
      refine r_goto (pc := 18) (tgt := 25) C d_La_same_18 (by decide) ?_
      refine r_iconst (pc := 25) (v := 0) C d_La_same_25 (by decide) ?_
      cases h
      exact r_iret (pc := 26) C hr rfl rfl rfl d_La_same_26
    · replace h := iN c902 h
      refine r_lconst (pc := 12) (v := 1) C d_La_same_12 rfl ?_
      refine r_goto (pc := 13) (tgt := 17) C d_La_same_13 (by decide) ?_
      obtain ⟨hi901, h⟩ := ign h
      refine r_last (pc := 17) (ws' := WC ad cI cZ x s d o t q896.2.1 q896.2.2 ((ad 21, .inl (cJ, 1, .inr (.inl (vp_updL w (0 : Int32).toNatClampNeg (1))))) :: rest)) C 21 2 rfl rfl hi901 rfl d_La_same_17 ?_
      refine r_goto (pc := 18) (tgt := 25) C d_La_same_18 (by decide) ?_
      refine r_iconst (pc := 25) (v := 0) C d_La_same_25 (by decide) ?_
      cases h
      exact r_iret (pc := 26) C hr rfl rfl rfl d_La_same_26
