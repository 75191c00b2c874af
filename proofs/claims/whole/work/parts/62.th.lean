def f_SD_refuseWrongSize (p0 : Int32) : Option ((String ⊕ Unit)) :=
  (if p0 < 0 then some (Sum.inl "java/lang/IllegalArgumentException") else (if p0 ≤ 5 then some (Sum.inr ()) else some (Sum.inl "java/lang/IllegalArgumentException")))
abbrev rm_SD_refuseWrongSize : Room := { frames := 6, cells := 1, slots := 6, locals := 90 }
theorem hd_SD_refuseWrongSize : y_SD_refuseWrongSize.cls ≠ "java/lang/invoke/MethodHandle" ∧ y_SD_refuseWrongSize.cls ≠ "java/lang/invoke/VarHandle" ∧ (parseMethodDescriptor y_SD_refuseWrongSize.desc).map (fun d => d.parameters.length) = some 1 := by decide +kernel
set_option maxHeartbeats 4000000 in
set_option maxRecDepth 100000 in
theorem c_SD_refuseWrongSize_X {l : Launch} {D : va_G} {A : Nat → Prop} {cI cZ cJ : ClassId} {u0 : State} (h0 : tw u0) (hA0 : ∀ q, A q → u0.heap.size ≤ q) (hlT : l.stackTraces = false) {ad : Nat → Nat} {x : Int32} {s : Int64} {d : DD} {o : (Nat → Int32)} {t : TT} {s2 : Int64} {d2 : DD} {rest : va_W} {p0 : Int32} {q : (String ⊕ Unit)} (h : f_SD_refuseWrongSize p0 = some q) : cmx enV l (lat u0) D clsA (TY cI cZ cJ) A GG y_SD_refuseWrongSize b_SD_refuseWrongSize 2 none rm_SD_refuseWrongSize [.ref (ad 20), .int p0] (WC ad cI cZ x s d o t s2 d2 rest) q (WC ad cI cZ x s d o t s2 d2 rest) := by
  have hE := lat_stb hA0
  refine r_metx (own := R_SD) rfl (by decide) (Nat.le_of_ble_eq_true rfl) rfl ?_
  intro p e sg m args below meth c C hr hno hX
  unfold f_SD_refuseWrongSize at h
  refine r_iload_n (pc := 0) C d_SD_refuseWrongSize_0 rfl 1 rfl ?_
  refine r_if_lt (pc := 1) (tgt := 9) C d_SD_refuseWrongSize_1 (by decide) (fun c622 => ?_) (fun c622 => ?_)
  · replace h := ip c622 h
    cases h
    exact r_throw (pc := 9) (names := nmX) h0 hA0 hX hlT gg_good C (by decide +kernel) nmX_fit m_204 m_205 ms_0 ow_0 hno d_SD_refuseWrongSize_9 d_SD_refuseWrongSize_12 d_SD_refuseWrongSize_13 d_SD_refuseWrongSize_15 d_SD_refuseWrongSize_18 ⟨(Nat.le_of_ble_eq_true rfl), (Nat.le_of_ble_eq_true rfl), (Nat.le_of_ble_eq_true rfl), (Nat.le_of_ble_eq_true rfl)⟩ (Nat.le_of_ble_eq_true rfl) (Nat.le_of_ble_eq_true rfl) rfl rfl
  · replace h := iN c622 h
    refine r_iload_n (pc := 4) C d_SD_refuseWrongSize_4 rfl 1 rfl ?_
    refine r_iconst (pc := 5) (v := 5) C d_SD_refuseWrongSize_5 (by decide) ?_
    refine r_icmp_le (pc := 6) (tgt := 19) C d_SD_refuseWrongSize_6 (by decide) (fun c621 => ?_) (fun c621 => ?_)
    · replace h := ip c621 h
      cases h
      exact r_vretx (pc := 19) C (Nat.le_of_ble_eq_true rfl) (Nat.le_of_ble_eq_true rfl) hr () rfl rfl rfl d_SD_refuseWrongSize_19
    · replace h := iN c621 h
      cases h
      exact r_throw (pc := 9) (names := nmX) h0 hA0 hX hlT gg_good C (by decide +kernel) nmX_fit m_204 m_205 ms_0 ow_0 hno d_SD_refuseWrongSize_9 d_SD_refuseWrongSize_12 d_SD_refuseWrongSize_13 d_SD_refuseWrongSize_15 d_SD_refuseWrongSize_18 ⟨(Nat.le_of_ble_eq_true rfl), (Nat.le_of_ble_eq_true rfl), (Nat.le_of_ble_eq_true rfl), (Nat.le_of_ble_eq_true rfl)⟩ (Nat.le_of_ble_eq_true rfl) (Nat.le_of_ble_eq_true rfl) rfl rfl
def f_SD_draw (s : Int64) (d : DD) (o : (Nat → Int32)) (p0 : Int32) : Option ((String ⊕ Int32) × Int64 × DD × ((Nat → Int32))) :=
  Option.bind (f_SD_refuseWrongSize p0) (fun q630 => sm q630 (fun e632 => some ((Sum.inl e632), s, d, o)) (fun v631 => Option.bind (f_Dr_redraw s d p0) (fun q634 => Option.bind (f_Re_takeAllBack o) (fun q635 => Option.bind (f_Dr_partCount q634.2) (fun q636 => some ((Sum.inr q636), q634.1, q634.2, q635))))))
abbrev rm_SD_draw : Room := { frames := 7, cells := 1, slots := 6, locals := 111 }
theorem hd_SD_draw : y_SD_draw.cls ≠ "java/lang/invoke/MethodHandle" ∧ y_SD_draw.cls ≠ "java/lang/invoke/VarHandle" ∧ (parseMethodDescriptor y_SD_draw.desc).map (fun d => d.parameters.length) = some 1 := by decide +kernel
set_option maxHeartbeats 4000000 in
set_option maxRecDepth 100000 in
theorem c_SD_draw_X {l : Launch} {D : va_G} {A : Nat → Prop} {cI cZ cJ : ClassId} {u0 : State} (h0 : tw u0) (hA0 : ∀ q, A q → u0.heap.size ≤ q) (hlT : l.stackTraces = false) {ad : Nat → Nat} {x : Int32} {s : Int64} {d : DD} {o : (Nat → Int32)} {t : TT} {s2 : Int64} {d2 : DD} {rest : va_W} {p0 : Int32} {q : (String ⊕ Int32) × Int64 × DD × ((Nat → Int32))} (h : f_SD_draw s d o p0 = some q) : cmx enI l (lat u0) D clsA (TY cI cZ cJ) A GG y_SD_draw b_SD_draw 2 (some .int) rm_SD_draw [.ref (ad 20), .int p0] (WC ad cI cZ x s d o t s2 d2 rest) q.1 (WC ad cI cZ x q.2.1 q.2.2.1 q.2.2.2 t s2 d2 rest) := by
  have hE := lat_stb hA0
  refine r_metx (own := R_SD) rfl (by decide) (Nat.le_of_ble_eq_true rfl) rfl ?_
  intro p e sg m args below meth c C hr hno hX
  unfold f_SD_draw at h
  refine r_aload_n (pc := 0) C d_SD_draw_0 rfl 0 rfl ?_
  refine r_iload_n (pc := 1) C d_SD_draw_1 rfl 1 rfl ?_
  obtain ⟨q630, hq630, h⟩ := ob h
  obtain ⟨e632, hs633⟩ | ⟨v631, hs633⟩ := sm_c q630
  · replace h := sm_l hs633 h
    cases h
    refine r_callVt (pc := 2) (As := [.int p0]) (rest := []) hE gg_good C hX (c_SD_refuseWrongSize_X h0 hA0 hlT hq630) hs633 m_210 m_211 m_212 m_132 m_213 hd_SD_refuseWrongSize 20 rfl rfl ⟨⟨(Nat.le_of_ble_eq_true rfl), (Nat.le_of_ble_eq_true rfl)⟩, (Nat.le_of_ble_eq_true rfl), (Nat.le_of_ble_eq_true rfl)⟩ (Nat.le_of_ble_eq_true rfl) rfl d_SD_draw_2 ?_
    exact r_outx C hno (Nat.le_of_ble_eq_true rfl) (Nat.le_of_ble_eq_true rfl) rfl rfl
  · replace h := sm_r hs633 h
    refine r_callV (pc := 2) (As := [.int p0]) (rest := []) (st1 := []) hE gg_good C hX (cm_of_cmx (c_SD_refuseWrongSize_X h0 hA0 hlT hq630) hs633) m_210 m_211 m_212 m_132 m_213 hd_SD_refuseWrongSize 20 rfl rfl ⟨⟨(Nat.le_of_ble_eq_true rfl), (Nat.le_of_ble_eq_true rfl)⟩, (Nat.le_of_ble_eq_true rfl), (Nat.le_of_ble_eq_true rfl)⟩ (Nat.le_of_ble_eq_true rfl) rfl rfl d_SD_draw_2 ?_
    refine r_aload_n (pc := 5) C d_SD_draw_5 rfl 0 rfl ?_
    refine r_get (pc := 6) (v := .ref (ad 19)) C hin_SD 20 rfl rfl 1 (by decide) m_123 rfl rfl d_SD_draw_6 ?_
    refine r_aload_n (pc := 9) C d_SD_draw_9 rfl 0 rfl ?_
    refine r_get (pc := 10) (v := .ref (ad 11)) C hin_SD 20 rfl rfl 0 (by decide) m_140 rfl rfl d_SD_draw_10 ?_
    refine r_iload_n (pc := 13) C d_SD_draw_13 rfl 1 rfl ?_
    obtain ⟨q634, hq634, h⟩ := ob h
    refine r_callV (pc := 14) (As := [.ref (ad 11), .int p0]) (rest := []) (st1 := []) hE gg_good C hX (c_Dr_redraw_D hE hq634) m_206 m_207 m_208 m_12 m_209 hd_Dr_redraw 19 rfl rfl ⟨⟨(Nat.le_of_ble_eq_true rfl), (Nat.le_of_ble_eq_true rfl)⟩, (Nat.le_of_ble_eq_true rfl), (Nat.le_of_ble_eq_true rfl)⟩ (Nat.le_of_ble_eq_true rfl) rfl rfl d_SD_draw_14 ?_
    refine r_aload_n (pc := 17) C d_SD_draw_17 rfl 0 rfl ?_
    refine r_get (pc := 18) (v := .ref (ad 13)) C hin_SD 20 rfl rfl 2 (by decide) m_124 rfl rfl d_SD_draw_18 ?_
    obtain ⟨q635, hq635, h⟩ := ob h
    refine r_callV (pc := 21) (As := []) (rest := []) (st1 := []) hE gg_good C hX (c_Re_takeAllBack_R hE hq635) m_148 m_149 m_150 m_22 m_151 hd_Re_takeAllBack 13 rfl rfl ⟨⟨(Nat.le_of_ble_eq_true rfl), (Nat.le_of_ble_eq_true rfl)⟩, (Nat.le_of_ble_eq_true rfl), (Nat.le_of_ble_eq_true rfl)⟩ (Nat.le_of_ble_eq_true rfl) rfl rfl d_SD_draw_21 ?_
    refine r_aload_n (pc := 24) C d_SD_draw_24 rfl 0 rfl ?_
    refine r_get (pc := 25) (v := .ref (ad 19)) C hin_SD 20 rfl rfl 1 (by decide) m_123 rfl rfl d_SD_draw_25 ?_
    obtain ⟨q636, hq636, h⟩ := ob h
    refine r_callV (pc := 28) (As := []) (rest := []) (st1 := [.int q636]) hE gg_good C hX (c_Dr_partCount_D hE hq636) m_139 m_97 m_98 m_12 m_99 hd_Dr_partCount 19 rfl rfl ⟨⟨(Nat.le_of_ble_eq_true rfl), (Nat.le_of_ble_eq_true rfl)⟩, (Nat.le_of_ble_eq_true rfl), (Nat.le_of_ble_eq_true rfl)⟩ (Nat.le_of_ble_eq_true rfl) rfl rfl d_SD_draw_28 ?_
    cases h
    exact r_iretx (pc := 31) C (Nat.le_of_ble_eq_true rfl) (Nat.le_of_ble_eq_true rfl) hr rfl _ rfl rfl rfl d_SD_draw_31
def f_SD_refuseMissingPart (d : DD) (p0 : Int32) : Option ((String ⊕ Unit)) :=
  Option.bind (f_Dr_has d p0) (fun q637 => (if q637 = 0 then some (Sum.inl "java/util/NoSuchElementException") else some (Sum.inr ())))
abbrev rm_SD_refuseMissingPart : Room := { frames := 6, cells := 1, slots := 6, locals := 90 }
theorem hd_SD_refuseMissingPart : y_SD_refuseMissingPart.cls ≠ "java/lang/invoke/MethodHandle" ∧ y_SD_refuseMissingPart.cls ≠ "java/lang/invoke/VarHandle" ∧ (parseMethodDescriptor y_SD_refuseMissingPart.desc).map (fun d => d.parameters.length) = some 1 := by decide +kernel
set_option maxHeartbeats 4000000 in
set_option maxRecDepth 100000 in
theorem c_SD_refuseMissingPart_X {l : Launch} {D : va_G} {A : Nat → Prop} {cI cZ cJ : ClassId} {u0 : State} (h0 : tw u0) (hA0 : ∀ q, A q → u0.heap.size ≤ q) (hlT : l.stackTraces = false) {ad : Nat → Nat} {x : Int32} {s : Int64} {d : DD} {o : (Nat → Int32)} {t : TT} {s2 : Int64} {d2 : DD} {rest : va_W} {p0 : Int32} {q : (String ⊕ Unit)} (h : f_SD_refuseMissingPart d p0 = some q) : cmx enV l (lat u0) D clsA (TY cI cZ cJ) A GG y_SD_refuseMissingPart b_SD_refuseMissingPart 2 none rm_SD_refuseMissingPart [.ref (ad 20), .int p0] (WC ad cI cZ x s d o t s2 d2 rest) q (WC ad cI cZ x s d o t s2 d2 rest) := by
  have hE := lat_stb hA0
  refine r_metx (own := R_SD) rfl (by decide) (Nat.le_of_ble_eq_true rfl) rfl ?_
  intro p e sg m args below meth c C hr hno hX
  unfold f_SD_refuseMissingPart at h
  refine r_aload_n (pc := 0) C d_SD_refuseMissingPart_0 rfl 0 rfl ?_
  refine r_get (pc := 1) (v := .ref (ad 19)) C hin_SD 20 rfl rfl 1 (by decide) m_123 rfl rfl d_SD_refuseMissingPart_1 ?_
  refine r_iload_n (pc := 4) C d_SD_refuseMissingPart_4 rfl 1 rfl ?_
  obtain ⟨q637, hq637, h⟩ := ob h
  refine r_callV (pc := 5) (As := [.int p0]) (rest := []) (st1 := [.int q637]) hE gg_good C hX (c_Dr_has_D hE hq637) m_216 m_10 m_11 m_12 m_13 hd_Dr_has 19 rfl rfl ⟨⟨(Nat.le_of_ble_eq_true rfl), (Nat.le_of_ble_eq_true rfl)⟩, (Nat.le_of_ble_eq_true rfl), (Nat.le_of_ble_eq_true rfl)⟩ (Nat.le_of_ble_eq_true rfl) rfl rfl d_SD_refuseMissingPart_5 ?_
  refine r_if_ne (pc := 8) (tgt := 21) C d_SD_refuseMissingPart_8 (by decide) (fun c638 => ?_) (fun c638 => ?_)
  · replace h := iN c638 h
    cases h
    exact r_vretx (pc := 21) C (Nat.le_of_ble_eq_true rfl) (Nat.le_of_ble_eq_true rfl) hr () rfl rfl rfl d_SD_refuseMissingPart_21
  · replace h := ip c638 h
    cases h
    exact r_thrown (pc := 11) (names := nmY) h0 hA0 hX hlT gg_good C (by decide +kernel) (by decide +kernel) nmY_fit bsY_0 bsY_1 bsY_2 bsY_5 m_214 m_215 ms_1 ow_1 hno d_SD_refuseMissingPart_11 d_SD_refuseMissingPart_14 d_SD_refuseMissingPart_15 d_SD_refuseMissingPart_17 d_SD_refuseMissingPart_20 ⟨(Nat.le_of_ble_eq_true rfl), (Nat.le_of_ble_eq_true rfl), (Nat.le_of_ble_eq_true rfl), (Nat.le_of_ble_eq_true rfl)⟩ (Nat.le_of_ble_eq_true rfl) (Nat.le_of_ble_eq_true rfl) rfl rfl
def f_SD_part (d : DD) (o : (Nat → Int32)) (p0 : Int32) (p1 : Int32) : Option ((String ⊕ Int32)) :=
  Option.bind (f_SD_refuseMissingPart d p0) (fun q639 => sm q639 (fun e641 => some (Sum.inl e641)) (fun v640 => (if p1 < 0 then some (Sum.inl "java/lang/IllegalArgumentException") else (if p1 ≤ 7 then (if p1 = 0 then Option.bind (f_Dr_kindOf d p0) (fun q643 => some (Sum.inr q643)) else (if p1 = 1 then Option.bind (f_Dr_numberOf d p0) (fun q645 => some (Sum.inr q645)) else (if p1 = 2 then Option.bind (f_Dr_amountOf d p0) (fun q647 => some (Sum.inr q647)) else (if p1 = 3 then Option.bind (f_Dr_placeOf d p0) (fun q649 => some (Sum.inr q649)) else (if p1 = 4 then Option.bind (f_Dr_goodOf d p0) (fun q651 => some (Sum.inr q651)) else (if p1 = 5 then Option.bind (f_Dr_takes d p0) (fun q653 => (if q653 = 0 then some (Sum.inr (0)) else some (Sum.inr (1)))) else (if p1 = 6 then Option.bind (f_Dr_lies d p0) (fun q656 => (if q656 = 0 then some (Sum.inr (0)) else some (Sum.inr (1)))) else Option.bind (f_Re_isLeft d o p0) (fun q659 => (if q659 = 0 then some (Sum.inr (0)) else some (Sum.inr (1))))))))))) else some (Sum.inl "java/lang/IllegalArgumentException")))))
abbrev rm_SD_part : Room := { frames := 7, cells := 2, slots := 12, locals := 111 }
theorem hd_SD_part : y_SD_part.cls ≠ "java/lang/invoke/MethodHandle" ∧ y_SD_part.cls ≠ "java/lang/invoke/VarHandle" ∧ (parseMethodDescriptor y_SD_part.desc).map (fun d => d.parameters.length) = some 2 := by decide +kernel
set_option maxHeartbeats 4000000 in
set_option maxRecDepth 100000 in
theorem c_SD_part_X {l : Launch} {D : va_G} {A : Nat → Prop} {cI cZ cJ : ClassId} {u0 : State} (h0 : tw u0) (hA0 : ∀ q, A q → u0.heap.size ≤ q) (hlT : l.stackTraces = false) {ad : Nat → Nat} {x : Int32} {s : Int64} {d : DD} {o : (Nat → Int32)} {t : TT} {s2 : Int64} {d2 : DD} {rest : va_W} {p0 : Int32} {p1 : Int32} {q : (String ⊕ Int32)} (h : f_SD_part d o p0 p1 = some q) : cmx enI l (lat u0) D clsA (TY cI cZ cJ) A GG y_SD_part b_SD_part 3 (some .int) rm_SD_part [.ref (ad 20), .int p0, .int p1] (WC ad cI cZ x s d o t s2 d2 rest) q (WC ad cI cZ x s d o t s2 d2 rest) := by
  have hE := lat_stb hA0
  refine r_metx (own := R_SD) rfl (by decide) (Nat.le_of_ble_eq_true rfl) rfl ?_
  intro p e sg m args below meth c C hr hno hX
  unfold f_SD_part at h
  refine r_aload_n (pc := 0) C d_SD_part_0 rfl 0 rfl ?_
  refine r_iload_n (pc := 1) C d_SD_part_1 rfl 1 rfl ?_
  obtain ⟨q639, hq639, h⟩ := ob h
  obtain ⟨e641, hs642⟩ | ⟨v640, hs642⟩ := sm_c q639
  · replace h := sm_l hs642 h
    cases h
    refine r_callVt (pc := 2) (As := [.int p0]) (rest := []) hE gg_good C hX (c_SD_refuseMissingPart_X h0 hA0 hlT hq639) hs642 m_227 m_228 m_229 m_132 m_230 hd_SD_refuseMissingPart 20 rfl rfl ⟨⟨(Nat.le_of_ble_eq_true rfl), (Nat.le_of_ble_eq_true rfl)⟩, (Nat.le_of_ble_eq_true rfl), (Nat.le_of_ble_eq_true rfl)⟩ (Nat.le_of_ble_eq_true rfl) rfl d_SD_part_2 ?_
    exact r_outx C hno (Nat.le_of_ble_eq_true rfl) (Nat.le_of_ble_eq_true rfl) rfl rfl
  · replace h := sm_r hs642 h
    refine r_callV (pc := 2) (As := [.int p0]) (rest := []) (st1 := []) hE gg_good C hX (cm_of_cmx (c_SD_refuseMissingPart_X h0 hA0 hlT hq639) hs642) m_227 m_228 m_229 m_132 m_230 hd_SD_refuseMissingPart 20 rfl rfl ⟨⟨(Nat.le_of_ble_eq_true rfl), (Nat.le_of_ble_eq_true rfl)⟩, (Nat.le_of_ble_eq_true rfl), (Nat.le_of_ble_eq_true rfl)⟩ (Nat.le_of_ble_eq_true rfl) rfl rfl d_SD_part_2 ?_
    refine r_iload_n (pc := 5) C d_SD_part_5 rfl 2 rfl ?_
    refine r_if_lt (pc := 6) (tgt := 15) C d_SD_part_6 (by decide) (fun c662 => ?_) (fun c662 => ?_)
    · replace h := ip c662 h
      cases h
      exact r_throw (pc := 15) (names := nmX) h0 hA0 hX hlT gg_good C (by decide +kernel) nmX_fit m_204 m_205 ms_2 ow_0 hno d_SD_part_15 d_SD_part_18 d_SD_part_19 d_SD_part_21 d_SD_part_24 ⟨(Nat.le_of_ble_eq_true rfl), (Nat.le_of_ble_eq_true rfl), (Nat.le_of_ble_eq_true rfl), (Nat.le_of_ble_eq_true rfl)⟩ (Nat.le_of_ble_eq_true rfl) (Nat.le_of_ble_eq_true rfl) rfl rfl
    · replace h := iN c662 h
      refine r_iload_n (pc := 9) C d_SD_part_9 rfl 2 rfl ?_
      refine r_bipush (pc := 10) (v := 7) C d_SD_part_10 (by decide) ?_
      refine r_icmp_le (pc := 12) (tgt := 25) C d_SD_part_12 (by decide) (fun c661 => ?_) (fun c661 => ?_)
      · replace h := ip c661 h
        refine r_iload_n (pc := 25) C d_SD_part_25 rfl 2 rfl ?_
        by_cases c644 : p1 = 0
        · replace h := ip c644 h
          refine r_tcase (pc := 26) (tgt := 68) C d_SD_part_26 c644 (by decide) (by decide) rfl (by decide) ?_
          refine r_aload_n (pc := 68) C d_SD_part_68 rfl 0 rfl ?_
          refine r_get (pc := 69) (v := .ref (ad 19)) C hin_SD 20 rfl rfl 1 (by decide) m_123 rfl rfl d_SD_part_69 ?_
          refine r_iload_n (pc := 72) C d_SD_part_72 rfl 1 rfl ?_
          obtain ⟨q643, hq643, h⟩ := ob h
          refine r_callV (pc := 73) (As := [.int p0]) (rest := []) (st1 := [.int q643]) hE gg_good C hX (c_Dr_kindOf_D hE hq643) m_217 m_37 m_38 m_12 m_39 hd_Dr_kindOf 19 rfl rfl ⟨⟨(Nat.le_of_ble_eq_true rfl), (Nat.le_of_ble_eq_true rfl)⟩, (Nat.le_of_ble_eq_true rfl), (Nat.le_of_ble_eq_true rfl)⟩ (Nat.le_of_ble_eq_true rfl) rfl rfl d_SD_part_73 ?_
          cases h
          exact r_iretx (pc := 76) C (Nat.le_of_ble_eq_true rfl) (Nat.le_of_ble_eq_true rfl) hr rfl _ rfl rfl rfl d_SD_part_76
        replace h := iN c644 h
        by_cases c646 : p1 = 1
        · replace h := ip c646 h
          refine r_tcase (pc := 26) (tgt := 77) C d_SD_part_26 c646 (by decide) (by decide) rfl (by decide) ?_
          refine r_aload_n (pc := 77) C d_SD_part_77 rfl 0 rfl ?_
          refine r_get (pc := 78) (v := .ref (ad 19)) C hin_SD 20 rfl rfl 1 (by decide) m_123 rfl rfl d_SD_part_78 ?_
          refine r_iload_n (pc := 81) C d_SD_part_81 rfl 1 rfl ?_
          obtain ⟨q645, hq645, h⟩ := ob h
          refine r_callV (pc := 82) (As := [.int p0]) (rest := []) (st1 := [.int q645]) hE gg_good C hX (c_Dr_numberOf_D hE hq645) m_218 m_219 m_220 m_12 m_221 hd_Dr_numberOf 19 rfl rfl ⟨⟨(Nat.le_of_ble_eq_true rfl), (Nat.le_of_ble_eq_true rfl)⟩, (Nat.le_of_ble_eq_true rfl), (Nat.le_of_ble_eq_true rfl)⟩ (Nat.le_of_ble_eq_true rfl) rfl rfl d_SD_part_82 ?_
          cases h
          exact r_iretx (pc := 85) C (Nat.le_of_ble_eq_true rfl) (Nat.le_of_ble_eq_true rfl) hr rfl _ rfl rfl rfl d_SD_part_85
        replace h := iN c646 h
        by_cases c648 : p1 = 2
        · replace h := ip c648 h
          refine r_tcase (pc := 26) (tgt := 86) C d_SD_part_26 c648 (by decide) (by decide) rfl (by decide) ?_
          refine r_aload_n (pc := 86) C d_SD_part_86 rfl 0 rfl ?_
          refine r_get (pc := 87) (v := .ref (ad 19)) C hin_SD 20 rfl rfl 1 (by decide) m_123 rfl rfl d_SD_part_87 ?_
          refine r_iload_n (pc := 90) C d_SD_part_90 rfl 1 rfl ?_
          obtain ⟨q647, hq647, h⟩ := ob h
          refine r_callV (pc := 91) (As := [.int p0]) (rest := []) (st1 := [.int q647]) hE gg_good C hX (c_Dr_amountOf_D hE hq647) m_222 m_52 m_53 m_12 m_54 hd_Dr_amountOf 19 rfl rfl ⟨⟨(Nat.le_of_ble_eq_true rfl), (Nat.le_of_ble_eq_true rfl)⟩, (Nat.le_of_ble_eq_true rfl), (Nat.le_of_ble_eq_true rfl)⟩ (Nat.le_of_ble_eq_true rfl) rfl rfl d_SD_part_91 ?_
          cases h
          exact r_iretx (pc := 94) C (Nat.le_of_ble_eq_true rfl) (Nat.le_of_ble_eq_true rfl) hr rfl _ rfl rfl rfl d_SD_part_94
        replace h := iN c648 h
        by_cases c650 : p1 = 3
        · replace h := ip c650 h
          refine r_tcase (pc := 26) (tgt := 95) C d_SD_part_26 c650 (by decide) (by decide) rfl (by decide) ?_
          refine r_aload_n (pc := 95) C d_SD_part_95 rfl 0 rfl ?_
          refine r_get (pc := 96) (v := .ref (ad 19)) C hin_SD 20 rfl rfl 1 (by decide) m_123 rfl rfl d_SD_part_96 ?_
          refine r_iload_n (pc := 99) C d_SD_part_99 rfl 1 rfl ?_
          obtain ⟨q649, hq649, h⟩ := ob h
          refine r_callV (pc := 100) (As := [.int p0]) (rest := []) (st1 := [.int q649]) hE gg_good C hX (c_Dr_placeOf_D hE hq649) m_223 m_33 m_34 m_12 m_35 hd_Dr_placeOf 19 rfl rfl ⟨⟨(Nat.le_of_ble_eq_true rfl), (Nat.le_of_ble_eq_true rfl)⟩, (Nat.le_of_ble_eq_true rfl), (Nat.le_of_ble_eq_true rfl)⟩ (Nat.le_of_ble_eq_true rfl) rfl rfl d_SD_part_100 ?_
          cases h
          exact r_iretx (pc := 103) C (Nat.le_of_ble_eq_true rfl) (Nat.le_of_ble_eq_true rfl) hr rfl _ rfl rfl rfl d_SD_part_103
        replace h := iN c650 h
        by_cases c652 : p1 = 4
        · replace h := ip c652 h
          refine r_tcase (pc := 26) (tgt := 104) C d_SD_part_26 c652 (by decide) (by decide) rfl (by decide) ?_
          refine r_aload_n (pc := 104) C d_SD_part_104 rfl 0 rfl ?_
          refine r_get (pc := 105) (v := .ref (ad 19)) C hin_SD 20 rfl rfl 1 (by decide) m_123 rfl rfl d_SD_part_105 ?_
          refine r_iload_n (pc := 108) C d_SD_part_108 rfl 1 rfl ?_
          obtain ⟨q651, hq651, h⟩ := ob h
          refine r_callV (pc := 109) (As := [.int p0]) (rest := []) (st1 := [.int q651]) hE gg_good C hX (c_Dr_goodOf_D hE hq651) m_224 m_29 m_30 m_12 m_31 hd_Dr_goodOf 19 rfl rfl ⟨⟨(Nat.le_of_ble_eq_true rfl), (Nat.le_of_ble_eq_true rfl)⟩, (Nat.le_of_ble_eq_true rfl), (Nat.le_of_ble_eq_true rfl)⟩ (Nat.le_of_ble_eq_true rfl) rfl rfl d_SD_part_109 ?_
          cases h
          exact r_iretx (pc := 112) C (Nat.le_of_ble_eq_true rfl) (Nat.le_of_ble_eq_true rfl) hr rfl _ rfl rfl rfl d_SD_part_112
        replace h := iN c652 h
        by_cases c655 : p1 = 5
        · replace h := ip c655 h
          refine r_tcase (pc := 26) (tgt := 113) C d_SD_part_26 c655 (by decide) (by decide) rfl (by decide) ?_
          refine r_aload_n (pc := 113) C d_SD_part_113 rfl 0 rfl ?_
          refine r_get (pc := 114) (v := .ref (ad 19)) C hin_SD 20 rfl rfl 1 (by decide) m_123 rfl rfl d_SD_part_114 ?_
          refine r_iload_n (pc := 117) C d_SD_part_117 rfl 1 rfl ?_
          obtain ⟨q653, hq653, h⟩ := ob h
          refine r_callV (pc := 118) (As := [.int p0]) (rest := []) (st1 := [.int q653]) hE gg_good C hX (c_Dr_takes_D hE hq653) m_225 m_48 m_49 m_12 m_50 hd_Dr_takes 19 rfl rfl ⟨⟨(Nat.le_of_ble_eq_true rfl), (Nat.le_of_ble_eq_true rfl)⟩, (Nat.le_of_ble_eq_true rfl), (Nat.le_of_ble_eq_true rfl)⟩ (Nat.le_of_ble_eq_true rfl) rfl rfl d_SD_part_118 ?_
          refine r_if_eq (pc := 121) (tgt := 128) C d_SD_part_121 (by decide) (fun c654 => ?_) (fun c654 => ?_)
          · replace h := ip c654 h
            refine r_iconst (pc := 128) (v := 0) C d_SD_part_128 (by decide) ?_
            cases h
            exact r_iretx (pc := 129) C (Nat.le_of_ble_eq_true rfl) (Nat.le_of_ble_eq_true rfl) hr rfl _ rfl rfl rfl d_SD_part_129
          · replace h := iN c654 h
            refine r_iconst (pc := 124) (v := 1) C d_SD_part_124 (by decide) ?_
            refine r_goto (pc := 125) (tgt := 129) C d_SD_part_125 (by decide) ?_
            cases h
            exact r_iretx (pc := 129) C (Nat.le_of_ble_eq_true rfl) (Nat.le_of_ble_eq_true rfl) hr rfl _ rfl rfl rfl d_SD_part_129
        replace h := iN c655 h
        by_cases c658 : p1 = 6
        · replace h := ip c658 h
          refine r_tcase (pc := 26) (tgt := 130) C d_SD_part_26 c658 (by decide) (by decide) rfl (by decide) ?_
          refine r_aload_n (pc := 130) C d_SD_part_130 rfl 0 rfl ?_
          refine r_get (pc := 131) (v := .ref (ad 19)) C hin_SD 20 rfl rfl 1 (by decide) m_123 rfl rfl d_SD_part_131 ?_
          refine r_iload_n (pc := 134) C d_SD_part_134 rfl 1 rfl ?_
          obtain ⟨q656, hq656, h⟩ := ob h
          refine r_callV (pc := 135) (As := [.int p0]) (rest := []) (st1 := [.int q656]) hE gg_good C hX (c_Dr_lies_D hE hq656) m_226 m_44 m_45 m_12 m_46 hd_Dr_lies 19 rfl rfl ⟨⟨(Nat.le_of_ble_eq_true rfl), (Nat.le_of_ble_eq_true rfl)⟩, (Nat.le_of_ble_eq_true rfl), (Nat.le_of_ble_eq_true rfl)⟩ (Nat.le_of_ble_eq_true rfl) rfl rfl d_SD_part_135 ?_
          refine r_if_eq (pc := 138) (tgt := 145) C d_SD_part_138 (by decide) (fun c657 => ?_) (fun c657 => ?_)
          · replace h := ip c657 h
            refine r_iconst (pc := 145) (v := 0) C d_SD_part_145 (by decide) ?_
            cases h
            exact r_iretx (pc := 146) C (Nat.le_of_ble_eq_true rfl) (Nat.le_of_ble_eq_true rfl) hr rfl _ rfl rfl rfl d_SD_part_146
          · replace h := iN c657 h
            refine r_iconst (pc := 141) (v := 1) C d_SD_part_141 (by decide) ?_
            refine r_goto (pc := 142) (tgt := 146) C d_SD_part_142 (by decide) ?_
            cases h
            exact r_iretx (pc := 146) C (Nat.le_of_ble_eq_true rfl) (Nat.le_of_ble_eq_true rfl) hr rfl _ rfl rfl rfl d_SD_part_146
        replace h := iN c658 h
        refine r_tableOut (pc := 26) (tgt := 147) C d_SD_part_26 (tout [0, 1, 2, 3, 4, 5, 6] (by decide) (List.forall_mem_cons.mpr ⟨c644, List.forall_mem_cons.mpr ⟨c646, List.forall_mem_cons.mpr ⟨c648, List.forall_mem_cons.mpr ⟨c650, List.forall_mem_cons.mpr ⟨c652, List.forall_mem_cons.mpr ⟨c655, List.forall_mem_cons.mpr ⟨c658, fun _ h => absurd h List.not_mem_nil⟩⟩⟩⟩⟩⟩⟩)) (by decide) ?_
        refine r_aload_n (pc := 147) C d_SD_part_147 rfl 0 rfl ?_
        refine r_get (pc := 148) (v := .ref (ad 13)) C hin_SD 20 rfl rfl 2 (by decide) m_124 rfl rfl d_SD_part_148 ?_
        refine r_iload_n (pc := 151) C d_SD_part_151 rfl 1 rfl ?_
        obtain ⟨q659, hq659, h⟩ := ob h
        refine r_callV (pc := 152) (As := [.int p0]) (rest := []) (st1 := [.int q659]) hE gg_good C hX (c_Re_isLeft_R hE hq659) m_138 m_20 m_21 m_22 m_23 hd_Re_isLeft 13 rfl rfl ⟨⟨(Nat.le_of_ble_eq_true rfl), (Nat.le_of_ble_eq_true rfl)⟩, (Nat.le_of_ble_eq_true rfl), (Nat.le_of_ble_eq_true rfl)⟩ (Nat.le_of_ble_eq_true rfl) rfl rfl d_SD_part_152 ?_
        refine r_if_eq (pc := 155) (tgt := 162) C d_SD_part_155 (by decide) (fun c660 => ?_) (fun c660 => ?_)
        · replace h := ip c660 h
          refine r_iconst (pc := 162) (v := 0) C d_SD_part_162 (by decide) ?_
          cases h
          exact r_iretx (pc := 163) C (Nat.le_of_ble_eq_true rfl) (Nat.le_of_ble_eq_true rfl) hr rfl _ rfl rfl rfl d_SD_part_163
        · replace h := iN c660 h
          refine r_iconst (pc := 158) (v := 1) C d_SD_part_158 (by decide) ?_
          refine r_goto (pc := 159) (tgt := 163) C d_SD_part_159 (by decide) ?_
          cases h
          exact r_iretx (pc := 163) C (Nat.le_of_ble_eq_true rfl) (Nat.le_of_ble_eq_true rfl) hr rfl _ rfl rfl rfl d_SD_part_163
      · replace h := iN c661 h
        cases h
        exact r_throw (pc := 15) (names := nmX) h0 hA0 hX hlT gg_good C (by decide +kernel) nmX_fit m_204 m_205 ms_2 ow_0 hno d_SD_part_15 d_SD_part_18 d_SD_part_19 d_SD_part_21 d_SD_part_24 ⟨(Nat.le_of_ble_eq_true rfl), (Nat.le_of_ble_eq_true rfl), (Nat.le_of_ble_eq_true rfl), (Nat.le_of_ble_eq_true rfl)⟩ (Nat.le_of_ble_eq_true rfl) (Nat.le_of_ble_eq_true rfl) rfl rfl
def f_SD_leave (x : Int32) (d : DD) (o : (Nat → Int32)) (t : TT) (p0 : Int32) (p1 : Int32) : Option ((String ⊕ Int32) × ((Nat → Int32)) × TT) :=
  Option.bind (f_SD_refuseMissingPart d p0) (fun q672 => sm q672 (fun e674 => some ((Sum.inl e674), o, t)) (fun v673 => Option.bind (f_Re_isLeft d o p0) (fun q676 => (if q676 = p1 then Option.bind (f_Re_setOut d o p0 p1) (fun q677 => Option.bind (f_SD_verdictIsMet x d q677 t) (fun q678 => (if q678.1 = 0 ∨ q678.1 = 1 then some ((Sum.inr q678.1), q677, q678.2) else none))) else some ((Sum.inl "java/lang/IllegalStateException"), o, t)))))
abbrev rm_SD_leave : Room := { frames := 7, cells := 2, slots := 12, locals := 111 }
theorem hd_SD_leave : y_SD_leave.cls ≠ "java/lang/invoke/MethodHandle" ∧ y_SD_leave.cls ≠ "java/lang/invoke/VarHandle" ∧ (parseMethodDescriptor y_SD_leave.desc).map (fun d => d.parameters.length) = some 2 := by decide +kernel
set_option maxHeartbeats 4000000 in
set_option maxRecDepth 100000 in
theorem c_SD_leave_X {l : Launch} {D : va_G} {A : Nat → Prop} {cI cZ cJ : ClassId} {u0 : State} (h0 : tw u0) (hA0 : ∀ q, A q → u0.heap.size ≤ q) (hlT : l.stackTraces = false) {ad : Nat → Nat} {x : Int32} {s : Int64} {d : DD} {o : (Nat → Int32)} {t : TT} {s2 : Int64} {d2 : DD} {rest : va_W} {p0 : Int32} {p1 : Int32} {q : (String ⊕ Int32) × ((Nat → Int32)) × TT} (h : f_SD_leave x d o t p0 p1 = some q) : cmx enI l (lat u0) D clsA (TY cI cZ cJ) A GG y_SD_leave b_SD_leave 3 (some .boolean) rm_SD_leave [.ref (ad 20), .int p0, .int p1] (WC ad cI cZ x s d o t s2 d2 rest) q.1 (WC ad cI cZ x s d q.2.1 q.2.2 s2 d2 rest) := by
  have hE := lat_stb hA0
  refine r_metx (own := R_SD) rfl (by decide) (Nat.le_of_ble_eq_true rfl) rfl ?_
  intro p e sg m args below meth c C hr hno hX
  unfold f_SD_leave at h
  refine r_aload_n (pc := 0) C d_SD_leave_0 rfl 0 rfl ?_
  refine r_iload_n (pc := 1) C d_SD_leave_1 rfl 1 rfl ?_
  obtain ⟨q672, hq672, h⟩ := ob h
  obtain ⟨e674, hs675⟩ | ⟨v673, hs675⟩ := sm_c q672
  · replace h := sm_l hs675 h
    cases h
    refine r_callVt (pc := 2) (As := [.int p0]) (rest := []) hE gg_good C hX (c_SD_refuseMissingPart_X h0 hA0 hlT hq672) hs675 m_227 m_228 m_229 m_132 m_230 hd_SD_refuseMissingPart 20 rfl rfl ⟨⟨(Nat.le_of_ble_eq_true rfl), (Nat.le_of_ble_eq_true rfl)⟩, (Nat.le_of_ble_eq_true rfl), (Nat.le_of_ble_eq_true rfl)⟩ (Nat.le_of_ble_eq_true rfl) rfl d_SD_leave_2 ?_
    exact r_outx C hno (Nat.le_of_ble_eq_true rfl) (Nat.le_of_ble_eq_true rfl) rfl rfl
  · replace h := sm_r hs675 h
    refine r_callV (pc := 2) (As := [.int p0]) (rest := []) (st1 := []) hE gg_good C hX (cm_of_cmx (c_SD_refuseMissingPart_X h0 hA0 hlT hq672) hs675) m_227 m_228 m_229 m_132 m_230 hd_SD_refuseMissingPart 20 rfl rfl ⟨⟨(Nat.le_of_ble_eq_true rfl), (Nat.le_of_ble_eq_true rfl)⟩, (Nat.le_of_ble_eq_true rfl), (Nat.le_of_ble_eq_true rfl)⟩ (Nat.le_of_ble_eq_true rfl) rfl rfl d_SD_leave_2 ?_
    refine r_aload_n (pc := 5) C d_SD_leave_5 rfl 0 rfl ?_
    refine r_get (pc := 6) (v := .ref (ad 13)) C hin_SD 20 rfl rfl 2 (by decide) m_124 rfl rfl d_SD_leave_6 ?_
    refine r_iload_n (pc := 9) C d_SD_leave_9 rfl 1 rfl ?_
    obtain ⟨q676, hq676, h⟩ := ob h
    refine r_callV (pc := 10) (As := [.int p0]) (rest := []) (st1 := [.int q676]) hE gg_good C hX (c_Re_isLeft_R hE hq676) m_138 m_20 m_21 m_22 m_23 hd_Re_isLeft 13 rfl rfl ⟨⟨(Nat.le_of_ble_eq_true rfl), (Nat.le_of_ble_eq_true rfl)⟩, (Nat.le_of_ble_eq_true rfl), (Nat.le_of_ble_eq_true rfl)⟩ (Nat.le_of_ble_eq_true rfl) rfl rfl d_SD_leave_10 ?_
    refine r_iload_n (pc := 13) C d_SD_leave_13 rfl 2 rfl ?_
    refine r_icmp_eq (pc := 14) (tgt := 27) C d_SD_leave_14 (by decide) (fun c680 => ?_) (fun c680 => ?_)
    · replace h := ip c680 h
      refine r_aload_n (pc := 27) C d_SD_leave_27 rfl 0 rfl ?_
      refine r_get (pc := 28) (v := .ref (ad 13)) C hin_SD 20 rfl rfl 2 (by decide) m_124 rfl rfl d_SD_leave_28 ?_
      refine r_iload_n (pc := 31) C d_SD_leave_31 rfl 1 rfl ?_
      refine r_iload_n (pc := 32) C d_SD_leave_32 rfl 2 rfl ?_
      obtain ⟨q677, hq677, h⟩ := ob h
      refine r_callV (pc := 33) (As := [.int p0, .int p1]) (rest := []) (st1 := []) hE gg_good C hX (c_Re_setOut_R hE hq677) m_125 m_126 m_127 m_22 m_128 hd_Re_setOut 13 rfl rfl ⟨⟨(Nat.le_of_ble_eq_true rfl), (Nat.le_of_ble_eq_true rfl)⟩, (Nat.le_of_ble_eq_true rfl), (Nat.le_of_ble_eq_true rfl)⟩ (Nat.le_of_ble_eq_true rfl) rfl rfl d_SD_leave_33 ?_
      refine r_aload_n (pc := 36) C d_SD_leave_36 rfl 0 rfl ?_
      obtain ⟨q678, hq678, h⟩ := ob h
      refine r_callV (pc := 37) (As := []) (rest := []) (st1 := [.int q678.1]) hE gg_good C hX (c_SD_verdictIsMet_X hE hq678) m_129 m_130 m_131 m_132 m_133 hd_SD_verdictIsMet 20 rfl rfl ⟨⟨(Nat.le_of_ble_eq_true rfl), (Nat.le_of_ble_eq_true rfl)⟩, (Nat.le_of_ble_eq_true rfl), (Nat.le_of_ble_eq_true rfl)⟩ (Nat.le_of_ble_eq_true rfl) rfl rfl d_SD_leave_37 ?_
      obtain ⟨hb679, h⟩ := ig h
      cases h
      exact r_iretx (pc := 40) C (Nat.le_of_ble_eq_true rfl) (Nat.le_of_ble_eq_true rfl) hr (nb01 hb679) _ rfl rfl rfl d_SD_leave_40
    · replace h := iN c680 h
      cases h
      exact r_throw (pc := 17) (names := nmX) h0 hA0 hX hlT gg_good C (by decide +kernel) nmX_fit m_231 m_232 ms_3 ow_2 hno d_SD_leave_17 d_SD_leave_20 d_SD_leave_21 d_SD_leave_23 d_SD_leave_26 ⟨(Nat.le_of_ble_eq_true rfl), (Nat.le_of_ble_eq_true rfl), (Nat.le_of_ble_eq_true rfl), (Nat.le_of_ble_eq_true rfl)⟩ (Nat.le_of_ble_eq_true rfl) (Nat.le_of_ble_eq_true rfl) rfl rfl
def f_SD_verdict (x : Int32) (d : DD) (o : (Nat → Int32)) (t : TT) (p0 : Int32) : Option ((String ⊕ Int32) × Int32 × TT) :=
  (if p0 < 0 then some ((Sum.inl "java/lang/IllegalArgumentException"), x, t) else (if p0 ≤ 63 then Option.bind (f_SD_verdictIsMet p0 d o t) (fun q685 => (if q685.1 = 0 ∨ q685.1 = 1 then some ((Sum.inr q685.1), p0, q685.2) else none)) else some ((Sum.inl "java/lang/IllegalArgumentException"), x, t)))
abbrev rm_SD_verdict : Room := { frames := 6, cells := 1, slots := 6, locals := 109 }
theorem hd_SD_verdict : y_SD_verdict.cls ≠ "java/lang/invoke/MethodHandle" ∧ y_SD_verdict.cls ≠ "java/lang/invoke/VarHandle" ∧ (parseMethodDescriptor y_SD_verdict.desc).map (fun d => d.parameters.length) = some 1 := by decide +kernel
set_option maxHeartbeats 4000000 in
set_option maxRecDepth 100000 in
theorem c_SD_verdict_X {l : Launch} {D : va_G} {A : Nat → Prop} {cI cZ cJ : ClassId} {u0 : State} (h0 : tw u0) (hA0 : ∀ q, A q → u0.heap.size ≤ q) (hlT : l.stackTraces = false) {ad : Nat → Nat} {x : Int32} {s : Int64} {d : DD} {o : (Nat → Int32)} {t : TT} {s2 : Int64} {d2 : DD} {rest : va_W} {p0 : Int32} {q : (String ⊕ Int32) × Int32 × TT} (h : f_SD_verdict x d o t p0 = some q) : cmx enI l (lat u0) D clsA (TY cI cZ cJ) A GG y_SD_verdict b_SD_verdict 2 (some .boolean) rm_SD_verdict [.ref (ad 20), .int p0] (WC ad cI cZ x s d o t s2 d2 rest) q.1 (WC ad cI cZ q.2.1 s d o q.2.2 s2 d2 rest) := by
  have hE := lat_stb hA0
  refine r_metx (own := R_SD) rfl (by decide) (Nat.le_of_ble_eq_true rfl) rfl ?_
  intro p e sg m args below meth c C hr hno hX
  unfold f_SD_verdict at h
  refine r_iload_n (pc := 0) C d_SD_verdict_0 rfl 1 rfl ?_
  refine r_if_lt (pc := 1) (tgt := 10) C d_SD_verdict_1 (by decide) (fun c688 => ?_) (fun c688 => ?_)
  · replace h := ip c688 h
    cases h
    exact r_throw (pc := 10) (names := nmX) h0 hA0 hX hlT gg_good C (by decide +kernel) nmX_fit m_204 m_205 ms_4 ow_0 hno d_SD_verdict_10 d_SD_verdict_13 d_SD_verdict_14 d_SD_verdict_16 d_SD_verdict_19 ⟨(Nat.le_of_ble_eq_true rfl), (Nat.le_of_ble_eq_true rfl), (Nat.le_of_ble_eq_true rfl), (Nat.le_of_ble_eq_true rfl)⟩ (Nat.le_of_ble_eq_true rfl) (Nat.le_of_ble_eq_true rfl) rfl rfl
  · replace h := iN c688 h
    refine r_iload_n (pc := 4) C d_SD_verdict_4 rfl 1 rfl ?_
    refine r_bipush (pc := 5) (v := 63) C d_SD_verdict_5 (by decide) ?_
    refine r_icmp_le (pc := 7) (tgt := 20) C d_SD_verdict_7 (by decide) (fun c687 => ?_) (fun c687 => ?_)
    · replace h := ip c687 h
      refine r_aload_n (pc := 20) C d_SD_verdict_20 rfl 0 rfl ?_
      refine r_iload_n (pc := 21) C d_SD_verdict_21 rfl 1 rfl ?_
      refine r_put (pc := 22) (ty := .int) (ws' := WC ad cI cZ p0 s d o t s2 d2 rest) C hin_SD t_SD t_SD_ok n_SD 20 rfl rfl 6 (by decide) m_118 rfl rfl pd_I rfl rfl (Nat.le_of_ble_eq_true rfl) rfl d_SD_verdict_22 ?_
      refine r_aload_n (pc := 25) C d_SD_verdict_25 rfl 0 rfl ?_
      obtain ⟨q685, hq685, h⟩ := ob h
      refine r_callV (pc := 26) (As := []) (rest := []) (st1 := [.int q685.1]) hE gg_good C hX (c_SD_verdictIsMet_X hE hq685) m_129 m_130 m_131 m_132 m_133 hd_SD_verdictIsMet 20 rfl rfl ⟨⟨(Nat.le_of_ble_eq_true rfl), (Nat.le_of_ble_eq_true rfl)⟩, (Nat.le_of_ble_eq_true rfl), (Nat.le_of_ble_eq_true rfl)⟩ (Nat.le_of_ble_eq_true rfl) rfl rfl d_SD_verdict_26 ?_
      obtain ⟨hb686, h⟩ := ig h
      cases h
      exact r_iretx (pc := 29) C (Nat.le_of_ble_eq_true rfl) (Nat.le_of_ble_eq_true rfl) hr (nb01 hb686) _ rfl rfl rfl d_SD_verdict_29
    · replace h := iN c687 h
      cases h
      exact r_throw (pc := 10) (names := nmX) h0 hA0 hX hlT gg_good C (by decide +kernel) nmX_fit m_204 m_205 ms_4 ow_0 hno d_SD_verdict_10 d_SD_verdict_13 d_SD_verdict_14 d_SD_verdict_16 d_SD_verdict_19 ⟨(Nat.le_of_ble_eq_true rfl), (Nat.le_of_ble_eq_true rfl), (Nat.le_of_ble_eq_true rfl), (Nat.le_of_ble_eq_true rfl)⟩ (Nat.le_of_ble_eq_true rfl) (Nat.le_of_ble_eq_true rfl) rfl rfl
def bd_SD_shorter_29 (x : Int32) (d : DD) (kx : Int32 × Int32 × ((Nat → Int32)) × TT → Option ((String ⊕ Int32) × ((Nat → Int32)) × TT)) (rec : Int32 × Int32 × ((Nat → Int32)) × TT → Option ((String ⊕ Int32) × ((Nat → Int32)) × TT)) (z : Int32 × Int32 × ((Nat → Int32)) × TT) : Option ((String ⊕ Int32) × ((Nat → Int32)) × TT) :=
  (if z.1 ≤ z.2.1 then kx (z.1, z.2.1, z.2.2.1, z.2.2.2) else Option.bind (f_SD_leaveOutInOneRound x d z.2.2.1 z.2.2.2) (fun q702 => (if q702.1 = 0 then kx (z.1, z.2.1, q702.2.1, q702.2.2) else rec (z.1, z.2.1 + 1, q702.2.1, q702.2.2))))
def f_SD_shorter (x : Int32) (d : DD) (o : (Nat → Int32)) (t : TT) : Option ((String ⊕ Int32) × ((Nat → Int32)) × TT) :=
  Option.bind (f_SD_verdictIsMet x d o t) (fun q700 => (if q700.1 = 0 then some ((Sum.inl "java/lang/IllegalStateException"), o, q700.2) else Option.bind (f_Dr_partCount d) (fun q701 => (itn (bd_SD_shorter_29 x d (fun z708 => Option.bind (f_Re_leftCount d z708.2.2.1) (fun q709 => some ((Sum.inr q709), z708.2.2.1, z708.2.2.2)))) 70 (q701 + (1 : Int32), 0, o, q700.2)))))
abbrev rm_SD_shorter : Room := { frames := 6, cells := 1, slots := 6, locals := 132 }
theorem hd_SD_shorter : y_SD_shorter.cls ≠ "java/lang/invoke/MethodHandle" ∧ y_SD_shorter.cls ≠ "java/lang/invoke/VarHandle" ∧ (parseMethodDescriptor y_SD_shorter.desc).map (fun d => d.parameters.length) = some 0 := by decide +kernel
set_option maxHeartbeats 4000000 in
set_option maxRecDepth 100000 in
theorem vl_SD_shorter_29_X {l : Launch} {D : va_G} {A : Nat → Prop} {cI cZ cJ : ClassId} {u0 : State} (h0 : tw u0) (hA0 : ∀ q, A q → u0.heap.size ≤ q) (hlT : l.stackTraces = false) {ad : Nat → Nat} {x : Int32} {s : Int64} {d : DD} {s2 : Int64} {d2 : DD} {rest : va_W} {p : Program} {e : Env} {sg : State} {m : MethodId} {args : Array Value} {below : List Frame} {meth : Method} {c : Code} (C : cx p sg m args meth c D clsA (TY cI cZ cJ) A GG R_SD b_SD_shorter 3) (hr : meth.sig.returnType = (some .int)) (hX : lat u0 sg sg.heap) {q : (String ⊕ Int32) × ((Nat → Int32)) × TT} {kx : Int32 × Int32 × ((Nat → Int32)) × TT → Option ((String ⊕ Int32) × ((Nat → Int32)) × TT)} (K : ∀ z : Int32 × Int32 × ((Nat → Int32)) × TT, kx z = some q → vv p l e rm_SD_shorter sg m args below meth c D clsA A 3 0 0 (mqx below (qx enI D clsA A rm_SD_shorter.cells rm_SD_shorter.slots q.1 (WC ad cI cZ x s d q.2.1 q.2.2 s2 d2 rest)) args sg) 50 [(0, .ref (ad 20)), (1, .int z.1), (2, .int z.2.1)] [] (WC ad cI cZ x s d z.2.2.1 z.2.2.2 s2 d2 rest)) :
    ∀ (n : Nat) (z : Int32 × Int32 × ((Nat → Int32)) × TT), itn (bd_SD_shorter_29 x d kx) n z = some q → vv p l e rm_SD_shorter sg m args below meth c D clsA A 3 0 0 (mqx below (qx enI D clsA A rm_SD_shorter.cells rm_SD_shorter.slots q.1 (WC ad cI cZ x s d q.2.1 q.2.2 s2 d2 rest)) args sg) 29 [(0, .ref (ad 20)), (1, .int z.1), (2, .int z.2.1)] [] (WC ad cI cZ x s d z.2.2.1 z.2.2.2 s2 d2 rest) := by
  have hE := lat_stb hA0
  intro n
  induction n with
  | zero => intro z h; cases h
  | succ n ih =>
    intro z h
    obtain ⟨zv0, zv1, zv2, zv3⟩ := z
    replace h : bd_SD_shorter_29 x d kx (itn (bd_SD_shorter_29 x d kx) n) (zv0, zv1, zv2, zv3) = some q := h
    unfold bd_SD_shorter_29 at h
    (try dsimp only at h)
    show vv p l e rm_SD_shorter sg m args below meth c D clsA A 3 0 0 (mqx below (qx enI D clsA A rm_SD_shorter.cells rm_SD_shorter.slots q.1 (WC ad cI cZ x s d q.2.1 q.2.2 s2 d2 rest)) args sg) 29 [(0, .ref (ad 20)), (1, .int zv0), (2, .int zv1)] [] (WC ad cI cZ x s d zv2 zv3 s2 d2 rest)
    refine r_iload_n (pc := 29) C d_SD_shorter_29 rfl 2 rfl ?_
    refine r_iload_n (pc := 30) C d_SD_shorter_30 rfl 1 rfl ?_
    refine r_icmp_ge (pc := 31) (tgt := 50) C d_SD_shorter_31 (by decide) (fun c707 => ?_) (fun c707 => ?_)
    · replace h := ip c707 h
      refine r_loc (lv' := [(0, .ref (ad 20)), (1, .int zv0), (2, .int zv1)]) [0, 1, 2] rfl ?_
      exact K (zv0, zv1, zv2, zv3) h
    · replace h := iN c707 h
      refine r_aload_n (pc := 34) C d_SD_shorter_34 rfl 0 rfl ?_
      obtain ⟨q705, hq705, h⟩ := ob h
      refine r_callV (pc := 35) (As := []) (rest := []) (st1 := [.int q705.1]) hE gg_good C hX (c_SD_leaveOutInOneRound_X hE hq705) m_233 m_234 m_235 m_132 m_236 hd_SD_leaveOutInOneRound 20 rfl rfl ⟨⟨(Nat.le_of_ble_eq_true rfl), (Nat.le_of_ble_eq_true rfl)⟩, (Nat.le_of_ble_eq_true rfl), (Nat.le_of_ble_eq_true rfl)⟩ (Nat.le_of_ble_eq_true rfl) rfl rfl d_SD_shorter_35 ?_
      refine r_if_ne (pc := 38) (tgt := 44) C d_SD_shorter_38 (by decide) (fun c706 => ?_) (fun c706 => ?_)
      · replace h := iN c706 h
        refine r_iincK (pc := 44) (w0 := 1) (lv' := [(2, .int (zv1 + 1)), (0, .ref (ad 20)), (1, .int zv0)]) C d_SD_shorter_44 (by decide) 2 rfl (by decide) rfl ?_
        refine r_goto (pc := 47) (tgt := 29) C d_SD_shorter_47 (by decide) ?_
        refine r_loc (lv' := [(0, .ref (ad 20)), (1, .int zv0), (2, .int (zv1 + 1))]) [1, 2, 0] rfl ?_
        exact ih (zv0, zv1 + 1, q705.2.1, q705.2.2) h
      · replace h := ip c706 h
        refine r_goto (pc := 41) (tgt := 50) C d_SD_shorter_41 (by decide) ?_
        refine r_loc (lv' := [(0, .ref (ad 20)), (1, .int zv0), (2, .int zv1)]) [0, 1, 2] rfl ?_
        exact K (zv0, zv1, q705.2.1, q705.2.2) h
set_option maxHeartbeats 4000000 in
set_option maxRecDepth 100000 in
theorem c_SD_shorter_X {l : Launch} {D : va_G} {A : Nat → Prop} {cI cZ cJ : ClassId} {u0 : State} (h0 : tw u0) (hA0 : ∀ q, A q → u0.heap.size ≤ q) (hlT : l.stackTraces = false) {ad : Nat → Nat} {x : Int32} {s : Int64} {d : DD} {o : (Nat → Int32)} {t : TT} {s2 : Int64} {d2 : DD} {rest : va_W} {q : (String ⊕ Int32) × ((Nat → Int32)) × TT} (h : f_SD_shorter x d o t = some q) : cmx enI l (lat u0) D clsA (TY cI cZ cJ) A GG y_SD_shorter b_SD_shorter 3 (some .int) rm_SD_shorter [.ref (ad 20)] (WC ad cI cZ x s d o t s2 d2 rest) q.1 (WC ad cI cZ x s d q.2.1 q.2.2 s2 d2 rest) := by
  have hE := lat_stb hA0
  refine r_metx (own := R_SD) rfl (by decide) (Nat.le_of_ble_eq_true rfl) rfl ?_
  intro p e sg m args below meth c C hr hno hX
  unfold f_SD_shorter at h
  refine r_aload_n (pc := 0) C d_SD_shorter_0 rfl 0 rfl ?_
  obtain ⟨q700, hq700, h⟩ := ob h
  refine r_callV (pc := 1) (As := []) (rest := []) (st1 := [.int q700.1]) hE gg_good C hX (c_SD_verdictIsMet_X hE hq700) m_129 m_130 m_131 m_132 m_133 hd_SD_verdictIsMet 20 rfl rfl ⟨⟨(Nat.le_of_ble_eq_true rfl), (Nat.le_of_ble_eq_true rfl)⟩, (Nat.le_of_ble_eq_true rfl), (Nat.le_of_ble_eq_true rfl)⟩ (Nat.le_of_ble_eq_true rfl) rfl rfl d_SD_shorter_1 ?_
  refine r_if_ne (pc := 4) (tgt := 17) C d_SD_shorter_4 (by decide) (fun c710 => ?_) (fun c710 => ?_)
  · replace h := iN c710 h
    refine r_aload_n (pc := 17) C d_SD_shorter_17 rfl 0 rfl ?_
    refine r_get (pc := 18) (v := .ref (ad 19)) C hin_SD 20 rfl rfl 1 (by decide) m_123 rfl rfl d_SD_shorter_18 ?_
    obtain ⟨q701, hq701, h⟩ := ob h
    refine r_callV (pc := 21) (As := []) (rest := []) (st1 := [.int q701]) hE gg_good C hX (c_Dr_partCount_D hE hq701) m_139 m_97 m_98 m_12 m_99 hd_Dr_partCount 19 rfl rfl ⟨⟨(Nat.le_of_ble_eq_true rfl), (Nat.le_of_ble_eq_true rfl)⟩, (Nat.le_of_ble_eq_true rfl), (Nat.le_of_ble_eq_true rfl)⟩ (Nat.le_of_ble_eq_true rfl) rfl rfl d_SD_shorter_21 ?_
    refine r_iconst (pc := 24) (v := 1) C d_SD_shorter_24 (by decide) ?_
    refine r_iadd (pc := 25) C d_SD_shorter_25 ?_
    refine r_istore_n (pc := 26) (lv' := [(1, .int (q701 + (1 : Int32))), (0, .ref (ad 20))]) C d_SD_shorter_26 rfl (by decide) rfl ?_
    refine r_iconst (pc := 27) (v := 0) C d_SD_shorter_27 (by decide) ?_
    refine r_istore_n (pc := 28) (lv' := [(2, .int (0)), (1, .int (q701 + (1 : Int32))), (0, .ref (ad 20))]) C d_SD_shorter_28 rfl (by decide) rfl ?_
    refine r_loc (lv' := [(0, .ref (ad 20)), (1, .int (q701 + (1 : Int32))), (2, .int (0))]) [2, 1, 0] rfl ?_
    refine vl_SD_shorter_29_X h0 hA0 hlT C hr hX (fun z708 h => ?_) 70 (q701 + (1 : Int32), 0, o, q700.2) h
    refine r_aload_n (pc := 50) C d_SD_shorter_50 rfl 0 rfl ?_
    refine r_get (pc := 51) (v := .ref (ad 13)) C hin_SD 20 rfl rfl 2 (by decide) m_124 rfl rfl d_SD_shorter_51 ?_
    obtain ⟨q709, hq709, h⟩ := ob h
    refine r_callV (pc := 54) (As := []) (rest := []) (st1 := [.int q709]) hE gg_good C hX (c_Re_leftCount_R hE hq709) m_152 m_153 m_154 m_22 m_155 hd_Re_leftCount 13 rfl rfl ⟨⟨(Nat.le_of_ble_eq_true rfl), (Nat.le_of_ble_eq_true rfl)⟩, (Nat.le_of_ble_eq_true rfl), (Nat.le_of_ble_eq_true rfl)⟩ (Nat.le_of_ble_eq_true rfl) rfl rfl d_SD_shorter_54 ?_
    cases h
    exact r_iretx (pc := 57) C (Nat.le_of_ble_eq_true rfl) (Nat.le_of_ble_eq_true rfl) hr rfl _ rfl rfl rfl d_SD_shorter_57
  · replace h := ip c710 h
    cases h
    exact r_throw (pc := 7) (names := nmX) h0 hA0 hX hlT gg_good C (by decide +kernel) nmX_fit m_231 m_232 ms_5 ow_2 hno d_SD_shorter_7 d_SD_shorter_10 d_SD_shorter_11 d_SD_shorter_13 d_SD_shorter_16 ⟨(Nat.le_of_ble_eq_true rfl), (Nat.le_of_ble_eq_true rfl), (Nat.le_of_ble_eq_true rfl), (Nat.le_of_ble_eq_true rfl)⟩ (Nat.le_of_ble_eq_true rfl) (Nat.le_of_ble_eq_true rfl) rfl rfl
def f_SD_left (d : DD) (o : (Nat → Int32)) (p0 : Int32) : Option ((String ⊕ Int32)) :=
  Option.bind (f_Re_partLeftAt d o p0) (fun q711 => (if (0 : Int32) ≤ q711 then some (Sum.inr q711) else some (Sum.inl "java/util/NoSuchElementException")))
abbrev rm_SD_left : Room := { frames := 6, cells := 1, slots := 6, locals := 90 }
theorem hd_SD_left : y_SD_left.cls ≠ "java/lang/invoke/MethodHandle" ∧ y_SD_left.cls ≠ "java/lang/invoke/VarHandle" ∧ (parseMethodDescriptor y_SD_left.desc).map (fun d => d.parameters.length) = some 1 := by decide +kernel
set_option maxHeartbeats 4000000 in
set_option maxRecDepth 100000 in
theorem c_SD_left_X {l : Launch} {D : va_G} {A : Nat → Prop} {cI cZ cJ : ClassId} {u0 : State} (h0 : tw u0) (hA0 : ∀ q, A q → u0.heap.size ≤ q) (hlT : l.stackTraces = false) {ad : Nat → Nat} {x : Int32} {s : Int64} {d : DD} {o : (Nat → Int32)} {t : TT} {s2 : Int64} {d2 : DD} {rest : va_W} {p0 : Int32} {q : (String ⊕ Int32)} (h : f_SD_left d o p0 = some q) : cmx enI l (lat u0) D clsA (TY cI cZ cJ) A GG y_SD_left b_SD_left 3 (some .int) rm_SD_left [.ref (ad 20), .int p0] (WC ad cI cZ x s d o t s2 d2 rest) q (WC ad cI cZ x s d o t s2 d2 rest) := by
  have hE := lat_stb hA0
  refine r_metx (own := R_SD) rfl (by decide) (Nat.le_of_ble_eq_true rfl) rfl ?_
  intro p e sg m args below meth c C hr hno hX
  unfold f_SD_left at h
  refine r_aload_n (pc := 0) C d_SD_left_0 rfl 0 rfl ?_
  refine r_get (pc := 1) (v := .ref (ad 13)) C hin_SD 20 rfl rfl 2 (by decide) m_124 rfl rfl d_SD_left_1 ?_
  refine r_iload_n (pc := 4) C d_SD_left_4 rfl 1 rfl ?_
  obtain ⟨q711, hq711, h⟩ := ob h
  refine r_callV (pc := 5) (As := [.int p0]) (rest := []) (st1 := [.int q711]) hE gg_good C hX (c_Re_partLeftAt_R hE hq711) m_237 m_238 m_239 m_22 m_240 hd_Re_partLeftAt 13 rfl rfl ⟨⟨(Nat.le_of_ble_eq_true rfl), (Nat.le_of_ble_eq_true rfl)⟩, (Nat.le_of_ble_eq_true rfl), (Nat.le_of_ble_eq_true rfl)⟩ (Nat.le_of_ble_eq_true rfl) rfl rfl d_SD_left_5 ?_
  refine r_istore_n (pc := 8) (lv' := [(2, .int q711), (0, .ref (ad 20)), (1, .int p0)]) C d_SD_left_8 rfl (by decide) rfl ?_
  refine r_iload_n (pc := 9) C d_SD_left_9 rfl 0 rfl ?_
  refine r_if_ge (pc := 10) (tgt := 23) C d_SD_left_10 (by decide) (fun c712 => ?_) (fun c712 => ?_)
  · replace h := ip c712 h
    refine r_iload_n (pc := 23) C d_SD_left_23 rfl 0 rfl ?_
    cases h
    exact r_iretx (pc := 24) C (Nat.le_of_ble_eq_true rfl) (Nat.le_of_ble_eq_true rfl) hr rfl _ rfl rfl rfl d_SD_left_24
  · replace h := iN c712 h
    cases h
    exact r_thrown (pc := 13) (names := nmY) h0 hA0 hX hlT gg_good C (by decide +kernel) (by decide +kernel) nmY_fit bsY_0 bsY_1 bsY_2 bsY_5 m_214 m_215 ms_6 ow_1 hno d_SD_left_13 d_SD_left_16 d_SD_left_17 d_SD_left_19 d_SD_left_22 ⟨(Nat.le_of_ble_eq_true rfl), (Nat.le_of_ble_eq_true rfl), (Nat.le_of_ble_eq_true rfl), (Nat.le_of_ble_eq_true rfl)⟩ (Nat.le_of_ble_eq_true rfl) (Nat.le_of_ble_eq_true rfl) rfl rfl
def f_SD_refuseMissingPlace (d : DD) (p0 : Int32) : Option ((String ⊕ Unit)) :=
  Option.bind (f_Dr_hasPlace d p0) (fun q713 => (if q713 = 0 then some (Sum.inl "java/util/NoSuchElementException") else some (Sum.inr ())))
abbrev rm_SD_refuseMissingPlace : Room := { frames := 6, cells := 1, slots := 6, locals := 90 }
theorem hd_SD_refuseMissingPlace : y_SD_refuseMissingPlace.cls ≠ "java/lang/invoke/MethodHandle" ∧ y_SD_refuseMissingPlace.cls ≠ "java/lang/invoke/VarHandle" ∧ (parseMethodDescriptor y_SD_refuseMissingPlace.desc).map (fun d => d.parameters.length) = some 1 := by decide +kernel
set_option maxHeartbeats 4000000 in
set_option maxRecDepth 100000 in
theorem c_SD_refuseMissingPlace_X {l : Launch} {D : va_G} {A : Nat → Prop} {cI cZ cJ : ClassId} {u0 : State} (h0 : tw u0) (hA0 : ∀ q, A q → u0.heap.size ≤ q) (hlT : l.stackTraces = false) {ad : Nat → Nat} {x : Int32} {s : Int64} {d : DD} {o : (Nat → Int32)} {t : TT} {s2 : Int64} {d2 : DD} {rest : va_W} {p0 : Int32} {q : (String ⊕ Unit)} (h : f_SD_refuseMissingPlace d p0 = some q) : cmx enV l (lat u0) D clsA (TY cI cZ cJ) A GG y_SD_refuseMissingPlace b_SD_refuseMissingPlace 2 none rm_SD_refuseMissingPlace [.ref (ad 20), .int p0] (WC ad cI cZ x s d o t s2 d2 rest) q (WC ad cI cZ x s d o t s2 d2 rest) := by
  have hE := lat_stb hA0
  refine r_metx (own := R_SD) rfl (by decide) (Nat.le_of_ble_eq_true rfl) rfl ?_
  intro p e sg m args below meth c C hr hno hX
  unfold f_SD_refuseMissingPlace at h
  refine r_aload_n (pc := 0) C d_SD_refuseMissingPlace_0 rfl 0 rfl ?_
  refine r_get (pc := 1) (v := .ref (ad 19)) C hin_SD 20 rfl rfl 1 (by decide) m_123 rfl rfl d_SD_refuseMissingPlace_1 ?_
  refine r_iload_n (pc := 4) C d_SD_refuseMissingPlace_4 rfl 1 rfl ?_
  obtain ⟨q713, hq713, h⟩ := ob h
  refine r_callV (pc := 5) (As := [.int p0]) (rest := []) (st1 := [.int q713]) hE gg_good C hX (c_Dr_hasPlace_D hE hq713) m_241 m_60 m_61 m_12 m_62 hd_Dr_hasPlace 19 rfl rfl ⟨⟨(Nat.le_of_ble_eq_true rfl), (Nat.le_of_ble_eq_true rfl)⟩, (Nat.le_of_ble_eq_true rfl), (Nat.le_of_ble_eq_true rfl)⟩ (Nat.le_of_ble_eq_true rfl) rfl rfl d_SD_refuseMissingPlace_5 ?_
  refine r_if_ne (pc := 8) (tgt := 21) C d_SD_refuseMissingPlace_8 (by decide) (fun c714 => ?_) (fun c714 => ?_)
  · replace h := iN c714 h
    cases h
    exact r_vretx (pc := 21) C (Nat.le_of_ble_eq_true rfl) (Nat.le_of_ble_eq_true rfl) hr () rfl rfl rfl d_SD_refuseMissingPlace_21
  · replace h := ip c714 h
    cases h
    exact r_thrown (pc := 11) (names := nmY) h0 hA0 hX hlT gg_good C (by decide +kernel) (by decide +kernel) nmY_fit bsY_0 bsY_1 bsY_2 bsY_5 m_214 m_215 ms_7 ow_1 hno d_SD_refuseMissingPlace_11 d_SD_refuseMissingPlace_14 d_SD_refuseMissingPlace_15 d_SD_refuseMissingPlace_17 d_SD_refuseMissingPlace_20 ⟨(Nat.le_of_ble_eq_true rfl), (Nat.le_of_ble_eq_true rfl), (Nat.le_of_ble_eq_true rfl), (Nat.le_of_ble_eq_true rfl)⟩ (Nat.le_of_ble_eq_true rfl) (Nat.le_of_ble_eq_true rfl) rfl rfl
def f_SD_pieces (d : DD) (o : (Nat → Int32)) (t : TT) (p0 : Int32) (p1 : Int32) : Option ((String ⊕ Int32) × TT) :=
  Option.bind (f_SD_refuseMissingPlace d p0) (fun q723 => sm q723 (fun e725 => some ((Sum.inl e725), t)) (fun v724 => Option.bind (f_Dr_hasGood d p1) (fun q727 => (if q727 = 0 then some ((Sum.inl "java/util/NoSuchElementException"), t) else Option.bind (f_St_tell d o t) (fun q728 => Option.bind (f_St_stockAt d q728.2 p0 p1) (fun q729 => some ((Sum.inr q729), q728.2)))))))
abbrev rm_SD_pieces : Room := { frames := 7, cells := 2, slots := 12, locals := 111 }
theorem hd_SD_pieces : y_SD_pieces.cls ≠ "java/lang/invoke/MethodHandle" ∧ y_SD_pieces.cls ≠ "java/lang/invoke/VarHandle" ∧ (parseMethodDescriptor y_SD_pieces.desc).map (fun d => d.parameters.length) = some 2 := by decide +kernel
set_option maxHeartbeats 4000000 in
set_option maxRecDepth 100000 in
theorem c_SD_pieces_X {l : Launch} {D : va_G} {A : Nat → Prop} {cI cZ cJ : ClassId} {u0 : State} (h0 : tw u0) (hA0 : ∀ q, A q → u0.heap.size ≤ q) (hlT : l.stackTraces = false) {ad : Nat → Nat} {x : Int32} {s : Int64} {d : DD} {o : (Nat → Int32)} {t : TT} {s2 : Int64} {d2 : DD} {rest : va_W} {p0 : Int32} {p1 : Int32} {q : (String ⊕ Int32) × TT} (h : f_SD_pieces d o t p0 p1 = some q) : cmx enI l (lat u0) D clsA (TY cI cZ cJ) A GG y_SD_pieces b_SD_pieces 3 (some .int) rm_SD_pieces [.ref (ad 20), .int p0, .int p1] (WC ad cI cZ x s d o t s2 d2 rest) q.1 (WC ad cI cZ x s d o q.2 s2 d2 rest) := by
  have hE := lat_stb hA0
  refine r_metx (own := R_SD) rfl (by decide) (Nat.le_of_ble_eq_true rfl) rfl ?_
  intro p e sg m args below meth c C hr hno hX
  unfold f_SD_pieces at h
  refine r_aload_n (pc := 0) C d_SD_pieces_0 rfl 0 rfl ?_
  refine r_iload_n (pc := 1) C d_SD_pieces_1 rfl 1 rfl ?_
  obtain ⟨q723, hq723, h⟩ := ob h
  obtain ⟨e725, hs726⟩ | ⟨v724, hs726⟩ := sm_c q723
  · replace h := sm_l hs726 h
    cases h
    refine r_callVt (pc := 2) (As := [.int p0]) (rest := []) hE gg_good C hX (c_SD_refuseMissingPlace_X h0 hA0 hlT hq723) hs726 m_244 m_245 m_246 m_132 m_247 hd_SD_refuseMissingPlace 20 rfl rfl ⟨⟨(Nat.le_of_ble_eq_true rfl), (Nat.le_of_ble_eq_true rfl)⟩, (Nat.le_of_ble_eq_true rfl), (Nat.le_of_ble_eq_true rfl)⟩ (Nat.le_of_ble_eq_true rfl) rfl d_SD_pieces_2 ?_
    exact r_outx C hno (Nat.le_of_ble_eq_true rfl) (Nat.le_of_ble_eq_true rfl) rfl rfl
  · replace h := sm_r hs726 h
    refine r_callV (pc := 2) (As := [.int p0]) (rest := []) (st1 := []) hE gg_good C hX (cm_of_cmx (c_SD_refuseMissingPlace_X h0 hA0 hlT hq723) hs726) m_244 m_245 m_246 m_132 m_247 hd_SD_refuseMissingPlace 20 rfl rfl ⟨⟨(Nat.le_of_ble_eq_true rfl), (Nat.le_of_ble_eq_true rfl)⟩, (Nat.le_of_ble_eq_true rfl), (Nat.le_of_ble_eq_true rfl)⟩ (Nat.le_of_ble_eq_true rfl) rfl rfl d_SD_pieces_2 ?_
    refine r_aload_n (pc := 5) C d_SD_pieces_5 rfl 0 rfl ?_
    refine r_get (pc := 6) (v := .ref (ad 19)) C hin_SD 20 rfl rfl 1 (by decide) m_123 rfl rfl d_SD_pieces_6 ?_
    refine r_iload_n (pc := 9) C d_SD_pieces_9 rfl 2 rfl ?_
    obtain ⟨q727, hq727, h⟩ := ob h
    refine r_callV (pc := 10) (As := [.int p1]) (rest := []) (st1 := [.int q727]) hE gg_good C hX (c_Dr_hasGood_D hE hq727) m_243 m_56 m_57 m_12 m_58 hd_Dr_hasGood 19 rfl rfl ⟨⟨(Nat.le_of_ble_eq_true rfl), (Nat.le_of_ble_eq_true rfl)⟩, (Nat.le_of_ble_eq_true rfl), (Nat.le_of_ble_eq_true rfl)⟩ (Nat.le_of_ble_eq_true rfl) rfl rfl d_SD_pieces_10 ?_
    refine r_if_ne (pc := 13) (tgt := 26) C d_SD_pieces_13 (by decide) (fun c730 => ?_) (fun c730 => ?_)
    · replace h := iN c730 h
      refine r_aload_n (pc := 26) C d_SD_pieces_26 rfl 0 rfl ?_
      refine r_get (pc := 27) (v := .ref (ad 10)) C hin_SD 20 rfl rfl 3 (by decide) m_117 rfl rfl d_SD_pieces_27 ?_
      obtain ⟨q728, hq728, h⟩ := ob h
      refine r_callV (pc := 30) (As := []) (rest := []) (st1 := [.int q728.1]) hE gg_good C hX (c_St_tell_T hE hq728) m_119 m_120 m_121 m_73 m_122 hd_St_tell 10 rfl rfl ⟨⟨(Nat.le_of_ble_eq_true rfl), (Nat.le_of_ble_eq_true rfl)⟩, (Nat.le_of_ble_eq_true rfl), (Nat.le_of_ble_eq_true rfl)⟩ (Nat.le_of_ble_eq_true rfl) rfl rfl d_SD_pieces_30 ?_
      refine r_pop (pc := 33) C d_SD_pieces_33 rfl ?_
      refine r_aload_n (pc := 34) C d_SD_pieces_34 rfl 0 rfl ?_
      refine r_get (pc := 35) (v := .ref (ad 10)) C hin_SD 20 rfl rfl 3 (by decide) m_117 rfl rfl d_SD_pieces_35 ?_
      refine r_iload_n (pc := 38) C d_SD_pieces_38 rfl 1 rfl ?_
      refine r_iload_n (pc := 39) C d_SD_pieces_39 rfl 2 rfl ?_
      obtain ⟨q729, hq729, h⟩ := ob h
      refine r_callV (pc := 40) (As := [.int p0, .int p1]) (rest := []) (st1 := [.int q729]) hE gg_good C hX (c_St_stockAt_T hE hq729) m_242 m_71 m_72 m_73 m_74 hd_St_stockAt 10 rfl rfl ⟨⟨(Nat.le_of_ble_eq_true rfl), (Nat.le_of_ble_eq_true rfl)⟩, (Nat.le_of_ble_eq_true rfl), (Nat.le_of_ble_eq_true rfl)⟩ (Nat.le_of_ble_eq_true rfl) rfl rfl d_SD_pieces_40 ?_
      cases h
      exact r_iretx (pc := 43) C (Nat.le_of_ble_eq_true rfl) (Nat.le_of_ble_eq_true rfl) hr rfl _ rfl rfl rfl d_SD_pieces_43
    · replace h := ip c730 h
      cases h
      exact r_thrown (pc := 16) (names := nmY) h0 hA0 hX hlT gg_good C (by decide +kernel) (by decide +kernel) nmY_fit bsY_0 bsY_1 bsY_2 bsY_5 m_214 m_215 ms_8 ow_1 hno d_SD_pieces_16 d_SD_pieces_19 d_SD_pieces_20 d_SD_pieces_22 d_SD_pieces_25 ⟨(Nat.le_of_ble_eq_true rfl), (Nat.le_of_ble_eq_true rfl), (Nat.le_of_ble_eq_true rfl), (Nat.le_of_ble_eq_true rfl)⟩ (Nat.le_of_ble_eq_true rfl) (Nat.le_of_ble_eq_true rfl) rfl rfl
