def f_SD_count (d : DD) (o : (Nat → Int32)) (p0 : Int32) : Option (Int32) :=
  (if p0 = 0 then Option.bind (f_Dr_partCount d) (fun q489 => some q489) else (if p0 = 1 then Option.bind (f_Dr_placeCount d) (fun q491 => some q491) else (if p0 = 2 then Option.bind (f_Dr_goodCount d) (fun q493 => some q493) else (if p0 = 3 then Option.bind (f_Dr_actCount d) (fun q495 => some q495) else (if p0 = 4 then Option.bind (f_Dr_lieCount d) (fun q504 => some q504) else (if p0 = 5 then Option.bind (f_Re_leftCount d o) (fun q506 => some q506) else (if p0 = 6 then Option.bind (f_Re_countingActs d o) (fun q517 => some q517) else (if p0 = 7 then Option.bind (f_Dr_drawnSize d) (fun q519 => some q519) else some (-1)))))))))
abbrev rm_SD_count : Room := { frames := 4, cells := 0, slots := 0, locals := 85 }
theorem hd_SD_count : y_SD_count.cls ≠ "java/lang/invoke/MethodHandle" ∧ y_SD_count.cls ≠ "java/lang/invoke/VarHandle" ∧ (parseMethodDescriptor y_SD_count.desc).map (fun d => d.parameters.length) = some 1 := by decide +kernel
set_option maxHeartbeats 4000000 in
set_option maxRecDepth 100000 in
theorem c_SD_count_X {l : Launch} {E : State → Heap → Prop} {D : va_G} {A : Nat → Prop} {cI cZ cJ : ClassId} (hE : stb A E) {ad : Nat → Nat} {x : Int32} {s : Int64} {d : DD} {o : (Nat → Int32)} {t : TT} {s2 : Int64} {d2 : DD} {rest : va_W} {p0 : Int32} {q : Int32} (h : f_SD_count d o p0 = some q) : cm l E D clsA (TY cI cZ cJ) A GG y_SD_count b_SD_count 2 (some .int) rm_SD_count [.ref (ad 20), .int p0] (WC ad cI cZ x s d o t s2 d2 rest) (some (.int q)) (WC ad cI cZ x s d o t s2 d2 rest) := by
  refine r_met (own := R_SD) rfl (by decide) (Nat.le_of_ble_eq_true rfl) rfl ?_
  intro p e sg m args below meth c C hr hnm hX
  unfold f_SD_count at h
  refine r_iload_n (pc := 0) C d_SD_count_0 rfl 1 rfl ?_
  by_cases c490 : p0 = 0
  · replace h := ip c490 h
    refine r_tcase (pc := 1) (tgt := 48) C d_SD_count_1 c490 (by decide) (by decide) rfl (by decide) ?_
    refine r_aload_n (pc := 48) C d_SD_count_48 rfl 0 rfl ?_
    refine r_get (pc := 49) (v := .ref (ad 19)) C hin_SD 20 rfl rfl 1 (by decide) m_123 rfl rfl d_SD_count_49 ?_
    obtain ⟨q489, hq489, h⟩ := ob h
    refine r_callV (pc := 52) (As := []) (rest := []) (st1 := [.int q489]) hE gg_good C hX (c_Dr_partCount_D hE hq489) m_139 m_97 m_98 m_12 m_99 hd_Dr_partCount 19 rfl rfl ⟨⟨(Nat.le_of_ble_eq_true rfl), (Nat.le_of_ble_eq_true rfl)⟩, (Nat.le_of_ble_eq_true rfl), (Nat.le_of_ble_eq_true rfl)⟩ (Nat.le_of_ble_eq_true rfl) rfl rfl d_SD_count_52 ?_
    cases h
    exact r_iret (pc := 55) C hr rfl rfl rfl d_SD_count_55
  replace h := iN c490 h
  by_cases c492 : p0 = 1
  · replace h := ip c492 h
    refine r_tcase (pc := 1) (tgt := 56) C d_SD_count_1 c492 (by decide) (by decide) rfl (by decide) ?_
    refine r_aload_n (pc := 56) C d_SD_count_56 rfl 0 rfl ?_
    refine r_get (pc := 57) (v := .ref (ad 19)) C hin_SD 20 rfl rfl 1 (by decide) m_123 rfl rfl d_SD_count_57 ?_
    obtain ⟨q491, hq491, h⟩ := ob h
    refine r_callV (pc := 60) (As := []) (rest := []) (st1 := [.int q491]) hE gg_good C hX (c_Dr_placeCount_D hE hq491) m_175 m_106 m_107 m_12 m_108 hd_Dr_placeCount 19 rfl rfl ⟨⟨(Nat.le_of_ble_eq_true rfl), (Nat.le_of_ble_eq_true rfl)⟩, (Nat.le_of_ble_eq_true rfl), (Nat.le_of_ble_eq_true rfl)⟩ (Nat.le_of_ble_eq_true rfl) rfl rfl d_SD_count_60 ?_
    cases h
    exact r_iret (pc := 63) C hr rfl rfl rfl d_SD_count_63
  replace h := iN c492 h
  by_cases c494 : p0 = 2
  · replace h := ip c494 h
    refine r_tcase (pc := 1) (tgt := 64) C d_SD_count_1 c494 (by decide) (by decide) rfl (by decide) ?_
    refine r_aload_n (pc := 64) C d_SD_count_64 rfl 0 rfl ?_
    refine r_get (pc := 65) (v := .ref (ad 19)) C hin_SD 20 rfl rfl 1 (by decide) m_123 rfl rfl d_SD_count_65 ?_
    obtain ⟨q493, hq493, h⟩ := ob h
    refine r_callV (pc := 68) (As := []) (rest := []) (st1 := [.int q493]) hE gg_good C hX (c_Dr_goodCount_D hE hq493) m_176 m_76 m_77 m_12 m_78 hd_Dr_goodCount 19 rfl rfl ⟨⟨(Nat.le_of_ble_eq_true rfl), (Nat.le_of_ble_eq_true rfl)⟩, (Nat.le_of_ble_eq_true rfl), (Nat.le_of_ble_eq_true rfl)⟩ (Nat.le_of_ble_eq_true rfl) rfl rfl d_SD_count_68 ?_
    cases h
    exact r_iret (pc := 71) C hr rfl rfl rfl d_SD_count_71
  replace h := iN c494 h
  by_cases c496 : p0 = 3
  · replace h := ip c496 h
    refine r_tcase (pc := 1) (tgt := 72) C d_SD_count_1 c496 (by decide) (by decide) rfl (by decide) ?_
    refine r_aload_n (pc := 72) C d_SD_count_72 rfl 0 rfl ?_
    refine r_get (pc := 73) (v := .ref (ad 19)) C hin_SD 20 rfl rfl 1 (by decide) m_123 rfl rfl d_SD_count_73 ?_
    obtain ⟨q495, hq495, h⟩ := ob h
    refine r_callV (pc := 76) (As := []) (rest := []) (st1 := [.int q495]) hE gg_good C hX (c_Dr_actCount_D hE hq495) m_177 m_178 m_179 m_12 m_180 hd_Dr_actCount 19 rfl rfl ⟨⟨(Nat.le_of_ble_eq_true rfl), (Nat.le_of_ble_eq_true rfl)⟩, (Nat.le_of_ble_eq_true rfl), (Nat.le_of_ble_eq_true rfl)⟩ (Nat.le_of_ble_eq_true rfl) rfl rfl d_SD_count_76 ?_
    cases h
    exact r_iret (pc := 79) C hr rfl rfl rfl d_SD_count_79
  replace h := iN c496 h
  by_cases c505 : p0 = 4
  · replace h := ip c505 h
    refine r_tcase (pc := 1) (tgt := 80) C d_SD_count_1 c505 (by decide) (by decide) rfl (by decide) ?_
    refine r_aload_n (pc := 80) C d_SD_count_80 rfl 0 rfl ?_
    refine r_get (pc := 81) (v := .ref (ad 19)) C hin_SD 20 rfl rfl 1 (by decide) m_123 rfl rfl d_SD_count_81 ?_
    obtain ⟨q504, hq504, h⟩ := ob h
    refine r_callV (pc := 84) (As := []) (rest := []) (st1 := [.int q504]) hE gg_good C hX (c_Dr_lieCount_D hE hq504) m_182 m_183 m_184 m_12 m_185 hd_Dr_lieCount 19 rfl rfl ⟨⟨(Nat.le_of_ble_eq_true rfl), (Nat.le_of_ble_eq_true rfl)⟩, (Nat.le_of_ble_eq_true rfl), (Nat.le_of_ble_eq_true rfl)⟩ (Nat.le_of_ble_eq_true rfl) rfl rfl d_SD_count_84 ?_
    cases h
    exact r_iret (pc := 87) C hr rfl rfl rfl d_SD_count_87
  replace h := iN c505 h
  by_cases c507 : p0 = 5
  · replace h := ip c507 h
    refine r_tcase (pc := 1) (tgt := 88) C d_SD_count_1 c507 (by decide) (by decide) rfl (by decide) ?_
    refine r_aload_n (pc := 88) C d_SD_count_88 rfl 0 rfl ?_
    refine r_get (pc := 89) (v := .ref (ad 13)) C hin_SD 20 rfl rfl 2 (by decide) m_124 rfl rfl d_SD_count_89 ?_
    obtain ⟨q506, hq506, h⟩ := ob h
    refine r_callV (pc := 92) (As := []) (rest := []) (st1 := [.int q506]) hE gg_good C hX (c_Re_leftCount_R hE hq506) m_152 m_153 m_154 m_22 m_155 hd_Re_leftCount 13 rfl rfl ⟨⟨(Nat.le_of_ble_eq_true rfl), (Nat.le_of_ble_eq_true rfl)⟩, (Nat.le_of_ble_eq_true rfl), (Nat.le_of_ble_eq_true rfl)⟩ (Nat.le_of_ble_eq_true rfl) rfl rfl d_SD_count_92 ?_
    cases h
    exact r_iret (pc := 95) C hr rfl rfl rfl d_SD_count_95
  replace h := iN c507 h
  by_cases c518 : p0 = 6
  · replace h := ip c518 h
    refine r_tcase (pc := 1) (tgt := 96) C d_SD_count_1 c518 (by decide) (by decide) rfl (by decide) ?_
    refine r_aload_n (pc := 96) C d_SD_count_96 rfl 0 rfl ?_
    refine r_get (pc := 97) (v := .ref (ad 13)) C hin_SD 20 rfl rfl 2 (by decide) m_124 rfl rfl d_SD_count_97 ?_
    obtain ⟨q517, hq517, h⟩ := ob h
    refine r_callV (pc := 100) (As := []) (rest := []) (st1 := [.int q517]) hE gg_good C hX (c_Re_countingActs_R hE hq517) m_187 m_188 m_189 m_22 m_190 hd_Re_countingActs 13 rfl rfl ⟨⟨(Nat.le_of_ble_eq_true rfl), (Nat.le_of_ble_eq_true rfl)⟩, (Nat.le_of_ble_eq_true rfl), (Nat.le_of_ble_eq_true rfl)⟩ (Nat.le_of_ble_eq_true rfl) rfl rfl d_SD_count_100 ?_
    cases h
    exact r_iret (pc := 103) C hr rfl rfl rfl d_SD_count_103
  replace h := iN c518 h
  by_cases c520 : p0 = 7
  · replace h := ip c520 h
    refine r_tcase (pc := 1) (tgt := 104) C d_SD_count_1 c520 (by decide) (by decide) rfl (by decide) ?_
    refine r_aload_n (pc := 104) C d_SD_count_104 rfl 0 rfl ?_
    refine r_get (pc := 105) (v := .ref (ad 19)) C hin_SD 20 rfl rfl 1 (by decide) m_123 rfl rfl d_SD_count_105 ?_
    obtain ⟨q519, hq519, h⟩ := ob h
    refine r_callV (pc := 108) (As := []) (rest := []) (st1 := [.int q519]) hE gg_good C hX (c_Dr_drawnSize_D hE hq519) m_191 m_192 m_193 m_12 m_194 hd_Dr_drawnSize 19 rfl rfl ⟨⟨(Nat.le_of_ble_eq_true rfl), (Nat.le_of_ble_eq_true rfl)⟩, (Nat.le_of_ble_eq_true rfl), (Nat.le_of_ble_eq_true rfl)⟩ (Nat.le_of_ble_eq_true rfl) rfl rfl d_SD_count_108 ?_
    cases h
    exact r_iret (pc := 111) C hr rfl rfl rfl d_SD_count_111
  replace h := iN c520 h
  refine r_tableOut (pc := 1) (tgt := 112) C d_SD_count_1 (tout [0, 1, 2, 3, 4, 5, 6, 7] (by decide) (List.forall_mem_cons.mpr ⟨c490, List.forall_mem_cons.mpr ⟨c492, List.forall_mem_cons.mpr ⟨c494, List.forall_mem_cons.mpr ⟨c496, List.forall_mem_cons.mpr ⟨c505, List.forall_mem_cons.mpr ⟨c507, List.forall_mem_cons.mpr ⟨c518, List.forall_mem_cons.mpr ⟨c520, fun _ h => absurd h List.not_mem_nil⟩⟩⟩⟩⟩⟩⟩⟩)) (by decide) ?_
  refine r_iconst (pc := 112) (v := (-1)) C d_SD_count_112 (by decide) ?_
  cases h
  exact r_iret (pc := 113) C hr rfl rfl rfl d_SD_count_113
def bd_SD_leaveOutInOneRound_12 (x : Int32) (d : DD) (kx : Int32 × Int32 × ((Nat → Int32)) × TT → Option (Int32 × ((Nat → Int32)) × TT)) (rec : Int32 × Int32 × ((Nat → Int32)) × TT → Option (Int32 × ((Nat → Int32)) × TT)) (z : Int32 × Int32 × ((Nat → Int32)) × TT) : Option (Int32 × ((Nat → Int32)) × TT) :=
  (if z.2.1 < 0 then kx (z.1, z.2.1, z.2.2.1, z.2.2.2) else Option.bind (f_Re_isLeft d z.2.2.1 z.2.1) (fun q541 => (if q541 = 0 then rec (z.1, z.2.1 + (-1), z.2.2.1, z.2.2.2) else Option.bind (f_Re_setOut d z.2.2.1 z.2.1 (1)) (fun q542 => Option.bind (f_SD_verdictIsMet x d q542 z.2.2.2) (fun q543 => Option.bind (f_Re_setOut d q542 z.2.1 q543.1) (fun q544 => (if z.1 = 0 then (if q543.1 = 0 then rec (0, z.2.1 + (-1), q544, q543.2) else rec (1, z.2.1 + (-1), q544, q543.2)) else rec (1, z.2.1 + (-1), q544, q543.2))))))))
def f_SD_leaveOutInOneRound (x : Int32) (d : DD) (o : (Nat → Int32)) (t : TT) : Option (Int32 × ((Nat → Int32)) × TT) :=
  Option.bind (f_Dr_partCount d) (fun q540 => (itn (bd_SD_leaveOutInOneRound_12 x d (fun z557 => (if z557.1 = 0 ∨ z557.1 = 1 then some (z557.1, z557.2.2.1, z557.2.2.2) else none))) 70 (0, q540 - (1 : Int32), o, t)))
abbrev rm_SD_leaveOutInOneRound : Room := { frames := 5, cells := 0, slots := 0, locals := 109 }
theorem hd_SD_leaveOutInOneRound : y_SD_leaveOutInOneRound.cls ≠ "java/lang/invoke/MethodHandle" ∧ y_SD_leaveOutInOneRound.cls ≠ "java/lang/invoke/VarHandle" ∧ (parseMethodDescriptor y_SD_leaveOutInOneRound.desc).map (fun d => d.parameters.length) = some 0 := by decide +kernel
set_option maxHeartbeats 4000000 in
set_option maxRecDepth 100000 in
theorem vl_SD_leaveOutInOneRound_12_X {l : Launch} {E : State → Heap → Prop} {D : va_G} {A : Nat → Prop} {cI cZ cJ : ClassId} (hE : stb A E) {ad : Nat → Nat} {x : Int32} {s : Int64} {d : DD} {s2 : Int64} {d2 : DD} {rest : va_W} {p : Program} {e : Env} {sg : State} {m : MethodId} {args : Array Value} {below : List Frame} {meth : Method} {c : Code} (C : cx p sg m args meth c D clsA (TY cI cZ cJ) A GG R_SD b_SD_leaveOutInOneRound 4) (hr : meth.sig.returnType = (some .boolean)) (hX : E sg sg.heap) {q : Int32 × ((Nat → Int32)) × TT} {kx : Int32 × Int32 × ((Nat → Int32)) × TT → Option (Int32 × ((Nat → Int32)) × TT)} (K : ∀ z : Int32 × Int32 × ((Nat → Int32)) × TT, kx z = some q → vv p l e rm_SD_leaveOutInOneRound sg m args below meth c D clsA A 4 0 0 (MQ below (qcI D clsA A (some (.int q.1)) (WC ad cI cZ x s d q.2.1 q.2.2 s2 d2 rest)) args sg rm_SD_leaveOutInOneRound.cells rm_SD_leaveOutInOneRound.slots A) 70 [(0, .ref (ad 20)), (1, .int z.1), (2, .int z.2.1)] [] (WC ad cI cZ x s d z.2.2.1 z.2.2.2 s2 d2 rest)) :
    ∀ (n : Nat) (z : Int32 × Int32 × ((Nat → Int32)) × TT), itn (bd_SD_leaveOutInOneRound_12 x d kx) n z = some q → vv p l e rm_SD_leaveOutInOneRound sg m args below meth c D clsA A 4 0 0 (MQ below (qcI D clsA A (some (.int q.1)) (WC ad cI cZ x s d q.2.1 q.2.2 s2 d2 rest)) args sg rm_SD_leaveOutInOneRound.cells rm_SD_leaveOutInOneRound.slots A) 12 [(0, .ref (ad 20)), (1, .int z.1), (2, .int z.2.1)] [] (WC ad cI cZ x s d z.2.2.1 z.2.2.2 s2 d2 rest) := by
  have _ := hE
  intro n
  induction n with
  | zero => intro z h; cases h
  | succ n ih =>
    intro z h
    obtain ⟨zv0, zv1, zv2, zv3⟩ := z
    replace h : bd_SD_leaveOutInOneRound_12 x d kx (itn (bd_SD_leaveOutInOneRound_12 x d kx) n) (zv0, zv1, zv2, zv3) = some q := h
    unfold bd_SD_leaveOutInOneRound_12 at h
    (try dsimp only at h)
    show vv p l e rm_SD_leaveOutInOneRound sg m args below meth c D clsA A 4 0 0 (MQ below (qcI D clsA A (some (.int q.1)) (WC ad cI cZ x s d q.2.1 q.2.2 s2 d2 rest)) args sg rm_SD_leaveOutInOneRound.cells rm_SD_leaveOutInOneRound.slots A) 12 [(0, .ref (ad 20)), (1, .int zv0), (2, .int zv1)] [] (WC ad cI cZ x s d zv2 zv3 s2 d2 rest)
    refine r_iload_n (pc := 12) C d_SD_leaveOutInOneRound_12 rfl 2 rfl ?_
    refine r_if_lt (pc := 13) (tgt := 70) C d_SD_leaveOutInOneRound_13 (by decide) (fun c556 => ?_) (fun c556 => ?_)
    · replace h := ip c556 h
      refine r_loc (lv' := [(0, .ref (ad 20)), (1, .int zv0), (2, .int zv1)]) [0, 1, 2] rfl ?_
      exact K (zv0, zv1, zv2, zv3) h
    · replace h := iN c556 h
      refine r_aload_n (pc := 16) C d_SD_leaveOutInOneRound_16 rfl 0 rfl ?_
      refine r_get (pc := 17) (v := .ref (ad 13)) C hin_SD 20 rfl rfl 2 (by decide) m_124 rfl rfl d_SD_leaveOutInOneRound_17 ?_
      refine r_iload_n (pc := 20) C d_SD_leaveOutInOneRound_20 rfl 2 rfl ?_
      obtain ⟨q549, hq549, h⟩ := ob h
      refine r_callV (pc := 21) (As := [.int zv1]) (rest := []) (st1 := [.int q549]) hE gg_good C hX (c_Re_isLeft_R hE hq549) m_138 m_20 m_21 m_22 m_23 hd_Re_isLeft 13 rfl rfl ⟨⟨(Nat.le_of_ble_eq_true rfl), (Nat.le_of_ble_eq_true rfl)⟩, (Nat.le_of_ble_eq_true rfl), (Nat.le_of_ble_eq_true rfl)⟩ (Nat.le_of_ble_eq_true rfl) rfl rfl d_SD_leaveOutInOneRound_21 ?_
      refine r_if_eq (pc := 24) (tgt := 64) C d_SD_leaveOutInOneRound_24 (by decide) (fun c555 => ?_) (fun c555 => ?_)
      · replace h := ip c555 h
        refine r_iincK (pc := 64) (w0 := (-1)) (lv' := [(2, .int (zv1 + (-1))), (0, .ref (ad 20)), (1, .int zv0)]) C d_SD_leaveOutInOneRound_64 (by decide) 2 rfl (by decide) rfl ?_
        refine r_goto (pc := 67) (tgt := 12) C d_SD_leaveOutInOneRound_67 (by decide) ?_
        refine r_loc (lv' := [(0, .ref (ad 20)), (1, .int zv0), (2, .int (zv1 + (-1)))]) [1, 2, 0] rfl ?_
        exact ih (zv0, zv1 + (-1), zv2, zv3) h
      · replace h := iN c555 h
        refine r_aload_n (pc := 27) C d_SD_leaveOutInOneRound_27 rfl 0 rfl ?_
        refine r_get (pc := 28) (v := .ref (ad 13)) C hin_SD 20 rfl rfl 2 (by decide) m_124 rfl rfl d_SD_leaveOutInOneRound_28 ?_
        refine r_iload_n (pc := 31) C d_SD_leaveOutInOneRound_31 rfl 2 rfl ?_
        refine r_iconst (pc := 32) (v := 1) C d_SD_leaveOutInOneRound_32 (by decide) ?_
        obtain ⟨q550, hq550, h⟩ := ob h
        refine r_callV (pc := 33) (As := [.int zv1, .int (1)]) (rest := []) (st1 := []) hE gg_good C hX (c_Re_setOut_R hE hq550) m_125 m_126 m_127 m_22 m_128 hd_Re_setOut 13 rfl rfl ⟨⟨(Nat.le_of_ble_eq_true rfl), (Nat.le_of_ble_eq_true rfl)⟩, (Nat.le_of_ble_eq_true rfl), (Nat.le_of_ble_eq_true rfl)⟩ (Nat.le_of_ble_eq_true rfl) rfl rfl d_SD_leaveOutInOneRound_33 ?_
        refine r_aload_n (pc := 36) C d_SD_leaveOutInOneRound_36 rfl 0 rfl ?_
        obtain ⟨q551, hq551, h⟩ := ob h
        refine r_callV (pc := 37) (As := []) (rest := []) (st1 := [.int q551.1]) hE gg_good C hX (c_SD_verdictIsMet_X hE hq551) m_129 m_130 m_131 m_132 m_133 hd_SD_verdictIsMet 20 rfl rfl ⟨⟨(Nat.le_of_ble_eq_true rfl), (Nat.le_of_ble_eq_true rfl)⟩, (Nat.le_of_ble_eq_true rfl), (Nat.le_of_ble_eq_true rfl)⟩ (Nat.le_of_ble_eq_true rfl) rfl rfl d_SD_leaveOutInOneRound_37 ?_
        refine r_istore_n (pc := 40) (lv' := [(3, .int q551.1), (0, .ref (ad 20)), (1, .int zv0), (2, .int zv1)]) C d_SD_leaveOutInOneRound_40 rfl (by decide) rfl ?_
        refine r_aload_n (pc := 41) C d_SD_leaveOutInOneRound_41 rfl 1 rfl ?_
        refine r_get (pc := 42) (v := .ref (ad 13)) C hin_SD 20 rfl rfl 2 (by decide) m_124 rfl rfl d_SD_leaveOutInOneRound_42 ?_
        refine r_iload_n (pc := 45) C d_SD_leaveOutInOneRound_45 rfl 3 rfl ?_
        refine r_iload_n (pc := 46) C d_SD_leaveOutInOneRound_46 rfl 0 rfl ?_
        obtain ⟨q552, hq552, h⟩ := ob h
        refine r_callV (pc := 47) (As := [.int zv1, .int q551.1]) (rest := []) (st1 := []) hE gg_good C hX (c_Re_setOut_R hE hq552) m_125 m_126 m_127 m_22 m_128 hd_Re_setOut 13 rfl rfl ⟨⟨(Nat.le_of_ble_eq_true rfl), (Nat.le_of_ble_eq_true rfl)⟩, (Nat.le_of_ble_eq_true rfl), (Nat.le_of_ble_eq_true rfl)⟩ (Nat.le_of_ble_eq_true rfl) rfl rfl d_SD_leaveOutInOneRound_47 ?_
        refine r_iload_n (pc := 50) C d_SD_leaveOutInOneRound_50 rfl 2 rfl ?_
        refine r_if_ne (pc := 51) (tgt := 58) C d_SD_leaveOutInOneRound_51 (by decide) (fun c554 => ?_) (fun c554 => ?_)
        · replace h := iN c554 h
          refine r_iconst (pc := 58) (v := 1) C d_SD_leaveOutInOneRound_58 (by decide) ?_
          refine r_goto (pc := 59) (tgt := 63) C d_SD_leaveOutInOneRound_59 (by decide) ?_
          refine r_istore_n (pc := 63) (lv' := [(1, .int (1)), (3, .int q551.1), (0, .ref (ad 20)), (2, .int zv1)]) C d_SD_leaveOutInOneRound_63 rfl (by decide) rfl ?_
          refine r_iincK (pc := 64) (w0 := (-1)) (lv' := [(2, .int (zv1 + (-1))), (1, .int (1)), (3, .int q551.1), (0, .ref (ad 20))]) C d_SD_leaveOutInOneRound_64 (by decide) 3 rfl (by decide) rfl ?_
          refine r_goto (pc := 67) (tgt := 12) C d_SD_leaveOutInOneRound_67 (by decide) ?_
          refine r_loc (lv' := [(0, .ref (ad 20)), (1, .int (1)), (2, .int (zv1 + (-1)))]) [3, 1, 0] rfl ?_
          exact ih (1, zv1 + (-1), q552, q551.2) h
        · replace h := ip c554 h
          refine r_iload_n (pc := 54) C d_SD_leaveOutInOneRound_54 rfl 0 rfl ?_
          refine r_if_eq (pc := 55) (tgt := 62) C d_SD_leaveOutInOneRound_55 (by decide) (fun c553 => ?_) (fun c553 => ?_)
          · replace h := ip c553 h
            refine r_iconst (pc := 62) (v := 0) C d_SD_leaveOutInOneRound_62 (by decide) ?_
            refine r_istore_n (pc := 63) (lv' := [(1, .int (0)), (3, .int q551.1), (0, .ref (ad 20)), (2, .int zv1)]) C d_SD_leaveOutInOneRound_63 rfl (by decide) rfl ?_
            refine r_iincK (pc := 64) (w0 := (-1)) (lv' := [(2, .int (zv1 + (-1))), (1, .int (0)), (3, .int q551.1), (0, .ref (ad 20))]) C d_SD_leaveOutInOneRound_64 (by decide) 3 rfl (by decide) rfl ?_
            refine r_goto (pc := 67) (tgt := 12) C d_SD_leaveOutInOneRound_67 (by decide) ?_
            refine r_loc (lv' := [(0, .ref (ad 20)), (1, .int (0)), (2, .int (zv1 + (-1)))]) [3, 1, 0] rfl ?_
            exact ih (0, zv1 + (-1), q552, q551.2) h
          · replace h := iN c553 h
            refine r_iconst (pc := 58) (v := 1) C d_SD_leaveOutInOneRound_58 (by decide) ?_
            refine r_goto (pc := 59) (tgt := 63) C d_SD_leaveOutInOneRound_59 (by decide) ?_
            refine r_istore_n (pc := 63) (lv' := [(1, .int (1)), (3, .int q551.1), (0, .ref (ad 20)), (2, .int zv1)]) C d_SD_leaveOutInOneRound_63 rfl (by decide) rfl ?_
            refine r_iincK (pc := 64) (w0 := (-1)) (lv' := [(2, .int (zv1 + (-1))), (1, .int (1)), (3, .int q551.1), (0, .ref (ad 20))]) C d_SD_leaveOutInOneRound_64 (by decide) 3 rfl (by decide) rfl ?_
            refine r_goto (pc := 67) (tgt := 12) C d_SD_leaveOutInOneRound_67 (by decide) ?_
            refine r_loc (lv' := [(0, .ref (ad 20)), (1, .int (1)), (2, .int (zv1 + (-1)))]) [3, 1, 0] rfl ?_
            exact ih (1, zv1 + (-1), q552, q551.2) h
set_option maxHeartbeats 4000000 in
set_option maxRecDepth 100000 in
theorem c_SD_leaveOutInOneRound_X {l : Launch} {E : State → Heap → Prop} {D : va_G} {A : Nat → Prop} {cI cZ cJ : ClassId} (hE : stb A E) {ad : Nat → Nat} {x : Int32} {s : Int64} {d : DD} {o : (Nat → Int32)} {t : TT} {s2 : Int64} {d2 : DD} {rest : va_W} {q : Int32 × ((Nat → Int32)) × TT} (h : f_SD_leaveOutInOneRound x d o t = some q) : cm l E D clsA (TY cI cZ cJ) A GG y_SD_leaveOutInOneRound b_SD_leaveOutInOneRound 4 (some .boolean) rm_SD_leaveOutInOneRound [.ref (ad 20)] (WC ad cI cZ x s d o t s2 d2 rest) (some (.int q.1)) (WC ad cI cZ x s d q.2.1 q.2.2 s2 d2 rest) := by
  refine r_met (own := R_SD) rfl (by decide) (Nat.le_of_ble_eq_true rfl) rfl ?_
  intro p e sg m args below meth c C hr hnm hX
  unfold f_SD_leaveOutInOneRound at h
  refine r_iconst (pc := 0) (v := 0) C d_SD_leaveOutInOneRound_0 (by decide) ?_
  refine r_istore_n (pc := 1) (lv' := [(1, .int (0)), (0, .ref (ad 20))]) C d_SD_leaveOutInOneRound_1 rfl (by decide) rfl ?_
  refine r_aload_n (pc := 2) C d_SD_leaveOutInOneRound_2 rfl 1 rfl ?_
  refine r_get (pc := 3) (v := .ref (ad 19)) C hin_SD 20 rfl rfl 1 (by decide) m_123 rfl rfl d_SD_leaveOutInOneRound_3 ?_
  obtain ⟨q540, hq540, h⟩ := ob h
  refine r_callV (pc := 6) (As := []) (rest := []) (st1 := [.int q540]) hE gg_good C hX (c_Dr_partCount_D hE hq540) m_139 m_97 m_98 m_12 m_99 hd_Dr_partCount 19 rfl rfl ⟨⟨(Nat.le_of_ble_eq_true rfl), (Nat.le_of_ble_eq_true rfl)⟩, (Nat.le_of_ble_eq_true rfl), (Nat.le_of_ble_eq_true rfl)⟩ (Nat.le_of_ble_eq_true rfl) rfl rfl d_SD_leaveOutInOneRound_6 ?_
  refine r_iconst (pc := 9) (v := 1) C d_SD_leaveOutInOneRound_9 (by decide) ?_
  refine r_isub (pc := 10) C d_SD_leaveOutInOneRound_10 ?_
  refine r_istore_n (pc := 11) (lv' := [(2, .int (q540 - (1 : Int32))), (1, .int (0)), (0, .ref (ad 20))]) C d_SD_leaveOutInOneRound_11 rfl (by decide) rfl ?_
  refine r_loc (lv' := [(0, .ref (ad 20)), (1, .int (0)), (2, .int (q540 - (1 : Int32)))]) [2, 1, 0] rfl ?_
  refine vl_SD_leaveOutInOneRound_12_X hE C hr hX (fun z557 h => ?_) 70 (0, q540 - (1 : Int32), o, t) h
  refine r_iload_n (pc := 70) C d_SD_leaveOutInOneRound_70 rfl 1 rfl ?_
  obtain ⟨hb558, h⟩ := ig h
  cases h
  exact r_iret (pc := 71) C hr (nb01 hb558) rfl rfl d_SD_leaveOutInOneRound_71
set_option maxHeartbeats 4000000 in
set_option maxRecDepth 100000 in
theorem c_Dr_has_D2 {l : Launch} {E : State → Heap → Prop} {D : va_G} {A : Nat → Prop} {cI cZ cJ : ClassId} (hE : stb A E) {ad : Nat → Nat} {x : Int32} {s : Int64} {d : DD} {o : (Nat → Int32)} {t : TT} {s2 : Int64} {d2 : DD} {rest : va_W} {p0 : Int32} {q : Int32} (h : f_Dr_has d2 p0 = some q) : cm l E D clsA (TY cI cZ cJ) A GG y_Dr_has b_Dr_has 2 (some .boolean) rm_Dr_has [.ref (ad 5), .int p0] (WC ad cI cZ x s d o t s2 d2 rest) (some (.int q)) (WC ad cI cZ x s d o t s2 d2 rest) := by
  refine r_met (own := R_Dr) rfl (by decide) (Nat.le_of_ble_eq_true rfl) rfl ?_
  intro p e sg m args below meth c C hr hnm hX
  unfold f_Dr_has at h
  refine r_iload_n (pc := 0) C d_Dr_has_0 rfl 1 rfl ?_
  refine r_if_lt (pc := 1) (tgt := 22) C d_Dr_has_1 (by decide) (fun c562 => ?_) (fun c562 => ?_)
  · replace h := ip c562 h
    refine r_iconst (pc := 22) (v := 0) C d_Dr_has_22 (by decide) ?_
    cases h
    exact r_iret (pc := 23) C hr rfl rfl rfl d_Dr_has_23
  · replace h := iN c562 h
    refine r_iload_n (pc := 4) C d_Dr_has_4 rfl 1 rfl ?_
    refine r_aload_n (pc := 5) C d_Dr_has_5 rfl 0 rfl ?_
    refine r_get (pc := 6) (v := .int d2.2.1) C hin_Dr 5 rfl rfl 1 (by decide) m_5 rfl rfl d_Dr_has_6 ?_
    refine r_icmp_ge (pc := 9) (tgt := 22) C d_Dr_has_9 (by decide) (fun c561 => ?_) (fun c561 => ?_)
    · replace h := ip c561 h
      refine r_iconst (pc := 22) (v := 0) C d_Dr_has_22 (by decide) ?_
      cases h
      exact r_iret (pc := 23) C hr rfl rfl rfl d_Dr_has_23
    · replace h := iN c561 h
      refine r_iload_n (pc := 12) C d_Dr_has_12 rfl 1 rfl ?_
      refine r_bipush (pc := 13) (v := 30) C d_Dr_has_13 (by decide) ?_
      refine r_icmp_ge (pc := 15) (tgt := 22) C d_Dr_has_15 (by decide) (fun c560 => ?_) (fun c560 => ?_)
      · replace h := ip c560 h
        refine r_iconst (pc := 22) (v := 0) C d_Dr_has_22 (by decide) ?_
        cases h
        exact r_iret (pc := 23) C hr rfl rfl rfl d_Dr_has_23
      · replace h := iN c560 h
        refine r_iconst (pc := 18) (v := 1) C d_Dr_has_18 (by decide) ?_
        refine r_goto (pc := 19) (tgt := 23) C d_Dr_has_19 (by decide) ?_
        cases h
        exact r_iret (pc := 23) C hr rfl rfl rfl d_Dr_has_23
set_option maxHeartbeats 4000000 in
set_option maxRecDepth 100000 in
theorem c_Dr_amountOf_D2 {l : Launch} {E : State → Heap → Prop} {D : va_G} {A : Nat → Prop} {cI cZ cJ : ClassId} (hE : stb A E) {ad : Nat → Nat} {x : Int32} {s : Int64} {d : DD} {o : (Nat → Int32)} {t : TT} {s2 : Int64} {d2 : DD} {rest : va_W} {p0 : Int32} {q : Int32} (h : f_Dr_amountOf d2 p0 = some q) : cm l E D clsA (TY cI cZ cJ) A GG y_Dr_amountOf b_Dr_amountOf 2 (some .int) rm_Dr_amountOf [.ref (ad 5), .int p0] (WC ad cI cZ x s d o t s2 d2 rest) (some (.int q)) (WC ad cI cZ x s d o t s2 d2 rest) := by
  refine r_met (own := R_Dr) rfl (by decide) (Nat.le_of_ble_eq_true rfl) rfl ?_
  intro p e sg m args below meth c C hr hnm hX
  unfold f_Dr_amountOf at h
  refine r_aload_n (pc := 0) C d_Dr_amountOf_0 rfl 0 rfl ?_
  refine r_iload_n (pc := 1) C d_Dr_amountOf_1 rfl 1 rfl ?_
  obtain ⟨q563, hq563, h⟩ := ob h
  refine r_callV (pc := 2) (As := [.int p0]) (rest := []) (st1 := [.int q563]) hE gg_good C hX (c_Dr_has_D2 hE hq563) m_17 m_10 m_11 m_12 m_13 hd_Dr_has 5 rfl rfl ⟨⟨(Nat.le_of_ble_eq_true rfl), (Nat.le_of_ble_eq_true rfl)⟩, (Nat.le_of_ble_eq_true rfl), (Nat.le_of_ble_eq_true rfl)⟩ (Nat.le_of_ble_eq_true rfl) rfl rfl d_Dr_amountOf_2 ?_
  refine r_if_eq (pc := 5) (tgt := 17) C d_Dr_amountOf_5 (by decide) (fun c565 => ?_) (fun c565 => ?_)
  · replace h := ip c565 h
    refine r_iconst (pc := 17) (v := 0) C d_Dr_amountOf_17 (by decide) ?_
    cases h
    exact r_iret (pc := 18) C hr rfl rfl rfl d_Dr_amountOf_18
  · replace h := iN c565 h
    refine r_aload_n (pc := 8) C d_Dr_amountOf_8 rfl 0 rfl ?_
    refine r_get (pc := 9) (v := .ref (ad 4)) C hin_Dr 5 rfl rfl 4 (by decide) m_40 rfl rfl d_Dr_amountOf_9 ?_
    refine r_iload_n (pc := 12) C d_Dr_amountOf_12 rfl 1 rfl ?_
    obtain ⟨hi564, h⟩ := ign h
    refine r_iald (pc := 13) C 4 0 rfl rfl hi564 d_Dr_amountOf_13 ?_
    refine r_goto (pc := 14) (tgt := 18) C d_Dr_amountOf_14 (by decide) ?_
    cases h
    exact r_iret (pc := 18) C hr rfl rfl rfl d_Dr_amountOf_18
set_option maxHeartbeats 4000000 in
set_option maxRecDepth 100000 in
theorem c_Dr_placeOf_D2 {l : Launch} {E : State → Heap → Prop} {D : va_G} {A : Nat → Prop} {cI cZ cJ : ClassId} (hE : stb A E) {ad : Nat → Nat} {x : Int32} {s : Int64} {d : DD} {o : (Nat → Int32)} {t : TT} {s2 : Int64} {d2 : DD} {rest : va_W} {p0 : Int32} {q : Int32} (h : f_Dr_placeOf d2 p0 = some q) : cm l E D clsA (TY cI cZ cJ) A GG y_Dr_placeOf b_Dr_placeOf 2 (some .int) rm_Dr_placeOf [.ref (ad 5), .int p0] (WC ad cI cZ x s d o t s2 d2 rest) (some (.int q)) (WC ad cI cZ x s d o t s2 d2 rest) := by
  refine r_met (own := R_Dr) rfl (by decide) (Nat.le_of_ble_eq_true rfl) rfl ?_
  intro p e sg m args below meth c C hr hnm hX
  unfold f_Dr_placeOf at h
  refine r_aload_n (pc := 0) C d_Dr_placeOf_0 rfl 0 rfl ?_
  refine r_iload_n (pc := 1) C d_Dr_placeOf_1 rfl 1 rfl ?_
  obtain ⟨q568, hq568, h⟩ := ob h
  refine r_callV (pc := 2) (As := [.int p0]) (rest := []) (st1 := [.int q568]) hE gg_good C hX (c_Dr_has_D2 hE hq568) m_17 m_10 m_11 m_12 m_13 hd_Dr_has 5 rfl rfl ⟨⟨(Nat.le_of_ble_eq_true rfl), (Nat.le_of_ble_eq_true rfl)⟩, (Nat.le_of_ble_eq_true rfl), (Nat.le_of_ble_eq_true rfl)⟩ (Nat.le_of_ble_eq_true rfl) rfl rfl d_Dr_placeOf_2 ?_
  refine r_if_eq (pc := 5) (tgt := 17) C d_Dr_placeOf_5 (by decide) (fun c570 => ?_) (fun c570 => ?_)
  · replace h := ip c570 h
    refine r_iconst (pc := 17) (v := (-1)) C d_Dr_placeOf_17 (by decide) ?_
    cases h
    exact r_iret (pc := 18) C hr rfl rfl rfl d_Dr_placeOf_18
  · replace h := iN c570 h
    refine r_aload_n (pc := 8) C d_Dr_placeOf_8 rfl 0 rfl ?_
    refine r_get (pc := 9) (v := .ref (ad 3)) C hin_Dr 5 rfl rfl 5 (by decide) m_16 rfl rfl d_Dr_placeOf_9 ?_
    refine r_iload_n (pc := 12) C d_Dr_placeOf_12 rfl 1 rfl ?_
    obtain ⟨hi569, h⟩ := ign h
    refine r_iald (pc := 13) C 3 0 rfl rfl hi569 d_Dr_placeOf_13 ?_
    refine r_goto (pc := 14) (tgt := 18) C d_Dr_placeOf_14 (by decide) ?_
    cases h
    exact r_iret (pc := 18) C hr rfl rfl rfl d_Dr_placeOf_18
set_option maxHeartbeats 4000000 in
set_option maxRecDepth 100000 in
theorem c_Dr_goodOf_D2 {l : Launch} {E : State → Heap → Prop} {D : va_G} {A : Nat → Prop} {cI cZ cJ : ClassId} (hE : stb A E) {ad : Nat → Nat} {x : Int32} {s : Int64} {d : DD} {o : (Nat → Int32)} {t : TT} {s2 : Int64} {d2 : DD} {rest : va_W} {p0 : Int32} {q : Int32} (h : f_Dr_goodOf d2 p0 = some q) : cm l E D clsA (TY cI cZ cJ) A GG y_Dr_goodOf b_Dr_goodOf 2 (some .int) rm_Dr_goodOf [.ref (ad 5), .int p0] (WC ad cI cZ x s d o t s2 d2 rest) (some (.int q)) (WC ad cI cZ x s d o t s2 d2 rest) := by
  refine r_met (own := R_Dr) rfl (by decide) (Nat.le_of_ble_eq_true rfl) rfl ?_
  intro p e sg m args below meth c C hr hnm hX
  unfold f_Dr_goodOf at h
  refine r_aload_n (pc := 0) C d_Dr_goodOf_0 rfl 0 rfl ?_
  refine r_iload_n (pc := 1) C d_Dr_goodOf_1 rfl 1 rfl ?_
  obtain ⟨q573, hq573, h⟩ := ob h
  refine r_callV (pc := 2) (As := [.int p0]) (rest := []) (st1 := [.int q573]) hE gg_good C hX (c_Dr_has_D2 hE hq573) m_17 m_10 m_11 m_12 m_13 hd_Dr_has 5 rfl rfl ⟨⟨(Nat.le_of_ble_eq_true rfl), (Nat.le_of_ble_eq_true rfl)⟩, (Nat.le_of_ble_eq_true rfl), (Nat.le_of_ble_eq_true rfl)⟩ (Nat.le_of_ble_eq_true rfl) rfl rfl d_Dr_goodOf_2 ?_
  refine r_if_eq (pc := 5) (tgt := 17) C d_Dr_goodOf_5 (by decide) (fun c575 => ?_) (fun c575 => ?_)
  · replace h := ip c575 h
    refine r_iconst (pc := 17) (v := (-1)) C d_Dr_goodOf_17 (by decide) ?_
    cases h
    exact r_iret (pc := 18) C hr rfl rfl rfl d_Dr_goodOf_18
  · replace h := iN c575 h
    refine r_aload_n (pc := 8) C d_Dr_goodOf_8 rfl 0 rfl ?_
    refine r_get (pc := 9) (v := .ref (ad 2)) C hin_Dr 5 rfl rfl 6 (by decide) m_18 rfl rfl d_Dr_goodOf_9 ?_
    refine r_iload_n (pc := 12) C d_Dr_goodOf_12 rfl 1 rfl ?_
    obtain ⟨hi574, h⟩ := ign h
    refine r_iald (pc := 13) C 2 0 rfl rfl hi574 d_Dr_goodOf_13 ?_
    refine r_goto (pc := 14) (tgt := 18) C d_Dr_goodOf_14 (by decide) ?_
    cases h
    exact r_iret (pc := 18) C hr rfl rfl rfl d_Dr_goodOf_18
set_option maxHeartbeats 4000000 in
set_option maxRecDepth 100000 in
theorem c_Dr_takes_D2 {l : Launch} {E : State → Heap → Prop} {D : va_G} {A : Nat → Prop} {cI cZ cJ : ClassId} (hE : stb A E) {ad : Nat → Nat} {x : Int32} {s : Int64} {d : DD} {o : (Nat → Int32)} {t : TT} {s2 : Int64} {d2 : DD} {rest : va_W} {p0 : Int32} {q : Int32} (h : f_Dr_takes d2 p0 = some q) : cm l E D clsA (TY cI cZ cJ) A GG y_Dr_takes b_Dr_takes 2 (some .boolean) rm_Dr_takes [.ref (ad 5), .int p0] (WC ad cI cZ x s d o t s2 d2 rest) (some (.int q)) (WC ad cI cZ x s d o t s2 d2 rest) := by
  refine r_met (own := R_Dr) rfl (by decide) (Nat.le_of_ble_eq_true rfl) rfl ?_
  intro p e sg m args below meth c C hr hnm hX
  unfold f_Dr_takes at h
  refine r_aload_n (pc := 0) C d_Dr_takes_0 rfl 0 rfl ?_
  refine r_iload_n (pc := 1) C d_Dr_takes_1 rfl 1 rfl ?_
  obtain ⟨q578, hq578, h⟩ := ob h
  refine r_callV (pc := 2) (As := [.int p0]) (rest := []) (st1 := [.int q578]) hE gg_good C hX (c_Dr_has_D2 hE hq578) m_17 m_10 m_11 m_12 m_13 hd_Dr_has 5 rfl rfl ⟨⟨(Nat.le_of_ble_eq_true rfl), (Nat.le_of_ble_eq_true rfl)⟩, (Nat.le_of_ble_eq_true rfl), (Nat.le_of_ble_eq_true rfl)⟩ (Nat.le_of_ble_eq_true rfl) rfl rfl d_Dr_takes_2 ?_
  refine r_if_eq (pc := 5) (tgt := 21) C d_Dr_takes_5 (by decide) (fun c581 => ?_) (fun c581 => ?_)
  · replace h := ip c581 h
    refine r_iconst (pc := 21) (v := 0) C d_Dr_takes_21 (by decide) ?_
    cases h
    exact r_iret (pc := 22) C hr rfl rfl rfl d_Dr_takes_22
  · replace h := iN c581 h
    refine r_aload_n (pc := 8) C d_Dr_takes_8 rfl 0 rfl ?_
    refine r_get (pc := 9) (v := .ref (ad 1)) C hin_Dr 5 rfl rfl 7 (by decide) m_41 rfl rfl d_Dr_takes_9 ?_
    refine r_iload_n (pc := 12) C d_Dr_takes_12 rfl 1 rfl ?_
    obtain ⟨hi580, h⟩ := ign h
    refine r_zald (pc := 13) C 1 1 rfl rfl hi580 d_Dr_takes_13 ?_
    refine r_if_eq (pc := 14) (tgt := 21) C d_Dr_takes_14 (by decide) (fun c579 => ?_) (fun c579 => ?_)
    · replace h := ip c579 h
      refine r_iconst (pc := 21) (v := 0) C d_Dr_takes_21 (by decide) ?_
      cases h
      exact r_iret (pc := 22) C hr rfl rfl rfl d_Dr_takes_22
    · replace h := iN c579 h
      refine r_iconst (pc := 17) (v := 1) C d_Dr_takes_17 (by decide) ?_
      refine r_goto (pc := 18) (tgt := 22) C d_Dr_takes_18 (by decide) ?_
      cases h
      exact r_iret (pc := 22) C hr rfl rfl rfl d_Dr_takes_22
set_option maxHeartbeats 4000000 in
set_option maxRecDepth 100000 in
theorem c_Dr_lies_D2 {l : Launch} {E : State → Heap → Prop} {D : va_G} {A : Nat → Prop} {cI cZ cJ : ClassId} (hE : stb A E) {ad : Nat → Nat} {x : Int32} {s : Int64} {d : DD} {o : (Nat → Int32)} {t : TT} {s2 : Int64} {d2 : DD} {rest : va_W} {p0 : Int32} {q : Int32} (h : f_Dr_lies d2 p0 = some q) : cm l E D clsA (TY cI cZ cJ) A GG y_Dr_lies b_Dr_lies 2 (some .boolean) rm_Dr_lies [.ref (ad 5), .int p0] (WC ad cI cZ x s d o t s2 d2 rest) (some (.int q)) (WC ad cI cZ x s d o t s2 d2 rest) := by
  refine r_met (own := R_Dr) rfl (by decide) (Nat.le_of_ble_eq_true rfl) rfl ?_
  intro p e sg m args below meth c C hr hnm hX
  unfold f_Dr_lies at h
  refine r_aload_n (pc := 0) C d_Dr_lies_0 rfl 0 rfl ?_
  refine r_iload_n (pc := 1) C d_Dr_lies_1 rfl 1 rfl ?_
  obtain ⟨q584, hq584, h⟩ := ob h
  refine r_callV (pc := 2) (As := [.int p0]) (rest := []) (st1 := [.int q584]) hE gg_good C hX (c_Dr_has_D2 hE hq584) m_17 m_10 m_11 m_12 m_13 hd_Dr_has 5 rfl rfl ⟨⟨(Nat.le_of_ble_eq_true rfl), (Nat.le_of_ble_eq_true rfl)⟩, (Nat.le_of_ble_eq_true rfl), (Nat.le_of_ble_eq_true rfl)⟩ (Nat.le_of_ble_eq_true rfl) rfl rfl d_Dr_lies_2 ?_
  refine r_if_eq (pc := 5) (tgt := 21) C d_Dr_lies_5 (by decide) (fun c587 => ?_) (fun c587 => ?_)
  · replace h := ip c587 h
    refine r_iconst (pc := 21) (v := 0) C d_Dr_lies_21 (by decide) ?_
    cases h
    exact r_iret (pc := 22) C hr rfl rfl rfl d_Dr_lies_22
  · replace h := iN c587 h
    refine r_aload_n (pc := 8) C d_Dr_lies_8 rfl 0 rfl ?_
    refine r_get (pc := 9) (v := .ref (ad 0)) C hin_Dr 5 rfl rfl 8 (by decide) m_42 rfl rfl d_Dr_lies_9 ?_
    refine r_iload_n (pc := 12) C d_Dr_lies_12 rfl 1 rfl ?_
    obtain ⟨hi586, h⟩ := ign h
    refine r_zald (pc := 13) C 0 1 rfl rfl hi586 d_Dr_lies_13 ?_
    refine r_if_eq (pc := 14) (tgt := 21) C d_Dr_lies_14 (by decide) (fun c585 => ?_) (fun c585 => ?_)
    · replace h := ip c585 h
      refine r_iconst (pc := 21) (v := 0) C d_Dr_lies_21 (by decide) ?_
      cases h
      exact r_iret (pc := 22) C hr rfl rfl rfl d_Dr_lies_22
    · replace h := iN c585 h
      refine r_iconst (pc := 17) (v := 1) C d_Dr_lies_17 (by decide) ?_
      refine r_goto (pc := 18) (tgt := 22) C d_Dr_lies_18 (by decide) ?_
      cases h
      exact r_iret (pc := 22) C hr rfl rfl rfl d_Dr_lies_22
def f_Dr_isPartLike (d : DD) (d2 : DD) (p0 : Int32) : Option (Int32) :=
  Option.bind (f_Dr_amountOf d p0) (fun q559 => Option.bind (f_Dr_amountOf d2 p0) (fun q566 => (if q559 = q566 then Option.bind (f_Dr_placeOf d p0) (fun q567 => Option.bind (f_Dr_placeOf d2 p0) (fun q571 => (if q567 = q571 then Option.bind (f_Dr_goodOf d p0) (fun q572 => Option.bind (f_Dr_goodOf d2 p0) (fun q576 => (if q572 = q576 then Option.bind (f_Dr_takes d p0) (fun q577 => Option.bind (f_Dr_takes d2 p0) (fun q582 => (if q577 = q582 then Option.bind (f_Dr_lies d p0) (fun q583 => Option.bind (f_Dr_lies d2 p0) (fun q588 => (if q583 = q588 then some (1) else some (0)))) else some (0)))) else some (0)))) else some (0)))) else some (0))))
abbrev rm_Dr_isPartLike : Room := { frames := 2, cells := 0, slots := 0, locals := 42 }
theorem hd_Dr_isPartLike : y_Dr_isPartLike.cls ≠ "java/lang/invoke/MethodHandle" ∧ y_Dr_isPartLike.cls ≠ "java/lang/invoke/VarHandle" ∧ (parseMethodDescriptor y_Dr_isPartLike.desc).map (fun d => d.parameters.length) = some 2 := by decide +kernel
set_option maxHeartbeats 4000000 in
set_option maxRecDepth 100000 in
theorem c_Dr_isPartLike_D {l : Launch} {E : State → Heap → Prop} {D : va_G} {A : Nat → Prop} {cI cZ cJ : ClassId} (hE : stb A E) {ad : Nat → Nat} {x : Int32} {s : Int64} {d : DD} {o : (Nat → Int32)} {t : TT} {s2 : Int64} {d2 : DD} {rest : va_W} {p0 : Int32} {q : Int32} (h : f_Dr_isPartLike d d2 p0 = some q) : cm l E D clsA (TY cI cZ cJ) A GG y_Dr_isPartLike b_Dr_isPartLike 3 (some .boolean) rm_Dr_isPartLike [.ref (ad 19), .int p0, .ref (ad 5)] (WC ad cI cZ x s d o t s2 d2 rest) (some (.int q)) (WC ad cI cZ x s d o t s2 d2 rest) := by
  refine r_met (own := R_Dr) rfl (by decide) (Nat.le_of_ble_eq_true rfl) rfl ?_
  intro p e sg m args below meth c C hr hnm hX
  unfold f_Dr_isPartLike at h
  refine r_aload_n (pc := 0) C d_Dr_isPartLike_0 rfl 0 rfl ?_
  refine r_iload_n (pc := 1) C d_Dr_isPartLike_1 rfl 1 rfl ?_
  obtain ⟨q559, hq559, h⟩ := ob h
  refine r_callV (pc := 2) (As := [.int p0]) (rest := []) (st1 := [.int q559]) hE gg_good C hX (c_Dr_amountOf_D hE hq559) m_198 m_52 m_53 m_12 m_54 hd_Dr_amountOf 19 rfl rfl ⟨⟨(Nat.le_of_ble_eq_true rfl), (Nat.le_of_ble_eq_true rfl)⟩, (Nat.le_of_ble_eq_true rfl), (Nat.le_of_ble_eq_true rfl)⟩ (Nat.le_of_ble_eq_true rfl) rfl rfl d_Dr_isPartLike_2 ?_
  refine r_aload_n (pc := 5) C d_Dr_isPartLike_5 rfl 2 rfl ?_
  refine r_iload_n (pc := 6) C d_Dr_isPartLike_6 rfl 1 rfl ?_
  obtain ⟨q566, hq566, h⟩ := ob h
  refine r_callV (pc := 7) (As := [.int p0]) (rest := [.int q559]) (st1 := [.int q566, .int q559]) hE gg_good C hX (c_Dr_amountOf_D2 hE hq566) m_198 m_52 m_53 m_12 m_54 hd_Dr_amountOf 5 rfl rfl ⟨⟨(Nat.le_of_ble_eq_true rfl), (Nat.le_of_ble_eq_true rfl)⟩, (Nat.le_of_ble_eq_true rfl), (Nat.le_of_ble_eq_true rfl)⟩ (Nat.le_of_ble_eq_true rfl) rfl rfl d_Dr_isPartLike_7 ?_
  refine r_icmp_ne (pc := 10) (tgt := 69) C d_Dr_isPartLike_10 (by decide) (fun c593 => ?_) (fun c593 => ?_)
  · replace h := iN c593 h
    refine r_iconst (pc := 69) (v := 0) C d_Dr_isPartLike_69 (by decide) ?_
    cases h
    exact r_iret (pc := 70) C hr rfl rfl rfl d_Dr_isPartLike_70
  · replace h := ip c593 h
    refine r_aload_n (pc := 13) C d_Dr_isPartLike_13 rfl 0 rfl ?_
    refine r_iload_n (pc := 14) C d_Dr_isPartLike_14 rfl 1 rfl ?_
    obtain ⟨q567, hq567, h⟩ := ob h
    refine r_callV (pc := 15) (As := [.int p0]) (rest := []) (st1 := [.int q567]) hE gg_good C hX (c_Dr_placeOf_D hE hq567) m_197 m_33 m_34 m_12 m_35 hd_Dr_placeOf 19 rfl rfl ⟨⟨(Nat.le_of_ble_eq_true rfl), (Nat.le_of_ble_eq_true rfl)⟩, (Nat.le_of_ble_eq_true rfl), (Nat.le_of_ble_eq_true rfl)⟩ (Nat.le_of_ble_eq_true rfl) rfl rfl d_Dr_isPartLike_15 ?_
    refine r_aload_n (pc := 18) C d_Dr_isPartLike_18 rfl 2 rfl ?_
    refine r_iload_n (pc := 19) C d_Dr_isPartLike_19 rfl 1 rfl ?_
    obtain ⟨q571, hq571, h⟩ := ob h
    refine r_callV (pc := 20) (As := [.int p0]) (rest := [.int q567]) (st1 := [.int q571, .int q567]) hE gg_good C hX (c_Dr_placeOf_D2 hE hq571) m_197 m_33 m_34 m_12 m_35 hd_Dr_placeOf 5 rfl rfl ⟨⟨(Nat.le_of_ble_eq_true rfl), (Nat.le_of_ble_eq_true rfl)⟩, (Nat.le_of_ble_eq_true rfl), (Nat.le_of_ble_eq_true rfl)⟩ (Nat.le_of_ble_eq_true rfl) rfl rfl d_Dr_isPartLike_20 ?_
    refine r_icmp_ne (pc := 23) (tgt := 69) C d_Dr_isPartLike_23 (by decide) (fun c592 => ?_) (fun c592 => ?_)
    · replace h := iN c592 h
      refine r_iconst (pc := 69) (v := 0) C d_Dr_isPartLike_69 (by decide) ?_
      cases h
      exact r_iret (pc := 70) C hr rfl rfl rfl d_Dr_isPartLike_70
    · replace h := ip c592 h
      refine r_aload_n (pc := 26) C d_Dr_isPartLike_26 rfl 0 rfl ?_
      refine r_iload_n (pc := 27) C d_Dr_isPartLike_27 rfl 1 rfl ?_
      obtain ⟨q572, hq572, h⟩ := ob h
      refine r_callV (pc := 28) (As := [.int p0]) (rest := []) (st1 := [.int q572]) hE gg_good C hX (c_Dr_goodOf_D hE hq572) m_196 m_29 m_30 m_12 m_31 hd_Dr_goodOf 19 rfl rfl ⟨⟨(Nat.le_of_ble_eq_true rfl), (Nat.le_of_ble_eq_true rfl)⟩, (Nat.le_of_ble_eq_true rfl), (Nat.le_of_ble_eq_true rfl)⟩ (Nat.le_of_ble_eq_true rfl) rfl rfl d_Dr_isPartLike_28 ?_
      refine r_aload_n (pc := 31) C d_Dr_isPartLike_31 rfl 2 rfl ?_
      refine r_iload_n (pc := 32) C d_Dr_isPartLike_32 rfl 1 rfl ?_
      obtain ⟨q576, hq576, h⟩ := ob h
      refine r_callV (pc := 33) (As := [.int p0]) (rest := [.int q572]) (st1 := [.int q576, .int q572]) hE gg_good C hX (c_Dr_goodOf_D2 hE hq576) m_196 m_29 m_30 m_12 m_31 hd_Dr_goodOf 5 rfl rfl ⟨⟨(Nat.le_of_ble_eq_true rfl), (Nat.le_of_ble_eq_true rfl)⟩, (Nat.le_of_ble_eq_true rfl), (Nat.le_of_ble_eq_true rfl)⟩ (Nat.le_of_ble_eq_true rfl) rfl rfl d_Dr_isPartLike_33 ?_
      refine r_icmp_ne (pc := 36) (tgt := 69) C d_Dr_isPartLike_36 (by decide) (fun c591 => ?_) (fun c591 => ?_)
      · replace h := iN c591 h
        refine r_iconst (pc := 69) (v := 0) C d_Dr_isPartLike_69 (by decide) ?_
        cases h
        exact r_iret (pc := 70) C hr rfl rfl rfl d_Dr_isPartLike_70
      · replace h := ip c591 h
        refine r_aload_n (pc := 39) C d_Dr_isPartLike_39 rfl 0 rfl ?_
        refine r_iload_n (pc := 40) C d_Dr_isPartLike_40 rfl 1 rfl ?_
        obtain ⟨q577, hq577, h⟩ := ob h
        refine r_callV (pc := 41) (As := [.int p0]) (rest := []) (st1 := [.int q577]) hE gg_good C hX (c_Dr_takes_D hE hq577) m_195 m_48 m_49 m_12 m_50 hd_Dr_takes 19 rfl rfl ⟨⟨(Nat.le_of_ble_eq_true rfl), (Nat.le_of_ble_eq_true rfl)⟩, (Nat.le_of_ble_eq_true rfl), (Nat.le_of_ble_eq_true rfl)⟩ (Nat.le_of_ble_eq_true rfl) rfl rfl d_Dr_isPartLike_41 ?_
        refine r_aload_n (pc := 44) C d_Dr_isPartLike_44 rfl 2 rfl ?_
        refine r_iload_n (pc := 45) C d_Dr_isPartLike_45 rfl 1 rfl ?_
        obtain ⟨q582, hq582, h⟩ := ob h
        refine r_callV (pc := 46) (As := [.int p0]) (rest := [.int q577]) (st1 := [.int q582, .int q577]) hE gg_good C hX (c_Dr_takes_D2 hE hq582) m_195 m_48 m_49 m_12 m_50 hd_Dr_takes 5 rfl rfl ⟨⟨(Nat.le_of_ble_eq_true rfl), (Nat.le_of_ble_eq_true rfl)⟩, (Nat.le_of_ble_eq_true rfl), (Nat.le_of_ble_eq_true rfl)⟩ (Nat.le_of_ble_eq_true rfl) rfl rfl d_Dr_isPartLike_46 ?_
        refine r_icmp_ne (pc := 49) (tgt := 69) C d_Dr_isPartLike_49 (by decide) (fun c590 => ?_) (fun c590 => ?_)
        · replace h := iN c590 h
          refine r_iconst (pc := 69) (v := 0) C d_Dr_isPartLike_69 (by decide) ?_
          cases h
          exact r_iret (pc := 70) C hr rfl rfl rfl d_Dr_isPartLike_70
        · replace h := ip c590 h
          refine r_aload_n (pc := 52) C d_Dr_isPartLike_52 rfl 0 rfl ?_
          refine r_iload_n (pc := 53) C d_Dr_isPartLike_53 rfl 1 rfl ?_
          obtain ⟨q583, hq583, h⟩ := ob h
          refine r_callV (pc := 54) (As := [.int p0]) (rest := []) (st1 := [.int q583]) hE gg_good C hX (c_Dr_lies_D hE hq583) m_181 m_44 m_45 m_12 m_46 hd_Dr_lies 19 rfl rfl ⟨⟨(Nat.le_of_ble_eq_true rfl), (Nat.le_of_ble_eq_true rfl)⟩, (Nat.le_of_ble_eq_true rfl), (Nat.le_of_ble_eq_true rfl)⟩ (Nat.le_of_ble_eq_true rfl) rfl rfl d_Dr_isPartLike_54 ?_
          refine r_aload_n (pc := 57) C d_Dr_isPartLike_57 rfl 2 rfl ?_
          refine r_iload_n (pc := 58) C d_Dr_isPartLike_58 rfl 1 rfl ?_
          obtain ⟨q588, hq588, h⟩ := ob h
          refine r_callV (pc := 59) (As := [.int p0]) (rest := [.int q583]) (st1 := [.int q588, .int q583]) hE gg_good C hX (c_Dr_lies_D2 hE hq588) m_181 m_44 m_45 m_12 m_46 hd_Dr_lies 5 rfl rfl ⟨⟨(Nat.le_of_ble_eq_true rfl), (Nat.le_of_ble_eq_true rfl)⟩, (Nat.le_of_ble_eq_true rfl), (Nat.le_of_ble_eq_true rfl)⟩ (Nat.le_of_ble_eq_true rfl) rfl rfl d_Dr_isPartLike_59 ?_
          refine r_icmp_ne (pc := 62) (tgt := 69) C d_Dr_isPartLike_62 (by decide) (fun c589 => ?_) (fun c589 => ?_)
          · replace h := iN c589 h
            refine r_iconst (pc := 69) (v := 0) C d_Dr_isPartLike_69 (by decide) ?_
            cases h
            exact r_iret (pc := 70) C hr rfl rfl rfl d_Dr_isPartLike_70
          · replace h := ip c589 h
            refine r_iconst (pc := 65) (v := 1) C d_Dr_isPartLike_65 (by decide) ?_
            refine r_goto (pc := 66) (tgt := 70) C d_Dr_isPartLike_66 (by decide) ?_
            cases h
            exact r_iret (pc := 70) C hr rfl rfl rfl d_Dr_isPartLike_70
