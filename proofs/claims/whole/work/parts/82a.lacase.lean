def lk_124 (L : Nat) (xs : Nat → Int32) (rec : LSt → Option Int32) (i : Int32) (x : Int32) (s : Int64) (d : DD) (o : (Nat → Int32)) (t : TT) (s2 : Int64) (d2 : DD) (w : (Nat → Int64)) (mk : Int32) (mu : Int64) (mz : Int32) (mw : Int32) (mo : (Nat → Int32)) (md : MD) (mr : MR) (mp : MP) : Option Int32 :=
  (if ((i + (1 : Int32)) < 0 ∨ L ≤ (i + (1 : Int32)).toNatClampNeg) then none else Option.bind (f_La_draw s d o w (xs (i + (1 : Int32)).toNatClampNeg)) (fun q1 => (if ((i + (1 : Int32)) < 0 ∨ L ≤ (i + (1 : Int32)).toNatClampNeg) then none else Option.bind (f_Mo_draw mk mu mz mo md mr (xs (i + (1 : Int32)).toNatClampNeg)) (fun q2 => Option.bind (f_Mo_thrown q2.2.1) (fun q3 => (if q3 = q1.1 then (if q1.1 = 0 then (if ((0 : Int32) < 0 ∨ 1 ≤ (0 : Int32).toNatClampNeg) then none else (if lg_cmp (q1.2.2.2.2 (0 : Int32).toNatClampNeg) (q2.1.toInt64) = 0 then rec (i + 4, x, q1.2.1, q1.2.2.1, q1.2.2.2.1, t, s2, d2, q1.2.2.2.2, q2.2.1, q2.2.2.1, q2.2.2.2.1, mw, q2.2.2.2.2.1, q2.2.2.2.2.2.1, q2.2.2.2.2.2.2, mp) else some 0)) else rec (i + 4, x, q1.2.1, q1.2.2.1, q1.2.2.2.1, t, s2, d2, q1.2.2.2.2, q2.2.1, q2.2.2.1, q2.2.2.2.1, mw, q2.2.2.2.2.1, q2.2.2.2.2.2.1, q2.2.2.2.2.2.2, mp)) else some 0))))))
set_option maxHeartbeats 4000000 in
set_option maxRecDepth 100000 in
theorem vk_124 {l : Launch} {D : va_G} {A : Nat → Prop} {cI cZ cJ : ClassId} {sg : State} (h0 : tw sg) (hA0 : ∀ q, A q → sg.heap.size ≤ q) (hlT : l.stackTraces = false) {p : Program} {e : Env} {m : MethodId} {b L : Nat} {xs : Nat → Int32} {below : List Frame} {meth : Method} {c : Code} (C : cx p sg m #[Value.ref b] meth c D clsA (TY cI cZ cJ) A GG R_La code 7) (hr : meth.sig.returnType = ret) (hS : va_X b L xs sg sg.heap) (hbl : b < sg.heap.size) {ad am : Nat → Nat} {cells slots : Nat} (hc : cells + 2 ≤ 1067) (hs : slots + 12 ≤ 9128) {rec : LSt → Option Int32} (ih : ∀ (i : Int32) (x : Int32) (s : Int64) (d : DD) (o : (Nat → Int32)) (t : TT) (s2 : Int64) (d2 : DD) (w : (Nat → Int64)) (mk : Int32) (mu : Int64) (mz : Int32) (mw : Int32) (mo : (Nat → Int32)) (md : MD) (mr : MR) (mp : MP), rec (i, x, s, d, o, t, s2, d2, w, mk, mu, mz, mw, mo, md, mr, mp) = some 1 → vv p l e room_1 sg m #[Value.ref b] below meth c D clsA A 7 (cells + 2) (slots + 12) (lw_Z below #[Value.ref b] sg) 33 [(0, .ref b), (1, .ref (ad 20)), (2, .ref (am 11)), (3, .ref (ad 21)), (4, .int i)] [] (WC ad cI cZ x s d o t s2 d2 ((ad 21, .inl (cJ, 1, .inr (.inl w))) :: WM am cI cZ mk mu mz mw mo md mr mp []))) (i : Int32) (x : Int32) (s : Int64) (d : DD) (o : (Nat → Int32)) (t : TT) (s2 : Int64) (d2 : DD) (w : (Nat → Int64)) (mk : Int32) (mu : Int64) (mz : Int32) (mw : Int32) (mo : (Nat → Int32)) (md : MD) (mr : MR) (mp : MP) (h : lk_124 L xs rec i x s d o t s2 d2 w mk mu mz mw mo md mr mp = some 1) : vv p l e room_1 sg m #[Value.ref b] below meth c D clsA A 7 (cells) (slots) (lw_Z below #[Value.ref b] sg) 124 [(0, .ref b), (1, .ref (ad 20)), (2, .ref (am 11)), (3, .ref (ad 21)), (4, .int i)] [] (WC ad cI cZ x s d o t s2 d2 ((ad 21, .inl (cJ, 1, .inr (.inl w))) :: WM am cI cZ mk mu mz mw mo md mr mp [])) := by
  have hE := lat_stb hA0
  have hX : lat sg sg sg.heap := ⟨State.WarmedH.refl sg, Nat.le_refl _, fun _ _ => rfl⟩
  have hbA : ¬ A b := fun h9 => Nat.not_le_of_lt hbl (hA0 b h9)
  unfold lk_124 at h
  refine r_aload_n (pc := 124) C d_La_law_124 rfl 1 rfl ?_
  refine r_aload_n (pc := 125) C d_La_law_125 rfl 0 rfl ?_
  refine r_iload (pc := 126) C d_La_law_126 4 rfl ?_
  refine r_iconst (pc := 128) (v := 1) C d_La_law_128 (by decide) ?_
  refine r_iadd (pc := 129) C d_La_law_129 ?_
  obtain ⟨hi9, h⟩ := ign h
  refine r_sld (pc := 130) C hS hbl hbA hi9 d_La_law_130 ?_
  refine r_aload_n (pc := 131) C d_La_law_131 rfl 3 rfl ?_
  obtain ⟨q1, hq1, h⟩ := ob h
  refine r_callSw (pc := 132) (As := [.ref (ad 20), .int (xs (i + (1 : Int32)).toNatClampNeg), .ref (ad 21)]) (rest := []) (st1 := [.int q1.1]) hE gg_good C hX (c_La_draw_X h0 hA0 hlT hq1) ml_9 ml_10 ml_11 ml_12 hd_La_draw ⟨⟨(Nat.le_of_ble_eq_true rfl), (Nat.le_of_ble_eq_true rfl)⟩, (by show cells + 1 ≤ 1067; omega), (by show slots + 6 ≤ 9128; omega)⟩ (Nat.le_of_ble_eq_true rfl) rfl rfl d_La_law_132 ?_
  refine r_istore (pc := 135) (lv' := [(5, .int q1.1), (0, .ref b), (1, .ref (ad 20)), (2, .ref (am 11)), (3, .ref (ad 21)), (4, .int i)]) C d_La_law_135 (by decide) rfl ?_
  refine r_aload_n (pc := 137) C d_La_law_137 rfl 3 rfl ?_
  refine r_aload_n (pc := 138) C d_La_law_138 rfl 1 rfl ?_
  refine r_iload (pc := 139) C d_La_law_139 5 rfl ?_
  refine r_iconst (pc := 141) (v := 1) C d_La_law_141 (by decide) ?_
  refine r_iadd (pc := 142) C d_La_law_142 ?_
  obtain ⟨hi8, h⟩ := ign h
  refine r_sld (pc := 143) C hS hbl hbA hi8 d_La_law_143 ?_
  obtain ⟨q2, hq2, h⟩ := ob h
  refine r_perm lw_cm ?_
  refine r_callV (pc := 144) (As := [.int (xs (i + (1 : Int32)).toNatClampNeg)]) (rest := []) (st1 := [.int q2.1]) hE gg_good C hX (c_Mo_draw_M hE hq2) ml_5 ml_6 ml_7 ml_3 ml_8 hd_Mo_draw 11 rfl rfl ⟨⟨(Nat.le_of_ble_eq_true rfl), (Nat.le_of_ble_eq_true rfl)⟩, (by show cells + 1 + 0 ≤ 1067; omega), (by show slots + 6 + 0 ≤ 9128; omega)⟩ (Nat.le_of_ble_eq_true rfl) rfl rfl d_La_law_144 ?_
  refine r_perm lw_mc ?_
  refine r_istore (pc := 147) (lv' := [(6, .int q2.1), (5, .int q1.1), (0, .ref b), (1, .ref (ad 20)), (2, .ref (am 11)), (3, .ref (ad 21)), (4, .int i)]) C d_La_law_147 (by decide) rfl ?_
  refine r_aload_n (pc := 149) C d_La_law_149 rfl 4 rfl ?_
  obtain ⟨q3, hq3, h⟩ := ob h
  refine r_perm lw_cm ?_
  refine r_callV (pc := 150) (As := []) (rest := []) (st1 := [.int q3]) hE gg_good C hX (c_Mo_thrown_M hE hq3) ml_0 ml_1 ml_2 ml_3 ml_4 hd_Mo_thrown 11 rfl rfl ⟨⟨(Nat.le_of_ble_eq_true rfl), (Nat.le_of_ble_eq_true rfl)⟩, (by show cells + 1 + 0 + 0 ≤ 1067; omega), (by show slots + 6 + 0 + 0 ≤ 9128; omega)⟩ (Nat.le_of_ble_eq_true rfl) rfl rfl d_La_law_150 ?_
  refine r_perm lw_mc ?_
  refine r_iload (pc := 153) C d_La_law_153 1 rfl ?_
  refine r_icmp_eq (pc := 155) (tgt := 160) C d_La_law_155 (by decide) (fun c7 => ?_) (fun c7 => ?_)
  · replace h := ip c7 h
    refine r_iload (pc := 160) C d_La_law_160 1 rfl ?_
    refine r_if_ne (pc := 162) (tgt := 177) C d_La_law_162 (by decide) (fun c6 => ?_) (fun c6 => ?_)
    · replace h := iN c6 h
      refine r_goto (pc := 177) (tgt := 865) C d_La_law_177 (by decide) ?_
      refine r_iincK (pc := 865) (w0 := 4) (lv' := [(4, .int (i + 4)), (6, .int q2.1), (5, .int q1.1), (0, .ref b), (1, .ref (ad 20)), (2, .ref (am 11)), (3, .ref (ad 21))]) C d_La_law_865 (by decide) 6 rfl (by decide) rfl ?_
      refine r_goto (pc := 868) (tgt := 33) C d_La_law_868 (by decide) ?_
      refine r_loc (lv' := [(0, .ref b), (1, .ref (ad 20)), (2, .ref (am 11)), (3, .ref (ad 21)), (4, .int (i + 4))]) [3, 4, 5, 6, 0] rfl ?_
      refine r_widen (k1 := cells + 2) (n1 := slots + 12) (by show cells + 1 + 0 + 0 ≤ cells + 2; omega) (by show slots + 6 + 0 + 0 ≤ slots + 12; omega) ?_
      exact ih _ _ _ _ _ _ _ _ _ _ _ _ _ _ _ _ _ h
    · replace h := ip c6 h
      refine r_aload_n (pc := 165) C d_La_law_165 rfl 5 rfl ?_
      refine r_iconst (pc := 166) (v := 0) C d_La_law_166 (by decide) ?_
      obtain ⟨hi5, h⟩ := ign h
      refine r_lald (pc := 167) C 21 2 rfl rfl hi5 d_La_law_167 ?_
      refine r_iload (pc := 168) C d_La_law_168 0 rfl ?_
      refine r_i2l (pc := 170) C d_La_law_170 ?_
      refine r_lcmp (pc := 171) C d_La_law_171 ?_
      refine r_if_eq (pc := 172) (tgt := 177) C d_La_law_172 (by decide) (fun c4 => ?_) (fun c4 => ?_)
      · replace h := ip c4 h
        refine r_goto (pc := 177) (tgt := 865) C d_La_law_177 (by decide) ?_
        refine r_iincK (pc := 865) (w0 := 4) (lv' := [(4, .int (i + 4)), (6, .int q2.1), (5, .int q1.1), (0, .ref b), (1, .ref (ad 20)), (2, .ref (am 11)), (3, .ref (ad 21))]) C d_La_law_865 (by decide) 6 rfl (by decide) rfl ?_
        refine r_goto (pc := 868) (tgt := 33) C d_La_law_868 (by decide) ?_
        refine r_loc (lv' := [(0, .ref b), (1, .ref (ad 20)), (2, .ref (am 11)), (3, .ref (ad 21)), (4, .int (i + 4))]) [3, 4, 5, 6, 0] rfl ?_
        refine r_widen (k1 := cells + 2) (n1 := slots + 12) (by show cells + 1 + 0 + 0 ≤ cells + 2; omega) (by show slots + 6 + 0 + 0 ≤ slots + 12; omega) ?_
        exact ih _ _ _ _ _ _ _ _ _ _ _ _ _ _ _ _ _ h
      · replace h := iN c4 h
        refine r_iconst (pc := 175) (v := 0) C d_La_law_175 (by decide) ?_
        exact absurd h (by decide)
  · replace h := iN c7 h
    refine r_iconst (pc := 158) (v := 0) C d_La_law_158 (by decide) ?_
    exact absurd h (by decide)
def lk_180 (L : Nat) (xs : Nat → Int32) (rec : LSt → Option Int32) (i : Int32) (x : Int32) (s : Int64) (d : DD) (o : (Nat → Int32)) (t : TT) (s2 : Int64) (d2 : DD) (w : (Nat → Int64)) (mk : Int32) (mu : Int64) (mz : Int32) (mw : Int32) (mo : (Nat → Int32)) (md : MD) (mr : MR) (mp : MP) : Option Int32 :=
  (if ((i + (1 : Int32)) < 0 ∨ L ≤ (i + (1 : Int32)).toNatClampNeg) then none else (if ((i + (2 : Int32)) < 0 ∨ L ≤ (i + (2 : Int32)).toNatClampNeg) then none else Option.bind (f_SD_again ((((xs (i + (1 : Int32)).toNatClampNeg).toInt64) <<< ((32 : Int32).toInt64 &&& 63)) ||| (((xs (i + (2 : Int32)).toNatClampNeg).toInt64) &&& (4294967295 : Int64)))) (fun q10 => (if ((i + (1 : Int32)) < 0 ∨ L ≤ (i + (1 : Int32)).toNatClampNeg) then none else (if ((i + (2 : Int32)) < 0 ∨ L ≤ (i + (2 : Int32)).toNatClampNeg) then none else Option.bind (f_Mo_again ((((xs (i + (1 : Int32)).toNatClampNeg).toInt64) <<< ((32 : Int32).toInt64 &&& 63)) ||| (((xs (i + (2 : Int32)).toNatClampNeg).toInt64) &&& (4294967295 : Int64)))) (fun q11 => rec (i + 4, x, q10, d, o, t, s2, d2, w, q11.1, q11.2, mz, mw, mo, md, mr, mp)))))))
set_option maxHeartbeats 4000000 in
set_option maxRecDepth 100000 in
theorem vk_180 {l : Launch} {D : va_G} {A : Nat → Prop} {cI cZ cJ : ClassId} {sg : State} (h0 : tw sg) (hA0 : ∀ q, A q → sg.heap.size ≤ q) (hlT : l.stackTraces = false) {p : Program} {e : Env} {m : MethodId} {b L : Nat} {xs : Nat → Int32} {below : List Frame} {meth : Method} {c : Code} (C : cx p sg m #[Value.ref b] meth c D clsA (TY cI cZ cJ) A GG R_La code 7) (hr : meth.sig.returnType = ret) (hS : va_X b L xs sg sg.heap) (hbl : b < sg.heap.size) {ad am : Nat → Nat} {cells slots : Nat} (hc : cells + 2 ≤ 1067) (hs : slots + 12 ≤ 9128) {rec : LSt → Option Int32} (ih : ∀ (i : Int32) (x : Int32) (s : Int64) (d : DD) (o : (Nat → Int32)) (t : TT) (s2 : Int64) (d2 : DD) (w : (Nat → Int64)) (mk : Int32) (mu : Int64) (mz : Int32) (mw : Int32) (mo : (Nat → Int32)) (md : MD) (mr : MR) (mp : MP), rec (i, x, s, d, o, t, s2, d2, w, mk, mu, mz, mw, mo, md, mr, mp) = some 1 → vv p l e room_1 sg m #[Value.ref b] below meth c D clsA A 7 (cells + 2) (slots + 12) (lw_Z below #[Value.ref b] sg) 33 [(0, .ref b), (1, .ref (ad 20)), (2, .ref (am 11)), (3, .ref (ad 21)), (4, .int i)] [] (WC ad cI cZ x s d o t s2 d2 ((ad 21, .inl (cJ, 1, .inr (.inl w))) :: WM am cI cZ mk mu mz mw mo md mr mp []))) (i : Int32) (x : Int32) (s : Int64) (d : DD) (o : (Nat → Int32)) (t : TT) (s2 : Int64) (d2 : DD) (w : (Nat → Int64)) (mk : Int32) (mu : Int64) (mz : Int32) (mw : Int32) (mo : (Nat → Int32)) (md : MD) (mr : MR) (mp : MP) (h : lk_180 L xs rec i x s d o t s2 d2 w mk mu mz mw mo md mr mp = some 1) : vv p l e room_1 sg m #[Value.ref b] below meth c D clsA A 7 (cells) (slots) (lw_Z below #[Value.ref b] sg) 180 [(0, .ref b), (1, .ref (ad 20)), (2, .ref (am 11)), (3, .ref (ad 21)), (4, .int i)] [] (WC ad cI cZ x s d o t s2 d2 ((ad 21, .inl (cJ, 1, .inr (.inl w))) :: WM am cI cZ mk mu mz mw mo md mr mp [])) := by
  have hE := lat_stb hA0
  have hX : lat sg sg sg.heap := ⟨State.WarmedH.refl sg, Nat.le_refl _, fun _ _ => rfl⟩
  have hbA : ¬ A b := fun h9 => Nat.not_le_of_lt hbl (hA0 b h9)
  unfold lk_180 at h
  refine r_aload_n (pc := 180) C d_La_law_180 rfl 1 rfl ?_
  refine r_aload_n (pc := 181) C d_La_law_181 rfl 0 rfl ?_
  refine r_iload (pc := 182) C d_La_law_182 4 rfl ?_
  refine r_iconst (pc := 184) (v := 1) C d_La_law_184 (by decide) ?_
  refine r_iadd (pc := 185) C d_La_law_185 ?_
  obtain ⟨hi15, h⟩ := ign h
  refine r_sld (pc := 186) C hS hbl hbA hi15 d_La_law_186 ?_
  refine r_i2l (pc := 187) C d_La_law_187 ?_
  refine r_bipush (pc := 188) (v := 32) C d_La_law_188 (by decide) ?_
  refine r_lshl (pc := 190) C d_La_law_190 ?_
  refine r_aload_n (pc := 191) C d_La_law_191 rfl 0 rfl ?_
  refine r_iload (pc := 192) C d_La_law_192 4 rfl ?_
  refine r_iconst (pc := 194) (v := 2) C d_La_law_194 (by decide) ?_
  refine r_iadd (pc := 195) C d_La_law_195 ?_
  obtain ⟨hi14, h⟩ := ign h
  refine r_sld (pc := 196) C hS hbl hbA hi14 d_La_law_196 ?_
  refine r_i2l (pc := 197) C d_La_law_197 ?_
  refine r_ldc2 (pc := 198) (v := 4294967295) C ml_13 d_La_law_198 ?_
  refine r_land (pc := 201) C d_La_law_201 ?_
  refine r_lor (pc := 202) C d_La_law_202 ?_
  obtain ⟨q10, hq10, h⟩ := ob h
  refine r_callV (pc := 203) (As := [.long ((((xs (i + (1 : Int32)).toNatClampNeg).toInt64) <<< ((32 : Int32).toInt64 &&& 63)) ||| (((xs (i + (2 : Int32)).toNatClampNeg).toInt64) &&& (4294967295 : Int64)))]) (rest := []) (st1 := []) hE gg_good C hX (c_SD_again_X hE hq10) ml_18 ml_19 ml_20 ml_21 ml_22 hd_SD_again 20 rfl rfl ⟨⟨(Nat.le_of_ble_eq_true rfl), (Nat.le_of_ble_eq_true rfl)⟩, (by show cells + 0 ≤ 1067; omega), (by show slots + 0 ≤ 9128; omega)⟩ (Nat.le_of_ble_eq_true rfl) rfl rfl d_La_law_203 ?_
  refine r_aload_n (pc := 206) C d_La_law_206 rfl 2 rfl ?_
  refine r_aload_n (pc := 207) C d_La_law_207 rfl 0 rfl ?_
  refine r_iload (pc := 208) C d_La_law_208 4 rfl ?_
  refine r_iconst (pc := 210) (v := 1) C d_La_law_210 (by decide) ?_
  refine r_iadd (pc := 211) C d_La_law_211 ?_
  obtain ⟨hi13, h⟩ := ign h
  refine r_sld (pc := 212) C hS hbl hbA hi13 d_La_law_212 ?_
  refine r_i2l (pc := 213) C d_La_law_213 ?_
  refine r_bipush (pc := 214) (v := 32) C d_La_law_214 (by decide) ?_
  refine r_lshl (pc := 216) C d_La_law_216 ?_
  refine r_aload_n (pc := 217) C d_La_law_217 rfl 0 rfl ?_
  refine r_iload (pc := 218) C d_La_law_218 4 rfl ?_
  refine r_iconst (pc := 220) (v := 2) C d_La_law_220 (by decide) ?_
  refine r_iadd (pc := 221) C d_La_law_221 ?_
  obtain ⟨hi12, h⟩ := ign h
  refine r_sld (pc := 222) C hS hbl hbA hi12 d_La_law_222 ?_
  refine r_i2l (pc := 223) C d_La_law_223 ?_
  refine r_ldc2 (pc := 224) (v := 4294967295) C ml_13 d_La_law_224 ?_
  refine r_land (pc := 227) C d_La_law_227 ?_
  refine r_lor (pc := 228) C d_La_law_228 ?_
  obtain ⟨q11, hq11, h⟩ := ob h
  refine r_perm lw_cm ?_
  refine r_callV (pc := 229) (As := [.long ((((xs (i + (1 : Int32)).toNatClampNeg).toInt64) <<< ((32 : Int32).toInt64 &&& 63)) ||| (((xs (i + (2 : Int32)).toNatClampNeg).toInt64) &&& (4294967295 : Int64)))]) (rest := []) (st1 := []) hE gg_good C hX (c_Mo_again_M hE hq11) ml_14 ml_15 ml_16 ml_3 ml_17 hd_Mo_again 11 rfl rfl ⟨⟨(Nat.le_of_ble_eq_true rfl), (Nat.le_of_ble_eq_true rfl)⟩, (by show cells + 0 + 0 ≤ 1067; omega), (by show slots + 0 + 0 ≤ 9128; omega)⟩ (Nat.le_of_ble_eq_true rfl) rfl rfl d_La_law_229 ?_
  refine r_perm lw_mc ?_
  refine r_goto (pc := 232) (tgt := 865) C d_La_law_232 (by decide) ?_
  refine r_iincK (pc := 865) (w0 := 4) (lv' := [(4, .int (i + 4)), (0, .ref b), (1, .ref (ad 20)), (2, .ref (am 11)), (3, .ref (ad 21))]) C d_La_law_865 (by decide) 4 rfl (by decide) rfl ?_
  refine r_goto (pc := 868) (tgt := 33) C d_La_law_868 (by decide) ?_
  refine r_loc (lv' := [(0, .ref b), (1, .ref (ad 20)), (2, .ref (am 11)), (3, .ref (ad 21)), (4, .int (i + 4))]) [1, 2, 3, 4, 0] rfl ?_
  refine r_widen (k1 := cells + 2) (n1 := slots + 12) (by show cells + 0 + 0 ≤ cells + 2; omega) (by show slots + 0 + 0 ≤ slots + 12; omega) ?_
  exact ih _ _ _ _ _ _ _ _ _ _ _ _ _ _ _ _ _ h
def lk_235 (L : Nat) (xs : Nat → Int32) (rec : LSt → Option Int32) (i : Int32) (x : Int32) (s : Int64) (d : DD) (o : (Nat → Int32)) (t : TT) (s2 : Int64) (d2 : DD) (w : (Nat → Int64)) (mk : Int32) (mu : Int64) (mz : Int32) (mw : Int32) (mo : (Nat → Int32)) (md : MD) (mr : MR) (mp : MP) : Option Int32 :=
  (if ((i + (1 : Int32)) < 0 ∨ L ≤ (i + (1 : Int32)).toNatClampNeg) then none else (if ((i + (2 : Int32)) < 0 ∨ L ≤ (i + (2 : Int32)).toNatClampNeg) then none else Option.bind (f_La_part d o w (xs (i + (1 : Int32)).toNatClampNeg) (xs (i + (2 : Int32)).toNatClampNeg)) (fun q16 => (if ((i + (1 : Int32)) < 0 ∨ L ≤ (i + (1 : Int32)).toNatClampNeg) then none else (if ((i + (2 : Int32)) < 0 ∨ L ≤ (i + (2 : Int32)).toNatClampNeg) then none else Option.bind (f_Mo_part mk mo md (xs (i + (1 : Int32)).toNatClampNeg) (xs (i + (2 : Int32)).toNatClampNeg)) (fun q17 => Option.bind (f_Mo_thrown q17.2) (fun q18 => (if q18 = q16.1 then (if q16.1 = 0 then (if ((0 : Int32) < 0 ∨ 1 ≤ (0 : Int32).toNatClampNeg) then none else (if lg_cmp (q16.2 (0 : Int32).toNatClampNeg) (q17.1.toInt64) = 0 then rec (i + 4, x, s, d, o, t, s2, d2, q16.2, q17.2, mu, mz, mw, mo, md, mr, mp) else some 0)) else rec (i + 4, x, s, d, o, t, s2, d2, q16.2, q17.2, mu, mz, mw, mo, md, mr, mp)) else some 0))))))))
set_option maxHeartbeats 4000000 in
set_option maxRecDepth 100000 in
theorem vk_235 {l : Launch} {D : va_G} {A : Nat → Prop} {cI cZ cJ : ClassId} {sg : State} (h0 : tw sg) (hA0 : ∀ q, A q → sg.heap.size ≤ q) (hlT : l.stackTraces = false) {p : Program} {e : Env} {m : MethodId} {b L : Nat} {xs : Nat → Int32} {below : List Frame} {meth : Method} {c : Code} (C : cx p sg m #[Value.ref b] meth c D clsA (TY cI cZ cJ) A GG R_La code 7) (hr : meth.sig.returnType = ret) (hS : va_X b L xs sg sg.heap) (hbl : b < sg.heap.size) {ad am : Nat → Nat} {cells slots : Nat} (hc : cells + 2 ≤ 1067) (hs : slots + 12 ≤ 9128) {rec : LSt → Option Int32} (ih : ∀ (i : Int32) (x : Int32) (s : Int64) (d : DD) (o : (Nat → Int32)) (t : TT) (s2 : Int64) (d2 : DD) (w : (Nat → Int64)) (mk : Int32) (mu : Int64) (mz : Int32) (mw : Int32) (mo : (Nat → Int32)) (md : MD) (mr : MR) (mp : MP), rec (i, x, s, d, o, t, s2, d2, w, mk, mu, mz, mw, mo, md, mr, mp) = some 1 → vv p l e room_1 sg m #[Value.ref b] below meth c D clsA A 7 (cells + 2) (slots + 12) (lw_Z below #[Value.ref b] sg) 33 [(0, .ref b), (1, .ref (ad 20)), (2, .ref (am 11)), (3, .ref (ad 21)), (4, .int i)] [] (WC ad cI cZ x s d o t s2 d2 ((ad 21, .inl (cJ, 1, .inr (.inl w))) :: WM am cI cZ mk mu mz mw mo md mr mp []))) (i : Int32) (x : Int32) (s : Int64) (d : DD) (o : (Nat → Int32)) (t : TT) (s2 : Int64) (d2 : DD) (w : (Nat → Int64)) (mk : Int32) (mu : Int64) (mz : Int32) (mw : Int32) (mo : (Nat → Int32)) (md : MD) (mr : MR) (mp : MP) (h : lk_235 L xs rec i x s d o t s2 d2 w mk mu mz mw mo md mr mp = some 1) : vv p l e room_1 sg m #[Value.ref b] below meth c D clsA A 7 (cells) (slots) (lw_Z below #[Value.ref b] sg) 235 [(0, .ref b), (1, .ref (ad 20)), (2, .ref (am 11)), (3, .ref (ad 21)), (4, .int i)] [] (WC ad cI cZ x s d o t s2 d2 ((ad 21, .inl (cJ, 1, .inr (.inl w))) :: WM am cI cZ mk mu mz mw mo md mr mp [])) := by
  have hE := lat_stb hA0
  have hX : lat sg sg sg.heap := ⟨State.WarmedH.refl sg, Nat.le_refl _, fun _ _ => rfl⟩
  have hbA : ¬ A b := fun h9 => Nat.not_le_of_lt hbl (hA0 b h9)
  unfold lk_235 at h
  refine r_aload_n (pc := 235) C d_La_law_235 rfl 1 rfl ?_
  refine r_aload_n (pc := 236) C d_La_law_236 rfl 0 rfl ?_
  refine r_iload (pc := 237) C d_La_law_237 4 rfl ?_
  refine r_iconst (pc := 239) (v := 1) C d_La_law_239 (by decide) ?_
  refine r_iadd (pc := 240) C d_La_law_240 ?_
  obtain ⟨hi26, h⟩ := ign h
  refine r_sld (pc := 241) C hS hbl hbA hi26 d_La_law_241 ?_
  refine r_aload_n (pc := 242) C d_La_law_242 rfl 0 rfl ?_
  refine r_iload (pc := 243) C d_La_law_243 4 rfl ?_
  refine r_iconst (pc := 245) (v := 2) C d_La_law_245 (by decide) ?_
  refine r_iadd (pc := 246) C d_La_law_246 ?_
  obtain ⟨hi25, h⟩ := ign h
  refine r_sld (pc := 247) C hS hbl hbA hi25 d_La_law_247 ?_
  refine r_aload_n (pc := 248) C d_La_law_248 rfl 3 rfl ?_
  obtain ⟨q16, hq16, h⟩ := ob h
  refine r_callSw (pc := 249) (As := [.ref (ad 20), .int (xs (i + (1 : Int32)).toNatClampNeg), .int (xs (i + (2 : Int32)).toNatClampNeg), .ref (ad 21)]) (rest := []) (st1 := [.int q16.1]) hE gg_good C hX (c_La_part_X h0 hA0 hlT hq16) ml_27 ml_28 ml_11 ml_29 hd_La_part ⟨⟨(Nat.le_of_ble_eq_true rfl), (Nat.le_of_ble_eq_true rfl)⟩, (by show cells + 2 ≤ 1067; omega), (by show slots + 12 ≤ 9128; omega)⟩ (Nat.le_of_ble_eq_true rfl) rfl rfl d_La_law_249 ?_
  refine r_istore (pc := 252) (lv' := [(5, .int q16.1), (0, .ref b), (1, .ref (ad 20)), (2, .ref (am 11)), (3, .ref (ad 21)), (4, .int i)]) C d_La_law_252 (by decide) rfl ?_
  refine r_aload_n (pc := 254) C d_La_law_254 rfl 3 rfl ?_
  refine r_aload_n (pc := 255) C d_La_law_255 rfl 1 rfl ?_
  refine r_iload (pc := 256) C d_La_law_256 5 rfl ?_
  refine r_iconst (pc := 258) (v := 1) C d_La_law_258 (by decide) ?_
  refine r_iadd (pc := 259) C d_La_law_259 ?_
  obtain ⟨hi24, h⟩ := ign h
  refine r_sld (pc := 260) C hS hbl hbA hi24 d_La_law_260 ?_
  refine r_aload_n (pc := 261) C d_La_law_261 rfl 1 rfl ?_
  refine r_iload (pc := 262) C d_La_law_262 5 rfl ?_
  refine r_iconst (pc := 264) (v := 2) C d_La_law_264 (by decide) ?_
  refine r_iadd (pc := 265) C d_La_law_265 ?_
  obtain ⟨hi23, h⟩ := ign h
  refine r_sld (pc := 266) C hS hbl hbA hi23 d_La_law_266 ?_
  obtain ⟨q17, hq17, h⟩ := ob h
  refine r_perm lw_cm ?_
  refine r_callV (pc := 267) (As := [.int (xs (i + (1 : Int32)).toNatClampNeg), .int (xs (i + (2 : Int32)).toNatClampNeg)]) (rest := []) (st1 := [.int q17.1]) hE gg_good C hX (c_Mo_part_M hE hq17) ml_23 ml_24 ml_25 ml_3 ml_26 hd_Mo_part 11 rfl rfl ⟨⟨(Nat.le_of_ble_eq_true rfl), (Nat.le_of_ble_eq_true rfl)⟩, (by show cells + 2 + 0 ≤ 1067; omega), (by show slots + 12 + 0 ≤ 9128; omega)⟩ (Nat.le_of_ble_eq_true rfl) rfl rfl d_La_law_267 ?_
  refine r_perm lw_mc ?_
  refine r_istore (pc := 270) (lv' := [(6, .int q17.1), (5, .int q16.1), (0, .ref b), (1, .ref (ad 20)), (2, .ref (am 11)), (3, .ref (ad 21)), (4, .int i)]) C d_La_law_270 (by decide) rfl ?_
  refine r_aload_n (pc := 272) C d_La_law_272 rfl 4 rfl ?_
  obtain ⟨q18, hq18, h⟩ := ob h
  refine r_perm lw_cm ?_
  refine r_callV (pc := 273) (As := []) (rest := []) (st1 := [.int q18]) hE gg_good C hX (c_Mo_thrown_M hE hq18) ml_0 ml_1 ml_2 ml_3 ml_4 hd_Mo_thrown 11 rfl rfl ⟨⟨(Nat.le_of_ble_eq_true rfl), (Nat.le_of_ble_eq_true rfl)⟩, (by show cells + 2 + 0 + 0 ≤ 1067; omega), (by show slots + 12 + 0 + 0 ≤ 9128; omega)⟩ (Nat.le_of_ble_eq_true rfl) rfl rfl d_La_law_273 ?_
  refine r_perm lw_mc ?_
  refine r_iload (pc := 276) C d_La_law_276 1 rfl ?_
  refine r_icmp_eq (pc := 278) (tgt := 283) C d_La_law_278 (by decide) (fun c22 => ?_) (fun c22 => ?_)
  · replace h := ip c22 h
    refine r_iload (pc := 283) C d_La_law_283 1 rfl ?_
    refine r_if_ne (pc := 285) (tgt := 300) C d_La_law_285 (by decide) (fun c21 => ?_) (fun c21 => ?_)
    · replace h := iN c21 h
      refine r_goto (pc := 300) (tgt := 865) C d_La_law_300 (by decide) ?_
      refine r_iincK (pc := 865) (w0 := 4) (lv' := [(4, .int (i + 4)), (6, .int q17.1), (5, .int q16.1), (0, .ref b), (1, .ref (ad 20)), (2, .ref (am 11)), (3, .ref (ad 21))]) C d_La_law_865 (by decide) 6 rfl (by decide) rfl ?_
      refine r_goto (pc := 868) (tgt := 33) C d_La_law_868 (by decide) ?_
      refine r_loc (lv' := [(0, .ref b), (1, .ref (ad 20)), (2, .ref (am 11)), (3, .ref (ad 21)), (4, .int (i + 4))]) [3, 4, 5, 6, 0] rfl ?_
      refine r_widen (k1 := cells + 2) (n1 := slots + 12) (by show cells + 2 + 0 + 0 ≤ cells + 2; omega) (by show slots + 12 + 0 + 0 ≤ slots + 12; omega) ?_
      exact ih _ _ _ _ _ _ _ _ _ _ _ _ _ _ _ _ _ h
    · replace h := ip c21 h
      refine r_aload_n (pc := 288) C d_La_law_288 rfl 5 rfl ?_
      refine r_iconst (pc := 289) (v := 0) C d_La_law_289 (by decide) ?_
      obtain ⟨hi20, h⟩ := ign h
      refine r_lald (pc := 290) C 21 2 rfl rfl hi20 d_La_law_290 ?_
      refine r_iload (pc := 291) C d_La_law_291 0 rfl ?_
      refine r_i2l (pc := 293) C d_La_law_293 ?_
      refine r_lcmp (pc := 294) C d_La_law_294 ?_
      refine r_if_eq (pc := 295) (tgt := 300) C d_La_law_295 (by decide) (fun c19 => ?_) (fun c19 => ?_)
      · replace h := ip c19 h
        refine r_goto (pc := 300) (tgt := 865) C d_La_law_300 (by decide) ?_
        refine r_iincK (pc := 865) (w0 := 4) (lv' := [(4, .int (i + 4)), (6, .int q17.1), (5, .int q16.1), (0, .ref b), (1, .ref (ad 20)), (2, .ref (am 11)), (3, .ref (ad 21))]) C d_La_law_865 (by decide) 6 rfl (by decide) rfl ?_
        refine r_goto (pc := 868) (tgt := 33) C d_La_law_868 (by decide) ?_
        refine r_loc (lv' := [(0, .ref b), (1, .ref (ad 20)), (2, .ref (am 11)), (3, .ref (ad 21)), (4, .int (i + 4))]) [3, 4, 5, 6, 0] rfl ?_
        refine r_widen (k1 := cells + 2) (n1 := slots + 12) (by show cells + 2 + 0 + 0 ≤ cells + 2; omega) (by show slots + 12 + 0 + 0 ≤ slots + 12; omega) ?_
        exact ih _ _ _ _ _ _ _ _ _ _ _ _ _ _ _ _ _ h
      · replace h := iN c19 h
        refine r_iconst (pc := 298) (v := 0) C d_La_law_298 (by decide) ?_
        exact absurd h (by decide)
  · replace h := iN c22 h
    refine r_iconst (pc := 281) (v := 0) C d_La_law_281 (by decide) ?_
    exact absurd h (by decide)
def lk_303 (L : Nat) (xs : Nat → Int32) (rec : LSt → Option Int32) (i : Int32) (x : Int32) (s : Int64) (d : DD) (o : (Nat → Int32)) (t : TT) (s2 : Int64) (d2 : DD) (w : (Nat → Int64)) (mk : Int32) (mu : Int64) (mz : Int32) (mw : Int32) (mo : (Nat → Int32)) (md : MD) (mr : MR) (mp : MP) : Option Int32 :=
  (if ((i + (1 : Int32)) < 0 ∨ L ≤ (i + (1 : Int32)).toNatClampNeg) then none else (if ((i + (2 : Int32)) < 0 ∨ L ≤ (i + (2 : Int32)).toNatClampNeg) then none else (if xs (i + (2 : Int32)).toNatClampNeg = 0 then Option.bind (f_La_leave x d o t w (xs (i + (1 : Int32)).toNatClampNeg) (0)) (fun q27 => (if ((i + (1 : Int32)) < 0 ∨ L ≤ (i + (1 : Int32)).toNatClampNeg) then none else (if ((i + (2 : Int32)) < 0 ∨ L ≤ (i + (2 : Int32)).toNatClampNeg) then none else (if xs (i + (2 : Int32)).toNatClampNeg = 0 then Option.bind (f_Mo_leave mk mw mo md mp (xs (i + (1 : Int32)).toNatClampNeg) (0)) (fun q28 => Option.bind (f_Mo_thrown q28.2.1) (fun q29 => (if q29 = q27.1 then (if q27.1 = 0 then (if ((0 : Int32) < 0 ∨ 1 ≤ (0 : Int32).toNatClampNeg) then none else (if q28.1 = 0 then (if lg_cmp (q27.2.2.2 (0 : Int32).toNatClampNeg) (0 : Int64) = 0 then rec (i + 4, x, s, d, q27.2.1, q27.2.2.1, s2, d2, q27.2.2.2, q28.2.1, mu, mz, mw, q28.2.2.1, md, mr, q28.2.2.2) else some 0) else (if lg_cmp (q27.2.2.2 (0 : Int32).toNatClampNeg) (1 : Int64) = 0 then rec (i + 4, x, s, d, q27.2.1, q27.2.2.1, s2, d2, q27.2.2.2, q28.2.1, mu, mz, mw, q28.2.2.1, md, mr, q28.2.2.2) else some 0))) else rec (i + 4, x, s, d, q27.2.1, q27.2.2.1, s2, d2, q27.2.2.2, q28.2.1, mu, mz, mw, q28.2.2.1, md, mr, q28.2.2.2)) else some 0))) else Option.bind (f_Mo_leave mk mw mo md mp (xs (i + (1 : Int32)).toNatClampNeg) (1)) (fun q36 => Option.bind (f_Mo_thrown q36.2.1) (fun q37 => (if q37 = q27.1 then (if q27.1 = 0 then (if ((0 : Int32) < 0 ∨ 1 ≤ (0 : Int32).toNatClampNeg) then none else (if q36.1 = 0 then (if lg_cmp (q27.2.2.2 (0 : Int32).toNatClampNeg) (0 : Int64) = 0 then rec (i + 4, x, s, d, q27.2.1, q27.2.2.1, s2, d2, q27.2.2.2, q36.2.1, mu, mz, mw, q36.2.2.1, md, mr, q36.2.2.2) else some 0) else (if lg_cmp (q27.2.2.2 (0 : Int32).toNatClampNeg) (1 : Int64) = 0 then rec (i + 4, x, s, d, q27.2.1, q27.2.2.1, s2, d2, q27.2.2.2, q36.2.1, mu, mz, mw, q36.2.2.1, md, mr, q36.2.2.2) else some 0))) else rec (i + 4, x, s, d, q27.2.1, q27.2.2.1, s2, d2, q27.2.2.2, q36.2.1, mu, mz, mw, q36.2.2.1, md, mr, q36.2.2.2)) else some 0))))))) else Option.bind (f_La_leave x d o t w (xs (i + (1 : Int32)).toNatClampNeg) (1)) (fun q47 => (if ((i + (1 : Int32)) < 0 ∨ L ≤ (i + (1 : Int32)).toNatClampNeg) then none else (if ((i + (2 : Int32)) < 0 ∨ L ≤ (i + (2 : Int32)).toNatClampNeg) then none else (if xs (i + (2 : Int32)).toNatClampNeg = 0 then Option.bind (f_Mo_leave mk mw mo md mp (xs (i + (1 : Int32)).toNatClampNeg) (0)) (fun q48 => Option.bind (f_Mo_thrown q48.2.1) (fun q49 => (if q49 = q47.1 then (if q47.1 = 0 then (if ((0 : Int32) < 0 ∨ 1 ≤ (0 : Int32).toNatClampNeg) then none else (if q48.1 = 0 then (if lg_cmp (q47.2.2.2 (0 : Int32).toNatClampNeg) (0 : Int64) = 0 then rec (i + 4, x, s, d, q47.2.1, q47.2.2.1, s2, d2, q47.2.2.2, q48.2.1, mu, mz, mw, q48.2.2.1, md, mr, q48.2.2.2) else some 0) else (if lg_cmp (q47.2.2.2 (0 : Int32).toNatClampNeg) (1 : Int64) = 0 then rec (i + 4, x, s, d, q47.2.1, q47.2.2.1, s2, d2, q47.2.2.2, q48.2.1, mu, mz, mw, q48.2.2.1, md, mr, q48.2.2.2) else some 0))) else rec (i + 4, x, s, d, q47.2.1, q47.2.2.1, s2, d2, q47.2.2.2, q48.2.1, mu, mz, mw, q48.2.2.1, md, mr, q48.2.2.2)) else some 0))) else Option.bind (f_Mo_leave mk mw mo md mp (xs (i + (1 : Int32)).toNatClampNeg) (1)) (fun q56 => Option.bind (f_Mo_thrown q56.2.1) (fun q57 => (if q57 = q47.1 then (if q47.1 = 0 then (if ((0 : Int32) < 0 ∨ 1 ≤ (0 : Int32).toNatClampNeg) then none else (if q56.1 = 0 then (if lg_cmp (q47.2.2.2 (0 : Int32).toNatClampNeg) (0 : Int64) = 0 then rec (i + 4, x, s, d, q47.2.1, q47.2.2.1, s2, d2, q47.2.2.2, q56.2.1, mu, mz, mw, q56.2.2.1, md, mr, q56.2.2.2) else some 0) else (if lg_cmp (q47.2.2.2 (0 : Int32).toNatClampNeg) (1 : Int64) = 0 then rec (i + 4, x, s, d, q47.2.1, q47.2.2.1, s2, d2, q47.2.2.2, q56.2.1, mu, mz, mw, q56.2.2.1, md, mr, q56.2.2.2) else some 0))) else rec (i + 4, x, s, d, q47.2.1, q47.2.2.1, s2, d2, q47.2.2.2, q56.2.1, mu, mz, mw, q56.2.2.1, md, mr, q56.2.2.2)) else some 0))))))))))
set_option maxHeartbeats 4000000 in
set_option maxRecDepth 100000 in
theorem vk_303 {l : Launch} {D : va_G} {A : Nat → Prop} {cI cZ cJ : ClassId} {sg : State} (h0 : tw sg) (hA0 : ∀ q, A q → sg.heap.size ≤ q) (hlT : l.stackTraces = false) {p : Program} {e : Env} {m : MethodId} {b L : Nat} {xs : Nat → Int32} {below : List Frame} {meth : Method} {c : Code} (C : cx p sg m #[Value.ref b] meth c D clsA (TY cI cZ cJ) A GG R_La code 7) (hr : meth.sig.returnType = ret) (hS : va_X b L xs sg sg.heap) (hbl : b < sg.heap.size) {ad am : Nat → Nat} {cells slots : Nat} (hc : cells + 2 ≤ 1067) (hs : slots + 12 ≤ 9128) {rec : LSt → Option Int32} (ih : ∀ (i : Int32) (x : Int32) (s : Int64) (d : DD) (o : (Nat → Int32)) (t : TT) (s2 : Int64) (d2 : DD) (w : (Nat → Int64)) (mk : Int32) (mu : Int64) (mz : Int32) (mw : Int32) (mo : (Nat → Int32)) (md : MD) (mr : MR) (mp : MP), rec (i, x, s, d, o, t, s2, d2, w, mk, mu, mz, mw, mo, md, mr, mp) = some 1 → vv p l e room_1 sg m #[Value.ref b] below meth c D clsA A 7 (cells + 2) (slots + 12) (lw_Z below #[Value.ref b] sg) 33 [(0, .ref b), (1, .ref (ad 20)), (2, .ref (am 11)), (3, .ref (ad 21)), (4, .int i)] [] (WC ad cI cZ x s d o t s2 d2 ((ad 21, .inl (cJ, 1, .inr (.inl w))) :: WM am cI cZ mk mu mz mw mo md mr mp []))) (i : Int32) (x : Int32) (s : Int64) (d : DD) (o : (Nat → Int32)) (t : TT) (s2 : Int64) (d2 : DD) (w : (Nat → Int64)) (mk : Int32) (mu : Int64) (mz : Int32) (mw : Int32) (mo : (Nat → Int32)) (md : MD) (mr : MR) (mp : MP) (h : lk_303 L xs rec i x s d o t s2 d2 w mk mu mz mw mo md mr mp = some 1) : vv p l e room_1 sg m #[Value.ref b] below meth c D clsA A 7 (cells) (slots) (lw_Z below #[Value.ref b] sg) 303 [(0, .ref b), (1, .ref (ad 20)), (2, .ref (am 11)), (3, .ref (ad 21)), (4, .int i)] [] (WC ad cI cZ x s d o t s2 d2 ((ad 21, .inl (cJ, 1, .inr (.inl w))) :: WM am cI cZ mk mu mz mw mo md mr mp [])) := by
  have hE := lat_stb hA0
  have hX : lat sg sg sg.heap := ⟨State.WarmedH.refl sg, Nat.le_refl _, fun _ _ => rfl⟩
  have hbA : ¬ A b := fun h9 => Nat.not_le_of_lt hbl (hA0 b h9)
  unfold lk_303 at h
  refine r_aload_n (pc := 303) C d_La_law_303 rfl 1 rfl ?_
  refine r_aload_n (pc := 304) C d_La_law_304 rfl 0 rfl ?_
  refine r_iload (pc := 305) C d_La_law_305 4 rfl ?_
  refine r_iconst (pc := 307) (v := 1) C d_La_law_307 (by decide) ?_
  refine r_iadd (pc := 308) C d_La_law_308 ?_
  obtain ⟨hi69, h⟩ := ign h
  refine r_sld (pc := 309) C hS hbl hbA hi69 d_La_law_309 ?_
  refine r_aload_n (pc := 310) C d_La_law_310 rfl 0 rfl ?_
  refine r_iload (pc := 311) C d_La_law_311 4 rfl ?_
  refine r_iconst (pc := 313) (v := 2) C d_La_law_313 (by decide) ?_
  refine r_iadd (pc := 314) C d_La_law_314 ?_
  obtain ⟨hi68, h⟩ := ign h
  refine r_sld (pc := 315) C hS hbl hbA hi68 d_La_law_315 ?_
  refine r_if_eq (pc := 316) (tgt := 323) C d_La_law_316 (by decide) (fun c67 => ?_) (fun c67 => ?_)
  · replace h := ip c67 h
    refine r_iconst (pc := 323) (v := 0) C d_La_law_323 (by decide) ?_
    refine r_aload_n (pc := 324) C d_La_law_324 rfl 3 rfl ?_
    obtain ⟨q27, hq27, h⟩ := ob h
    refine r_callSw (pc := 325) (As := [.ref (ad 20), .int (xs (i + (1 : Int32)).toNatClampNeg), .int (0), .ref (ad 21)]) (rest := []) (st1 := [.int q27.1]) hE gg_good C hX (c_La_leave_X h0 hA0 hlT hq27) ml_34 ml_35 ml_11 ml_36 hd_La_leave ⟨⟨(Nat.le_of_ble_eq_true rfl), (Nat.le_of_ble_eq_true rfl)⟩, (by show cells + 2 ≤ 1067; omega), (by show slots + 12 ≤ 9128; omega)⟩ (Nat.le_of_ble_eq_true rfl) rfl rfl d_La_law_325 ?_
    refine r_istore (pc := 328) (lv' := [(5, .int q27.1), (0, .ref b), (1, .ref (ad 20)), (2, .ref (am 11)), (3, .ref (ad 21)), (4, .int i)]) C d_La_law_328 (by decide) rfl ?_
    refine r_aload_n (pc := 330) C d_La_law_330 rfl 3 rfl ?_
    refine r_aload_n (pc := 331) C d_La_law_331 rfl 1 rfl ?_
    refine r_iload (pc := 332) C d_La_law_332 5 rfl ?_
    refine r_iconst (pc := 334) (v := 1) C d_La_law_334 (by decide) ?_
    refine r_iadd (pc := 335) C d_La_law_335 ?_
    obtain ⟨hi46, h⟩ := ign h
    refine r_sld (pc := 336) C hS hbl hbA hi46 d_La_law_336 ?_
    refine r_aload_n (pc := 337) C d_La_law_337 rfl 1 rfl ?_
    refine r_iload (pc := 338) C d_La_law_338 5 rfl ?_
    refine r_iconst (pc := 340) (v := 2) C d_La_law_340 (by decide) ?_
    refine r_iadd (pc := 341) C d_La_law_341 ?_
    obtain ⟨hi45, h⟩ := ign h
    refine r_sld (pc := 342) C hS hbl hbA hi45 d_La_law_342 ?_
    refine r_if_eq (pc := 343) (tgt := 350) C d_La_law_343 (by decide) (fun c44 => ?_) (fun c44 => ?_)
    · replace h := ip c44 h
      refine r_iconst (pc := 350) (v := 0) C d_La_law_350 (by decide) ?_
      obtain ⟨q28, hq28, h⟩ := ob h
      refine r_perm lw_cm ?_
      refine r_callV (pc := 351) (As := [.int (xs (i + (1 : Int32)).toNatClampNeg), .int (0)]) (rest := []) (st1 := [.int q28.1]) hE gg_good C hX (c_Mo_leave_M hE hq28) ml_30 ml_31 ml_32 ml_3 ml_33 hd_Mo_leave 11 rfl rfl ⟨⟨(Nat.le_of_ble_eq_true rfl), (Nat.le_of_ble_eq_true rfl)⟩, (by show cells + 2 + 0 ≤ 1067; omega), (by show slots + 12 + 0 ≤ 9128; omega)⟩ (Nat.le_of_ble_eq_true rfl) rfl rfl d_La_law_351 ?_
      refine r_perm lw_mc ?_
      refine r_istore (pc := 354) (lv' := [(6, .int q28.1), (5, .int q27.1), (0, .ref b), (1, .ref (ad 20)), (2, .ref (am 11)), (3, .ref (ad 21)), (4, .int i)]) C d_La_law_354 (by decide) rfl ?_
      refine r_aload_n (pc := 356) C d_La_law_356 rfl 4 rfl ?_
      obtain ⟨q29, hq29, h⟩ := ob h
      refine r_perm lw_cm ?_
      refine r_callV (pc := 357) (As := []) (rest := []) (st1 := [.int q29]) hE gg_good C hX (c_Mo_thrown_M hE hq29) ml_0 ml_1 ml_2 ml_3 ml_4 hd_Mo_thrown 11 rfl rfl ⟨⟨(Nat.le_of_ble_eq_true rfl), (Nat.le_of_ble_eq_true rfl)⟩, (by show cells + 2 + 0 + 0 ≤ 1067; omega), (by show slots + 12 + 0 + 0 ≤ 9128; omega)⟩ (Nat.le_of_ble_eq_true rfl) rfl rfl d_La_law_357 ?_
      refine r_perm lw_mc ?_
      refine r_iload (pc := 360) C d_La_law_360 1 rfl ?_
      refine r_icmp_eq (pc := 362) (tgt := 367) C d_La_law_362 (by decide) (fun c35 => ?_) (fun c35 => ?_)
      · replace h := ip c35 h
        refine r_iload (pc := 367) C d_La_law_367 1 rfl ?_
        refine r_if_ne (pc := 369) (tgt := 391) C d_La_law_369 (by decide) (fun c34 => ?_) (fun c34 => ?_)
        · replace h := iN c34 h
          refine r_goto (pc := 391) (tgt := 865) C d_La_law_391 (by decide) ?_
          refine r_iincK (pc := 865) (w0 := 4) (lv' := [(4, .int (i + 4)), (6, .int q28.1), (5, .int q27.1), (0, .ref b), (1, .ref (ad 20)), (2, .ref (am 11)), (3, .ref (ad 21))]) C d_La_law_865 (by decide) 6 rfl (by decide) rfl ?_
          refine r_goto (pc := 868) (tgt := 33) C d_La_law_868 (by decide) ?_
          refine r_loc (lv' := [(0, .ref b), (1, .ref (ad 20)), (2, .ref (am 11)), (3, .ref (ad 21)), (4, .int (i + 4))]) [3, 4, 5, 6, 0] rfl ?_
          refine r_widen (k1 := cells + 2) (n1 := slots + 12) (by show cells + 2 + 0 + 0 ≤ cells + 2; omega) (by show slots + 12 + 0 + 0 ≤ slots + 12; omega) ?_
          exact ih _ _ _ _ _ _ _ _ _ _ _ _ _ _ _ _ _ h
        · replace h := ip c34 h
          refine r_aload_n (pc := 372) C d_La_law_372 rfl 5 rfl ?_
          refine r_iconst (pc := 373) (v := 0) C d_La_law_373 (by decide) ?_
          obtain ⟨hi33, h⟩ := ign h
          refine r_lald (pc := 374) C 21 2 rfl rfl hi33 d_La_law_374 ?_
          refine r_iload (pc := 375) C d_La_law_375 0 rfl ?_
          refine r_if_eq (pc := 377) (tgt := 384) C d_La_law_377 (by decide) (fun c32 => ?_) (fun c32 => ?_)
          · replace h := ip c32 h
            refine r_lconst (pc := 384) (v := 0) C d_La_law_384 rfl ?_
            refine r_lcmp (pc := 385) C d_La_law_385 ?_
            refine r_if_eq (pc := 386) (tgt := 391) C d_La_law_386 (by decide) (fun c30 => ?_) (fun c30 => ?_)
            · replace h := ip c30 h
              refine r_goto (pc := 391) (tgt := 865) C d_La_law_391 (by decide) ?_
              refine r_iincK (pc := 865) (w0 := 4) (lv' := [(4, .int (i + 4)), (6, .int q28.1), (5, .int q27.1), (0, .ref b), (1, .ref (ad 20)), (2, .ref (am 11)), (3, .ref (ad 21))]) C d_La_law_865 (by decide) 6 rfl (by decide) rfl ?_
              refine r_goto (pc := 868) (tgt := 33) C d_La_law_868 (by decide) ?_
              refine r_loc (lv' := [(0, .ref b), (1, .ref (ad 20)), (2, .ref (am 11)), (3, .ref (ad 21)), (4, .int (i + 4))]) [3, 4, 5, 6, 0] rfl ?_
              refine r_widen (k1 := cells + 2) (n1 := slots + 12) (by show cells + 2 + 0 + 0 ≤ cells + 2; omega) (by show slots + 12 + 0 + 0 ≤ slots + 12; omega) ?_
              exact ih _ _ _ _ _ _ _ _ _ _ _ _ _ _ _ _ _ h
            · replace h := iN c30 h
              refine r_iconst (pc := 389) (v := 0) C d_La_law_389 (by decide) ?_
              exact absurd h (by decide)
          · replace h := iN c32 h
            refine r_lconst (pc := 380) (v := 1) C d_La_law_380 rfl ?_
            refine r_goto (pc := 381) (tgt := 385) C d_La_law_381 (by decide) ?_
            refine r_lcmp (pc := 385) C d_La_law_385 ?_
            refine r_if_eq (pc := 386) (tgt := 391) C d_La_law_386 (by decide) (fun c31 => ?_) (fun c31 => ?_)
            · replace h := ip c31 h
              refine r_goto (pc := 391) (tgt := 865) C d_La_law_391 (by decide) ?_
              refine r_iincK (pc := 865) (w0 := 4) (lv' := [(4, .int (i + 4)), (6, .int q28.1), (5, .int q27.1), (0, .ref b), (1, .ref (ad 20)), (2, .ref (am 11)), (3, .ref (ad 21))]) C d_La_law_865 (by decide) 6 rfl (by decide) rfl ?_
              refine r_goto (pc := 868) (tgt := 33) C d_La_law_868 (by decide) ?_
              refine r_loc (lv' := [(0, .ref b), (1, .ref (ad 20)), (2, .ref (am 11)), (3, .ref (ad 21)), (4, .int (i + 4))]) [3, 4, 5, 6, 0] rfl ?_
              refine r_widen (k1 := cells + 2) (n1 := slots + 12) (by show cells + 2 + 0 + 0 ≤ cells + 2; omega) (by show slots + 12 + 0 + 0 ≤ slots + 12; omega) ?_
              exact ih _ _ _ _ _ _ _ _ _ _ _ _ _ _ _ _ _ h
            · replace h := iN c31 h
              refine r_iconst (pc := 389) (v := 0) C d_La_law_389 (by decide) ?_
              exact absurd h (by decide)
      · replace h := iN c35 h
        refine r_iconst (pc := 365) (v := 0) C d_La_law_365 (by decide) ?_
        exact absurd h (by decide)
    · replace h := iN c44 h
      refine r_iconst (pc := 346) (v := 1) C d_La_law_346 (by decide) ?_
      refine r_goto (pc := 347) (tgt := 351) C d_La_law_347 (by decide) ?_
      obtain ⟨q36, hq36, h⟩ := ob h
      refine r_perm lw_cm ?_
      refine r_callV (pc := 351) (As := [.int (xs (i + (1 : Int32)).toNatClampNeg), .int (1)]) (rest := []) (st1 := [.int q36.1]) hE gg_good C hX (c_Mo_leave_M hE hq36) ml_30 ml_31 ml_32 ml_3 ml_33 hd_Mo_leave 11 rfl rfl ⟨⟨(Nat.le_of_ble_eq_true rfl), (Nat.le_of_ble_eq_true rfl)⟩, (by show cells + 2 + 0 ≤ 1067; omega), (by show slots + 12 + 0 ≤ 9128; omega)⟩ (Nat.le_of_ble_eq_true rfl) rfl rfl d_La_law_351 ?_
      refine r_perm lw_mc ?_
      refine r_istore (pc := 354) (lv' := [(6, .int q36.1), (5, .int q27.1), (0, .ref b), (1, .ref (ad 20)), (2, .ref (am 11)), (3, .ref (ad 21)), (4, .int i)]) C d_La_law_354 (by decide) rfl ?_
      refine r_aload_n (pc := 356) C d_La_law_356 rfl 4 rfl ?_
      obtain ⟨q37, hq37, h⟩ := ob h
      refine r_perm lw_cm ?_
      refine r_callV (pc := 357) (As := []) (rest := []) (st1 := [.int q37]) hE gg_good C hX (c_Mo_thrown_M hE hq37) ml_0 ml_1 ml_2 ml_3 ml_4 hd_Mo_thrown 11 rfl rfl ⟨⟨(Nat.le_of_ble_eq_true rfl), (Nat.le_of_ble_eq_true rfl)⟩, (by show cells + 2 + 0 + 0 ≤ 1067; omega), (by show slots + 12 + 0 + 0 ≤ 9128; omega)⟩ (Nat.le_of_ble_eq_true rfl) rfl rfl d_La_law_357 ?_
      refine r_perm lw_mc ?_
      refine r_iload (pc := 360) C d_La_law_360 1 rfl ?_
      refine r_icmp_eq (pc := 362) (tgt := 367) C d_La_law_362 (by decide) (fun c43 => ?_) (fun c43 => ?_)
      · replace h := ip c43 h
        refine r_iload (pc := 367) C d_La_law_367 1 rfl ?_
        refine r_if_ne (pc := 369) (tgt := 391) C d_La_law_369 (by decide) (fun c42 => ?_) (fun c42 => ?_)
        · replace h := iN c42 h
          refine r_goto (pc := 391) (tgt := 865) C d_La_law_391 (by decide) ?_
          refine r_iincK (pc := 865) (w0 := 4) (lv' := [(4, .int (i + 4)), (6, .int q36.1), (5, .int q27.1), (0, .ref b), (1, .ref (ad 20)), (2, .ref (am 11)), (3, .ref (ad 21))]) C d_La_law_865 (by decide) 6 rfl (by decide) rfl ?_
          refine r_goto (pc := 868) (tgt := 33) C d_La_law_868 (by decide) ?_
          refine r_loc (lv' := [(0, .ref b), (1, .ref (ad 20)), (2, .ref (am 11)), (3, .ref (ad 21)), (4, .int (i + 4))]) [3, 4, 5, 6, 0] rfl ?_
          refine r_widen (k1 := cells + 2) (n1 := slots + 12) (by show cells + 2 + 0 + 0 ≤ cells + 2; omega) (by show slots + 12 + 0 + 0 ≤ slots + 12; omega) ?_
          exact ih _ _ _ _ _ _ _ _ _ _ _ _ _ _ _ _ _ h
        · replace h := ip c42 h
          refine r_aload_n (pc := 372) C d_La_law_372 rfl 5 rfl ?_
          refine r_iconst (pc := 373) (v := 0) C d_La_law_373 (by decide) ?_
          obtain ⟨hi41, h⟩ := ign h
          refine r_lald (pc := 374) C 21 2 rfl rfl hi41 d_La_law_374 ?_
          refine r_iload (pc := 375) C d_La_law_375 0 rfl ?_
          refine r_if_eq (pc := 377) (tgt := 384) C d_La_law_377 (by decide) (fun c40 => ?_) (fun c40 => ?_)
          · replace h := ip c40 h
            refine r_lconst (pc := 384) (v := 0) C d_La_law_384 rfl ?_
            refine r_lcmp (pc := 385) C d_La_law_385 ?_
            refine r_if_eq (pc := 386) (tgt := 391) C d_La_law_386 (by decide) (fun c38 => ?_) (fun c38 => ?_)
            · replace h := ip c38 h
              refine r_goto (pc := 391) (tgt := 865) C d_La_law_391 (by decide) ?_
              refine r_iincK (pc := 865) (w0 := 4) (lv' := [(4, .int (i + 4)), (6, .int q36.1), (5, .int q27.1), (0, .ref b), (1, .ref (ad 20)), (2, .ref (am 11)), (3, .ref (ad 21))]) C d_La_law_865 (by decide) 6 rfl (by decide) rfl ?_
              refine r_goto (pc := 868) (tgt := 33) C d_La_law_868 (by decide) ?_
              refine r_loc (lv' := [(0, .ref b), (1, .ref (ad 20)), (2, .ref (am 11)), (3, .ref (ad 21)), (4, .int (i + 4))]) [3, 4, 5, 6, 0] rfl ?_
              refine r_widen (k1 := cells + 2) (n1 := slots + 12) (by show cells + 2 + 0 + 0 ≤ cells + 2; omega) (by show slots + 12 + 0 + 0 ≤ slots + 12; omega) ?_
              exact ih _ _ _ _ _ _ _ _ _ _ _ _ _ _ _ _ _ h
            · replace h := iN c38 h
              refine r_iconst (pc := 389) (v := 0) C d_La_law_389 (by decide) ?_
              exact absurd h (by decide)
          · replace h := iN c40 h
            refine r_lconst (pc := 380) (v := 1) C d_La_law_380 rfl ?_
            refine r_goto (pc := 381) (tgt := 385) C d_La_law_381 (by decide) ?_
            refine r_lcmp (pc := 385) C d_La_law_385 ?_
            refine r_if_eq (pc := 386) (tgt := 391) C d_La_law_386 (by decide) (fun c39 => ?_) (fun c39 => ?_)
            · replace h := ip c39 h
              refine r_goto (pc := 391) (tgt := 865) C d_La_law_391 (by decide) ?_
              refine r_iincK (pc := 865) (w0 := 4) (lv' := [(4, .int (i + 4)), (6, .int q36.1), (5, .int q27.1), (0, .ref b), (1, .ref (ad 20)), (2, .ref (am 11)), (3, .ref (ad 21))]) C d_La_law_865 (by decide) 6 rfl (by decide) rfl ?_
              refine r_goto (pc := 868) (tgt := 33) C d_La_law_868 (by decide) ?_
              refine r_loc (lv' := [(0, .ref b), (1, .ref (ad 20)), (2, .ref (am 11)), (3, .ref (ad 21)), (4, .int (i + 4))]) [3, 4, 5, 6, 0] rfl ?_
              refine r_widen (k1 := cells + 2) (n1 := slots + 12) (by show cells + 2 + 0 + 0 ≤ cells + 2; omega) (by show slots + 12 + 0 + 0 ≤ slots + 12; omega) ?_
              exact ih _ _ _ _ _ _ _ _ _ _ _ _ _ _ _ _ _ h
            · replace h := iN c39 h
              refine r_iconst (pc := 389) (v := 0) C d_La_law_389 (by decide) ?_
              exact absurd h (by decide)
      · replace h := iN c43 h
        refine r_iconst (pc := 365) (v := 0) C d_La_law_365 (by decide) ?_
        exact absurd h (by decide)
  · replace h := iN c67 h
    refine r_iconst (pc := 319) (v := 1) C d_La_law_319 (by decide) ?_
    refine r_goto (pc := 320) (tgt := 324) C d_La_law_320 (by decide) ?_
    refine r_aload_n (pc := 324) C d_La_law_324 rfl 3 rfl ?_
    obtain ⟨q47, hq47, h⟩ := ob h
    refine r_callSw (pc := 325) (As := [.ref (ad 20), .int (xs (i + (1 : Int32)).toNatClampNeg), .int (1), .ref (ad 21)]) (rest := []) (st1 := [.int q47.1]) hE gg_good C hX (c_La_leave_X h0 hA0 hlT hq47) ml_34 ml_35 ml_11 ml_36 hd_La_leave ⟨⟨(Nat.le_of_ble_eq_true rfl), (Nat.le_of_ble_eq_true rfl)⟩, (by show cells + 2 ≤ 1067; omega), (by show slots + 12 ≤ 9128; omega)⟩ (Nat.le_of_ble_eq_true rfl) rfl rfl d_La_law_325 ?_
    refine r_istore (pc := 328) (lv' := [(5, .int q47.1), (0, .ref b), (1, .ref (ad 20)), (2, .ref (am 11)), (3, .ref (ad 21)), (4, .int i)]) C d_La_law_328 (by decide) rfl ?_
    refine r_aload_n (pc := 330) C d_La_law_330 rfl 3 rfl ?_
    refine r_aload_n (pc := 331) C d_La_law_331 rfl 1 rfl ?_
    refine r_iload (pc := 332) C d_La_law_332 5 rfl ?_
    refine r_iconst (pc := 334) (v := 1) C d_La_law_334 (by decide) ?_
    refine r_iadd (pc := 335) C d_La_law_335 ?_
    obtain ⟨hi66, h⟩ := ign h
    refine r_sld (pc := 336) C hS hbl hbA hi66 d_La_law_336 ?_
    refine r_aload_n (pc := 337) C d_La_law_337 rfl 1 rfl ?_
    refine r_iload (pc := 338) C d_La_law_338 5 rfl ?_
    refine r_iconst (pc := 340) (v := 2) C d_La_law_340 (by decide) ?_
    refine r_iadd (pc := 341) C d_La_law_341 ?_
    obtain ⟨hi65, h⟩ := ign h
    refine r_sld (pc := 342) C hS hbl hbA hi65 d_La_law_342 ?_
    refine r_if_eq (pc := 343) (tgt := 350) C d_La_law_343 (by decide) (fun c64 => ?_) (fun c64 => ?_)
    · replace h := ip c64 h
      refine r_iconst (pc := 350) (v := 0) C d_La_law_350 (by decide) ?_
      obtain ⟨q48, hq48, h⟩ := ob h
      refine r_perm lw_cm ?_
      refine r_callV (pc := 351) (As := [.int (xs (i + (1 : Int32)).toNatClampNeg), .int (0)]) (rest := []) (st1 := [.int q48.1]) hE gg_good C hX (c_Mo_leave_M hE hq48) ml_30 ml_31 ml_32 ml_3 ml_33 hd_Mo_leave 11 rfl rfl ⟨⟨(Nat.le_of_ble_eq_true rfl), (Nat.le_of_ble_eq_true rfl)⟩, (by show cells + 2 + 0 ≤ 1067; omega), (by show slots + 12 + 0 ≤ 9128; omega)⟩ (Nat.le_of_ble_eq_true rfl) rfl rfl d_La_law_351 ?_
      refine r_perm lw_mc ?_
      refine r_istore (pc := 354) (lv' := [(6, .int q48.1), (5, .int q47.1), (0, .ref b), (1, .ref (ad 20)), (2, .ref (am 11)), (3, .ref (ad 21)), (4, .int i)]) C d_La_law_354 (by decide) rfl ?_
      refine r_aload_n (pc := 356) C d_La_law_356 rfl 4 rfl ?_
      obtain ⟨q49, hq49, h⟩ := ob h
      refine r_perm lw_cm ?_
      refine r_callV (pc := 357) (As := []) (rest := []) (st1 := [.int q49]) hE gg_good C hX (c_Mo_thrown_M hE hq49) ml_0 ml_1 ml_2 ml_3 ml_4 hd_Mo_thrown 11 rfl rfl ⟨⟨(Nat.le_of_ble_eq_true rfl), (Nat.le_of_ble_eq_true rfl)⟩, (by show cells + 2 + 0 + 0 ≤ 1067; omega), (by show slots + 12 + 0 + 0 ≤ 9128; omega)⟩ (Nat.le_of_ble_eq_true rfl) rfl rfl d_La_law_357 ?_
      refine r_perm lw_mc ?_
      refine r_iload (pc := 360) C d_La_law_360 1 rfl ?_
      refine r_icmp_eq (pc := 362) (tgt := 367) C d_La_law_362 (by decide) (fun c55 => ?_) (fun c55 => ?_)
      · replace h := ip c55 h
        refine r_iload (pc := 367) C d_La_law_367 1 rfl ?_
        refine r_if_ne (pc := 369) (tgt := 391) C d_La_law_369 (by decide) (fun c54 => ?_) (fun c54 => ?_)
        · replace h := iN c54 h
          refine r_goto (pc := 391) (tgt := 865) C d_La_law_391 (by decide) ?_
          refine r_iincK (pc := 865) (w0 := 4) (lv' := [(4, .int (i + 4)), (6, .int q48.1), (5, .int q47.1), (0, .ref b), (1, .ref (ad 20)), (2, .ref (am 11)), (3, .ref (ad 21))]) C d_La_law_865 (by decide) 6 rfl (by decide) rfl ?_
          refine r_goto (pc := 868) (tgt := 33) C d_La_law_868 (by decide) ?_
          refine r_loc (lv' := [(0, .ref b), (1, .ref (ad 20)), (2, .ref (am 11)), (3, .ref (ad 21)), (4, .int (i + 4))]) [3, 4, 5, 6, 0] rfl ?_
          refine r_widen (k1 := cells + 2) (n1 := slots + 12) (by show cells + 2 + 0 + 0 ≤ cells + 2; omega) (by show slots + 12 + 0 + 0 ≤ slots + 12; omega) ?_
          exact ih _ _ _ _ _ _ _ _ _ _ _ _ _ _ _ _ _ h
        · replace h := ip c54 h
          refine r_aload_n (pc := 372) C d_La_law_372 rfl 5 rfl ?_
          refine r_iconst (pc := 373) (v := 0) C d_La_law_373 (by decide) ?_
          obtain ⟨hi53, h⟩ := ign h
          refine r_lald (pc := 374) C 21 2 rfl rfl hi53 d_La_law_374 ?_
          refine r_iload (pc := 375) C d_La_law_375 0 rfl ?_
          refine r_if_eq (pc := 377) (tgt := 384) C d_La_law_377 (by decide) (fun c52 => ?_) (fun c52 => ?_)
          · replace h := ip c52 h
            refine r_lconst (pc := 384) (v := 0) C d_La_law_384 rfl ?_
            refine r_lcmp (pc := 385) C d_La_law_385 ?_
            refine r_if_eq (pc := 386) (tgt := 391) C d_La_law_386 (by decide) (fun c50 => ?_) (fun c50 => ?_)
            · replace h := ip c50 h
              refine r_goto (pc := 391) (tgt := 865) C d_La_law_391 (by decide) ?_
              refine r_iincK (pc := 865) (w0 := 4) (lv' := [(4, .int (i + 4)), (6, .int q48.1), (5, .int q47.1), (0, .ref b), (1, .ref (ad 20)), (2, .ref (am 11)), (3, .ref (ad 21))]) C d_La_law_865 (by decide) 6 rfl (by decide) rfl ?_
              refine r_goto (pc := 868) (tgt := 33) C d_La_law_868 (by decide) ?_
              refine r_loc (lv' := [(0, .ref b), (1, .ref (ad 20)), (2, .ref (am 11)), (3, .ref (ad 21)), (4, .int (i + 4))]) [3, 4, 5, 6, 0] rfl ?_
              refine r_widen (k1 := cells + 2) (n1 := slots + 12) (by show cells + 2 + 0 + 0 ≤ cells + 2; omega) (by show slots + 12 + 0 + 0 ≤ slots + 12; omega) ?_
              exact ih _ _ _ _ _ _ _ _ _ _ _ _ _ _ _ _ _ h
            · replace h := iN c50 h
              refine r_iconst (pc := 389) (v := 0) C d_La_law_389 (by decide) ?_
              exact absurd h (by decide)
          · replace h := iN c52 h
            refine r_lconst (pc := 380) (v := 1) C d_La_law_380 rfl ?_
            refine r_goto (pc := 381) (tgt := 385) C d_La_law_381 (by decide) ?_
            refine r_lcmp (pc := 385) C d_La_law_385 ?_
            refine r_if_eq (pc := 386) (tgt := 391) C d_La_law_386 (by decide) (fun c51 => ?_) (fun c51 => ?_)
            · replace h := ip c51 h
              refine r_goto (pc := 391) (tgt := 865) C d_La_law_391 (by decide) ?_
              refine r_iincK (pc := 865) (w0 := 4) (lv' := [(4, .int (i + 4)), (6, .int q48.1), (5, .int q47.1), (0, .ref b), (1, .ref (ad 20)), (2, .ref (am 11)), (3, .ref (ad 21))]) C d_La_law_865 (by decide) 6 rfl (by decide) rfl ?_
              refine r_goto (pc := 868) (tgt := 33) C d_La_law_868 (by decide) ?_
              refine r_loc (lv' := [(0, .ref b), (1, .ref (ad 20)), (2, .ref (am 11)), (3, .ref (ad 21)), (4, .int (i + 4))]) [3, 4, 5, 6, 0] rfl ?_
              refine r_widen (k1 := cells + 2) (n1 := slots + 12) (by show cells + 2 + 0 + 0 ≤ cells + 2; omega) (by show slots + 12 + 0 + 0 ≤ slots + 12; omega) ?_
              exact ih _ _ _ _ _ _ _ _ _ _ _ _ _ _ _ _ _ h
            · replace h := iN c51 h
              refine r_iconst (pc := 389) (v := 0) C d_La_law_389 (by decide) ?_
              exact absurd h (by decide)
      · replace h := iN c55 h
        refine r_iconst (pc := 365) (v := 0) C d_La_law_365 (by decide) ?_
        exact absurd h (by decide)
    · replace h := iN c64 h
      refine r_iconst (pc := 346) (v := 1) C d_La_law_346 (by decide) ?_
      refine r_goto (pc := 347) (tgt := 351) C d_La_law_347 (by decide) ?_
      obtain ⟨q56, hq56, h⟩ := ob h
      refine r_perm lw_cm ?_
      refine r_callV (pc := 351) (As := [.int (xs (i + (1 : Int32)).toNatClampNeg), .int (1)]) (rest := []) (st1 := [.int q56.1]) hE gg_good C hX (c_Mo_leave_M hE hq56) ml_30 ml_31 ml_32 ml_3 ml_33 hd_Mo_leave 11 rfl rfl ⟨⟨(Nat.le_of_ble_eq_true rfl), (Nat.le_of_ble_eq_true rfl)⟩, (by show cells + 2 + 0 ≤ 1067; omega), (by show slots + 12 + 0 ≤ 9128; omega)⟩ (Nat.le_of_ble_eq_true rfl) rfl rfl d_La_law_351 ?_
      refine r_perm lw_mc ?_
      refine r_istore (pc := 354) (lv' := [(6, .int q56.1), (5, .int q47.1), (0, .ref b), (1, .ref (ad 20)), (2, .ref (am 11)), (3, .ref (ad 21)), (4, .int i)]) C d_La_law_354 (by decide) rfl ?_
      refine r_aload_n (pc := 356) C d_La_law_356 rfl 4 rfl ?_
      obtain ⟨q57, hq57, h⟩ := ob h
      refine r_perm lw_cm ?_
      refine r_callV (pc := 357) (As := []) (rest := []) (st1 := [.int q57]) hE gg_good C hX (c_Mo_thrown_M hE hq57) ml_0 ml_1 ml_2 ml_3 ml_4 hd_Mo_thrown 11 rfl rfl ⟨⟨(Nat.le_of_ble_eq_true rfl), (Nat.le_of_ble_eq_true rfl)⟩, (by show cells + 2 + 0 + 0 ≤ 1067; omega), (by show slots + 12 + 0 + 0 ≤ 9128; omega)⟩ (Nat.le_of_ble_eq_true rfl) rfl rfl d_La_law_357 ?_
      refine r_perm lw_mc ?_
      refine r_iload (pc := 360) C d_La_law_360 1 rfl ?_
      refine r_icmp_eq (pc := 362) (tgt := 367) C d_La_law_362 (by decide) (fun c63 => ?_) (fun c63 => ?_)
      · replace h := ip c63 h
        refine r_iload (pc := 367) C d_La_law_367 1 rfl ?_
        refine r_if_ne (pc := 369) (tgt := 391) C d_La_law_369 (by decide) (fun c62 => ?_) (fun c62 => ?_)
        · replace h := iN c62 h
          refine r_goto (pc := 391) (tgt := 865) C d_La_law_391 (by decide) ?_
          refine r_iincK (pc := 865) (w0 := 4) (lv' := [(4, .int (i + 4)), (6, .int q56.1), (5, .int q47.1), (0, .ref b), (1, .ref (ad 20)), (2, .ref (am 11)), (3, .ref (ad 21))]) C d_La_law_865 (by decide) 6 rfl (by decide) rfl ?_
          refine r_goto (pc := 868) (tgt := 33) C d_La_law_868 (by decide) ?_
          refine r_loc (lv' := [(0, .ref b), (1, .ref (ad 20)), (2, .ref (am 11)), (3, .ref (ad 21)), (4, .int (i + 4))]) [3, 4, 5, 6, 0] rfl ?_
          refine r_widen (k1 := cells + 2) (n1 := slots + 12) (by show cells + 2 + 0 + 0 ≤ cells + 2; omega) (by show slots + 12 + 0 + 0 ≤ slots + 12; omega) ?_
          exact ih _ _ _ _ _ _ _ _ _ _ _ _ _ _ _ _ _ h
        · replace h := ip c62 h
          refine r_aload_n (pc := 372) C d_La_law_372 rfl 5 rfl ?_
          refine r_iconst (pc := 373) (v := 0) C d_La_law_373 (by decide) ?_
          obtain ⟨hi61, h⟩ := ign h
          refine r_lald (pc := 374) C 21 2 rfl rfl hi61 d_La_law_374 ?_
          refine r_iload (pc := 375) C d_La_law_375 0 rfl ?_
          refine r_if_eq (pc := 377) (tgt := 384) C d_La_law_377 (by decide) (fun c60 => ?_) (fun c60 => ?_)
          · replace h := ip c60 h
            refine r_lconst (pc := 384) (v := 0) C d_La_law_384 rfl ?_
            refine r_lcmp (pc := 385) C d_La_law_385 ?_
            refine r_if_eq (pc := 386) (tgt := 391) C d_La_law_386 (by decide) (fun c58 => ?_) (fun c58 => ?_)
            · replace h := ip c58 h
              refine r_goto (pc := 391) (tgt := 865) C d_La_law_391 (by decide) ?_
              refine r_iincK (pc := 865) (w0 := 4) (lv' := [(4, .int (i + 4)), (6, .int q56.1), (5, .int q47.1), (0, .ref b), (1, .ref (ad 20)), (2, .ref (am 11)), (3, .ref (ad 21))]) C d_La_law_865 (by decide) 6 rfl (by decide) rfl ?_
              refine r_goto (pc := 868) (tgt := 33) C d_La_law_868 (by decide) ?_
              refine r_loc (lv' := [(0, .ref b), (1, .ref (ad 20)), (2, .ref (am 11)), (3, .ref (ad 21)), (4, .int (i + 4))]) [3, 4, 5, 6, 0] rfl ?_
              refine r_widen (k1 := cells + 2) (n1 := slots + 12) (by show cells + 2 + 0 + 0 ≤ cells + 2; omega) (by show slots + 12 + 0 + 0 ≤ slots + 12; omega) ?_
              exact ih _ _ _ _ _ _ _ _ _ _ _ _ _ _ _ _ _ h
            · replace h := iN c58 h
              refine r_iconst (pc := 389) (v := 0) C d_La_law_389 (by decide) ?_
              exact absurd h (by decide)
          · replace h := iN c60 h
            refine r_lconst (pc := 380) (v := 1) C d_La_law_380 rfl ?_
            refine r_goto (pc := 381) (tgt := 385) C d_La_law_381 (by decide) ?_
            refine r_lcmp (pc := 385) C d_La_law_385 ?_
            refine r_if_eq (pc := 386) (tgt := 391) C d_La_law_386 (by decide) (fun c59 => ?_) (fun c59 => ?_)
            · replace h := ip c59 h
              refine r_goto (pc := 391) (tgt := 865) C d_La_law_391 (by decide) ?_
              refine r_iincK (pc := 865) (w0 := 4) (lv' := [(4, .int (i + 4)), (6, .int q56.1), (5, .int q47.1), (0, .ref b), (1, .ref (ad 20)), (2, .ref (am 11)), (3, .ref (ad 21))]) C d_La_law_865 (by decide) 6 rfl (by decide) rfl ?_
              refine r_goto (pc := 868) (tgt := 33) C d_La_law_868 (by decide) ?_
              refine r_loc (lv' := [(0, .ref b), (1, .ref (ad 20)), (2, .ref (am 11)), (3, .ref (ad 21)), (4, .int (i + 4))]) [3, 4, 5, 6, 0] rfl ?_
              refine r_widen (k1 := cells + 2) (n1 := slots + 12) (by show cells + 2 + 0 + 0 ≤ cells + 2; omega) (by show slots + 12 + 0 + 0 ≤ slots + 12; omega) ?_
              exact ih _ _ _ _ _ _ _ _ _ _ _ _ _ _ _ _ _ h
            · replace h := iN c59 h
              refine r_iconst (pc := 389) (v := 0) C d_La_law_389 (by decide) ?_
              exact absurd h (by decide)
      · replace h := iN c63 h
        refine r_iconst (pc := 365) (v := 0) C d_La_law_365 (by decide) ?_
        exact absurd h (by decide)
