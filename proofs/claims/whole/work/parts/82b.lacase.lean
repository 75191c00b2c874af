def lk_394 (L : Nat) (xs : Nat → Int32) (rec : LSt → Option Int32) (i : Int32) (x : Int32) (s : Int64) (d : DD) (o : (Nat → Int32)) (t : TT) (s2 : Int64) (d2 : DD) (w : (Nat → Int64)) (mk : Int32) (mu : Int64) (mz : Int32) (mw : Int32) (mo : (Nat → Int32)) (md : MD) (mr : MR) (mp : MP) : Option Int32 :=
  Option.bind (f_SD_conditions d o t) (fun q70 => Option.bind (f_Mo_conditions mo md mp) (fun q71 => (if q70.1 = q71.1 then rec (i + 4, x, s, d, o, q70.2, s2, d2, w, q71.2.1, mu, mz, mw, mo, md, mr, q71.2.2) else some 0)))
set_option maxHeartbeats 4000000 in
set_option maxRecDepth 100000 in
theorem vk_394 {l : Launch} {D : va_G} {A : Nat → Prop} {cI cZ cJ : ClassId} {sg : State} (h0 : tw sg) (hA0 : ∀ q, A q → sg.heap.size ≤ q) (hlT : l.stackTraces = false) {p : Program} {e : Env} {m : MethodId} {b L : Nat} {xs : Nat → Int32} {below : List Frame} {meth : Method} {c : Code} (C : cx p sg m #[Value.ref b] meth c D clsA (TY cI cZ cJ) A GG R_La code 7) (hr : meth.sig.returnType = ret) (hS : va_X b L xs sg sg.heap) (hbl : b < sg.heap.size) {ad am : Nat → Nat} {cells slots : Nat} (hc : cells + 2 ≤ 1067) (hs : slots + 12 ≤ 9128) {rec : LSt → Option Int32} (ih : ∀ (i : Int32) (x : Int32) (s : Int64) (d : DD) (o : (Nat → Int32)) (t : TT) (s2 : Int64) (d2 : DD) (w : (Nat → Int64)) (mk : Int32) (mu : Int64) (mz : Int32) (mw : Int32) (mo : (Nat → Int32)) (md : MD) (mr : MR) (mp : MP), rec (i, x, s, d, o, t, s2, d2, w, mk, mu, mz, mw, mo, md, mr, mp) = some 1 → vv p l e room_1 sg m #[Value.ref b] below meth c D clsA A 7 (cells + 2) (slots + 12) (lw_Z below #[Value.ref b] sg) 33 [(0, .ref b), (1, .ref (ad 20)), (2, .ref (am 11)), (3, .ref (ad 21)), (4, .int i)] [] (WC ad cI cZ x s d o t s2 d2 ((ad 21, .inl (cJ, 1, .inr (.inl w))) :: WM am cI cZ mk mu mz mw mo md mr mp []))) (i : Int32) (x : Int32) (s : Int64) (d : DD) (o : (Nat → Int32)) (t : TT) (s2 : Int64) (d2 : DD) (w : (Nat → Int64)) (mk : Int32) (mu : Int64) (mz : Int32) (mw : Int32) (mo : (Nat → Int32)) (md : MD) (mr : MR) (mp : MP) (h : lk_394 L xs rec i x s d o t s2 d2 w mk mu mz mw mo md mr mp = some 1) : vv p l e room_1 sg m #[Value.ref b] below meth c D clsA A 7 (cells) (slots) (lw_Z below #[Value.ref b] sg) 394 [(0, .ref b), (1, .ref (ad 20)), (2, .ref (am 11)), (3, .ref (ad 21)), (4, .int i)] [] (WC ad cI cZ x s d o t s2 d2 ((ad 21, .inl (cJ, 1, .inr (.inl w))) :: WM am cI cZ mk mu mz mw mo md mr mp [])) := by
  have hE := lat_stb hA0
  have hX : lat sg sg sg.heap := ⟨State.WarmedH.refl sg, Nat.le_refl _, fun _ _ => rfl⟩
  have hbA : ¬ A b := fun h9 => Nat.not_le_of_lt hbl (hA0 b h9)
  unfold lk_394 at h
  refine r_aload_n (pc := 394) C d_La_law_394 rfl 1 rfl ?_
  obtain ⟨q70, hq70, h⟩ := ob h
  refine r_callV (pc := 395) (As := []) (rest := []) (st1 := [.int q70.1]) hE gg_good C hX (c_SD_conditions_X hE hq70) ml_41 ml_42 ml_43 ml_21 ml_44 hd_SD_conditions 20 rfl rfl ⟨⟨(Nat.le_of_ble_eq_true rfl), (Nat.le_of_ble_eq_true rfl)⟩, (by show cells + 0 ≤ 1067; omega), (by show slots + 0 ≤ 9128; omega)⟩ (Nat.le_of_ble_eq_true rfl) rfl rfl d_La_law_395 ?_
  refine r_aload_n (pc := 398) C d_La_law_398 rfl 2 rfl ?_
  obtain ⟨q71, hq71, h⟩ := ob h
  refine r_perm lw_cm ?_
  refine r_callV (pc := 399) (As := []) (rest := [.int q70.1]) (st1 := [.int q71.1, .int q70.1]) hE gg_good C hX (c_Mo_conditions_M hE hq71) ml_37 ml_38 ml_39 ml_3 ml_40 hd_Mo_conditions 11 rfl rfl ⟨⟨(Nat.le_of_ble_eq_true rfl), (Nat.le_of_ble_eq_true rfl)⟩, (by show cells + 0 + 0 ≤ 1067; omega), (by show slots + 0 + 0 ≤ 9128; omega)⟩ (Nat.le_of_ble_eq_true rfl) rfl rfl d_La_law_399 ?_
  refine r_perm lw_mc ?_
  refine r_icmp_eq (pc := 402) (tgt := 865) C d_La_law_402 (by decide) (fun c72 => ?_) (fun c72 => ?_)
  · replace h := ip c72 h
    refine r_iincK (pc := 865) (w0 := 4) (lv' := [(4, .int (i + 4)), (0, .ref b), (1, .ref (ad 20)), (2, .ref (am 11)), (3, .ref (ad 21))]) C d_La_law_865 (by decide) 4 rfl (by decide) rfl ?_
    refine r_goto (pc := 868) (tgt := 33) C d_La_law_868 (by decide) ?_
    refine r_loc (lv' := [(0, .ref b), (1, .ref (ad 20)), (2, .ref (am 11)), (3, .ref (ad 21)), (4, .int (i + 4))]) [1, 2, 3, 4, 0] rfl ?_
    refine r_widen (k1 := cells + 2) (n1 := slots + 12) (by show cells + 0 + 0 ≤ cells + 2; omega) (by show slots + 0 + 0 ≤ slots + 12; omega) ?_
    exact ih _ _ _ _ _ _ _ _ _ _ _ _ _ _ _ _ _ h
  · replace h := iN c72 h
    refine r_iconst (pc := 405) (v := 0) C d_La_law_405 (by decide) ?_
    exact absurd h (by decide)
def lk_407 (L : Nat) (xs : Nat → Int32) (rec : LSt → Option Int32) (i : Int32) (x : Int32) (s : Int64) (d : DD) (o : (Nat → Int32)) (t : TT) (s2 : Int64) (d2 : DD) (w : (Nat → Int64)) (mk : Int32) (mu : Int64) (mz : Int32) (mw : Int32) (mo : (Nat → Int32)) (md : MD) (mr : MR) (mp : MP) : Option Int32 :=
  (if ((i + (1 : Int32)) < 0 ∨ L ≤ (i + (1 : Int32)).toNatClampNeg) then none else Option.bind (f_La_verdict x d o t w (xs (i + (1 : Int32)).toNatClampNeg)) (fun q73 => (if ((i + (1 : Int32)) < 0 ∨ L ≤ (i + (1 : Int32)).toNatClampNeg) then none else Option.bind (f_Mo_verdict mk mw mo md mp (xs (i + (1 : Int32)).toNatClampNeg)) (fun q74 => Option.bind (f_Mo_thrown q74.2.1) (fun q75 => (if q75 = q73.1 then (if q73.1 = 0 then (if ((0 : Int32) < 0 ∨ 1 ≤ (0 : Int32).toNatClampNeg) then none else (if q74.1 = 0 then (if lg_cmp (q73.2.2.2 (0 : Int32).toNatClampNeg) (0 : Int64) = 0 then rec (i + 4, q73.2.1, s, d, o, q73.2.2.1, s2, d2, q73.2.2.2, q74.2.1, mu, mz, q74.2.2.1, mo, md, mr, q74.2.2.2) else some 0) else (if lg_cmp (q73.2.2.2 (0 : Int32).toNatClampNeg) (1 : Int64) = 0 then rec (i + 4, q73.2.1, s, d, o, q73.2.2.1, s2, d2, q73.2.2.2, q74.2.1, mu, mz, q74.2.2.1, mo, md, mr, q74.2.2.2) else some 0))) else rec (i + 4, q73.2.1, s, d, o, q73.2.2.1, s2, d2, q73.2.2.2, q74.2.1, mu, mz, q74.2.2.1, mo, md, mr, q74.2.2.2)) else some 0))))))
set_option maxHeartbeats 4000000 in
set_option maxRecDepth 100000 in
theorem vk_407 {l : Launch} {D : va_G} {A : Nat → Prop} {cI cZ cJ : ClassId} {sg : State} (h0 : tw sg) (hA0 : ∀ q, A q → sg.heap.size ≤ q) (hlT : l.stackTraces = false) {p : Program} {e : Env} {m : MethodId} {b L : Nat} {xs : Nat → Int32} {below : List Frame} {meth : Method} {c : Code} (C : cx p sg m #[Value.ref b] meth c D clsA (TY cI cZ cJ) A GG R_La code 7) (hr : meth.sig.returnType = ret) (hS : va_X b L xs sg sg.heap) (hbl : b < sg.heap.size) {ad am : Nat → Nat} {cells slots : Nat} (hc : cells + 2 ≤ 1067) (hs : slots + 12 ≤ 9128) {rec : LSt → Option Int32} (ih : ∀ (i : Int32) (x : Int32) (s : Int64) (d : DD) (o : (Nat → Int32)) (t : TT) (s2 : Int64) (d2 : DD) (w : (Nat → Int64)) (mk : Int32) (mu : Int64) (mz : Int32) (mw : Int32) (mo : (Nat → Int32)) (md : MD) (mr : MR) (mp : MP), rec (i, x, s, d, o, t, s2, d2, w, mk, mu, mz, mw, mo, md, mr, mp) = some 1 → vv p l e room_1 sg m #[Value.ref b] below meth c D clsA A 7 (cells + 2) (slots + 12) (lw_Z below #[Value.ref b] sg) 33 [(0, .ref b), (1, .ref (ad 20)), (2, .ref (am 11)), (3, .ref (ad 21)), (4, .int i)] [] (WC ad cI cZ x s d o t s2 d2 ((ad 21, .inl (cJ, 1, .inr (.inl w))) :: WM am cI cZ mk mu mz mw mo md mr mp []))) (i : Int32) (x : Int32) (s : Int64) (d : DD) (o : (Nat → Int32)) (t : TT) (s2 : Int64) (d2 : DD) (w : (Nat → Int64)) (mk : Int32) (mu : Int64) (mz : Int32) (mw : Int32) (mo : (Nat → Int32)) (md : MD) (mr : MR) (mp : MP) (h : lk_407 L xs rec i x s d o t s2 d2 w mk mu mz mw mo md mr mp = some 1) : vv p l e room_1 sg m #[Value.ref b] below meth c D clsA A 7 (cells) (slots) (lw_Z below #[Value.ref b] sg) 407 [(0, .ref b), (1, .ref (ad 20)), (2, .ref (am 11)), (3, .ref (ad 21)), (4, .int i)] [] (WC ad cI cZ x s d o t s2 d2 ((ad 21, .inl (cJ, 1, .inr (.inl w))) :: WM am cI cZ mk mu mz mw mo md mr mp [])) := by
  have hE := lat_stb hA0
  have hX : lat sg sg sg.heap := ⟨State.WarmedH.refl sg, Nat.le_refl _, fun _ _ => rfl⟩
  have hbA : ¬ A b := fun h9 => Nat.not_le_of_lt hbl (hA0 b h9)
  unfold lk_407 at h
  refine r_aload_n (pc := 407) C d_La_law_407 rfl 1 rfl ?_
  refine r_aload_n (pc := 408) C d_La_law_408 rfl 0 rfl ?_
  refine r_iload (pc := 409) C d_La_law_409 4 rfl ?_
  refine r_iconst (pc := 411) (v := 1) C d_La_law_411 (by decide) ?_
  refine r_iadd (pc := 412) C d_La_law_412 ?_
  obtain ⟨hi83, h⟩ := ign h
  refine r_sld (pc := 413) C hS hbl hbA hi83 d_La_law_413 ?_
  refine r_aload_n (pc := 414) C d_La_law_414 rfl 3 rfl ?_
  obtain ⟨q73, hq73, h⟩ := ob h
  refine r_callSw (pc := 415) (As := [.ref (ad 20), .int (xs (i + (1 : Int32)).toNatClampNeg), .ref (ad 21)]) (rest := []) (st1 := [.int q73.1]) hE gg_good C hX (c_La_verdict_X h0 hA0 hlT hq73) ml_49 ml_50 ml_11 ml_51 hd_La_verdict ⟨⟨(Nat.le_of_ble_eq_true rfl), (Nat.le_of_ble_eq_true rfl)⟩, (by show cells + 1 ≤ 1067; omega), (by show slots + 6 ≤ 9128; omega)⟩ (Nat.le_of_ble_eq_true rfl) rfl rfl d_La_law_415 ?_
  refine r_istore (pc := 418) (lv' := [(5, .int q73.1), (0, .ref b), (1, .ref (ad 20)), (2, .ref (am 11)), (3, .ref (ad 21)), (4, .int i)]) C d_La_law_418 (by decide) rfl ?_
  refine r_aload_n (pc := 420) C d_La_law_420 rfl 3 rfl ?_
  refine r_aload_n (pc := 421) C d_La_law_421 rfl 1 rfl ?_
  refine r_iload (pc := 422) C d_La_law_422 5 rfl ?_
  refine r_iconst (pc := 424) (v := 1) C d_La_law_424 (by decide) ?_
  refine r_iadd (pc := 425) C d_La_law_425 ?_
  obtain ⟨hi82, h⟩ := ign h
  refine r_sld (pc := 426) C hS hbl hbA hi82 d_La_law_426 ?_
  obtain ⟨q74, hq74, h⟩ := ob h
  refine r_perm lw_cm ?_
  refine r_callV (pc := 427) (As := [.int (xs (i + (1 : Int32)).toNatClampNeg)]) (rest := []) (st1 := [.int q74.1]) hE gg_good C hX (c_Mo_verdict_M hE hq74) ml_45 ml_46 ml_47 ml_3 ml_48 hd_Mo_verdict 11 rfl rfl ⟨⟨(Nat.le_of_ble_eq_true rfl), (Nat.le_of_ble_eq_true rfl)⟩, (by show cells + 1 + 0 ≤ 1067; omega), (by show slots + 6 + 0 ≤ 9128; omega)⟩ (Nat.le_of_ble_eq_true rfl) rfl rfl d_La_law_427 ?_
  refine r_perm lw_mc ?_
  refine r_istore (pc := 430) (lv' := [(6, .int q74.1), (5, .int q73.1), (0, .ref b), (1, .ref (ad 20)), (2, .ref (am 11)), (3, .ref (ad 21)), (4, .int i)]) C d_La_law_430 (by decide) rfl ?_
  refine r_aload_n (pc := 432) C d_La_law_432 rfl 4 rfl ?_
  obtain ⟨q75, hq75, h⟩ := ob h
  refine r_perm lw_cm ?_
  refine r_callV (pc := 433) (As := []) (rest := []) (st1 := [.int q75]) hE gg_good C hX (c_Mo_thrown_M hE hq75) ml_0 ml_1 ml_2 ml_3 ml_4 hd_Mo_thrown 11 rfl rfl ⟨⟨(Nat.le_of_ble_eq_true rfl), (Nat.le_of_ble_eq_true rfl)⟩, (by show cells + 1 + 0 + 0 ≤ 1067; omega), (by show slots + 6 + 0 + 0 ≤ 9128; omega)⟩ (Nat.le_of_ble_eq_true rfl) rfl rfl d_La_law_433 ?_
  refine r_perm lw_mc ?_
  refine r_iload (pc := 436) C d_La_law_436 1 rfl ?_
  refine r_icmp_eq (pc := 438) (tgt := 443) C d_La_law_438 (by decide) (fun c81 => ?_) (fun c81 => ?_)
  · replace h := ip c81 h
    refine r_iload (pc := 443) C d_La_law_443 1 rfl ?_
    refine r_if_ne (pc := 445) (tgt := 467) C d_La_law_445 (by decide) (fun c80 => ?_) (fun c80 => ?_)
    · replace h := iN c80 h
      refine r_goto (pc := 467) (tgt := 865) C d_La_law_467 (by decide) ?_
      refine r_iincK (pc := 865) (w0 := 4) (lv' := [(4, .int (i + 4)), (6, .int q74.1), (5, .int q73.1), (0, .ref b), (1, .ref (ad 20)), (2, .ref (am 11)), (3, .ref (ad 21))]) C d_La_law_865 (by decide) 6 rfl (by decide) rfl ?_
      refine r_goto (pc := 868) (tgt := 33) C d_La_law_868 (by decide) ?_
      refine r_loc (lv' := [(0, .ref b), (1, .ref (ad 20)), (2, .ref (am 11)), (3, .ref (ad 21)), (4, .int (i + 4))]) [3, 4, 5, 6, 0] rfl ?_
      refine r_widen (k1 := cells + 2) (n1 := slots + 12) (by show cells + 1 + 0 + 0 ≤ cells + 2; omega) (by show slots + 6 + 0 + 0 ≤ slots + 12; omega) ?_
      exact ih _ _ _ _ _ _ _ _ _ _ _ _ _ _ _ _ _ h
    · replace h := ip c80 h
      refine r_aload_n (pc := 448) C d_La_law_448 rfl 5 rfl ?_
      refine r_iconst (pc := 449) (v := 0) C d_La_law_449 (by decide) ?_
      obtain ⟨hi79, h⟩ := ign h
      refine r_lald (pc := 450) C 21 2 rfl rfl hi79 d_La_law_450 ?_
      refine r_iload (pc := 451) C d_La_law_451 0 rfl ?_
      refine r_if_eq (pc := 453) (tgt := 460) C d_La_law_453 (by decide) (fun c78 => ?_) (fun c78 => ?_)
      · replace h := ip c78 h
        refine r_lconst (pc := 460) (v := 0) C d_La_law_460 rfl ?_
        refine r_lcmp (pc := 461) C d_La_law_461 ?_
        refine r_if_eq (pc := 462) (tgt := 467) C d_La_law_462 (by decide) (fun c76 => ?_) (fun c76 => ?_)
        · replace h := ip c76 h
          refine r_goto (pc := 467) (tgt := 865) C d_La_law_467 (by decide) ?_
          refine r_iincK (pc := 865) (w0 := 4) (lv' := [(4, .int (i + 4)), (6, .int q74.1), (5, .int q73.1), (0, .ref b), (1, .ref (ad 20)), (2, .ref (am 11)), (3, .ref (ad 21))]) C d_La_law_865 (by decide) 6 rfl (by decide) rfl ?_
          refine r_goto (pc := 868) (tgt := 33) C d_La_law_868 (by decide) ?_
          refine r_loc (lv' := [(0, .ref b), (1, .ref (ad 20)), (2, .ref (am 11)), (3, .ref (ad 21)), (4, .int (i + 4))]) [3, 4, 5, 6, 0] rfl ?_
          refine r_widen (k1 := cells + 2) (n1 := slots + 12) (by show cells + 1 + 0 + 0 ≤ cells + 2; omega) (by show slots + 6 + 0 + 0 ≤ slots + 12; omega) ?_
          exact ih _ _ _ _ _ _ _ _ _ _ _ _ _ _ _ _ _ h
        · replace h := iN c76 h
          refine r_iconst (pc := 465) (v := 0) C d_La_law_465 (by decide) ?_
          exact absurd h (by decide)
      · replace h := iN c78 h
        refine r_lconst (pc := 456) (v := 1) C d_La_law_456 rfl ?_
        refine r_goto (pc := 457) (tgt := 461) C d_La_law_457 (by decide) ?_
        refine r_lcmp (pc := 461) C d_La_law_461 ?_
        refine r_if_eq (pc := 462) (tgt := 467) C d_La_law_462 (by decide) (fun c77 => ?_) (fun c77 => ?_)
        · replace h := ip c77 h
          refine r_goto (pc := 467) (tgt := 865) C d_La_law_467 (by decide) ?_
          refine r_iincK (pc := 865) (w0 := 4) (lv' := [(4, .int (i + 4)), (6, .int q74.1), (5, .int q73.1), (0, .ref b), (1, .ref (ad 20)), (2, .ref (am 11)), (3, .ref (ad 21))]) C d_La_law_865 (by decide) 6 rfl (by decide) rfl ?_
          refine r_goto (pc := 868) (tgt := 33) C d_La_law_868 (by decide) ?_
          refine r_loc (lv' := [(0, .ref b), (1, .ref (ad 20)), (2, .ref (am 11)), (3, .ref (ad 21)), (4, .int (i + 4))]) [3, 4, 5, 6, 0] rfl ?_
          refine r_widen (k1 := cells + 2) (n1 := slots + 12) (by show cells + 1 + 0 + 0 ≤ cells + 2; omega) (by show slots + 6 + 0 + 0 ≤ slots + 12; omega) ?_
          exact ih _ _ _ _ _ _ _ _ _ _ _ _ _ _ _ _ _ h
        · replace h := iN c77 h
          refine r_iconst (pc := 465) (v := 0) C d_La_law_465 (by decide) ?_
          exact absurd h (by decide)
  · replace h := iN c81 h
    refine r_iconst (pc := 441) (v := 0) C d_La_law_441 (by decide) ?_
    exact absurd h (by decide)
def lk_470 (L : Nat) (xs : Nat → Int32) (rec : LSt → Option Int32) (i : Int32) (x : Int32) (s : Int64) (d : DD) (o : (Nat → Int32)) (t : TT) (s2 : Int64) (d2 : DD) (w : (Nat → Int64)) (mk : Int32) (mu : Int64) (mz : Int32) (mw : Int32) (mo : (Nat → Int32)) (md : MD) (mr : MR) (mp : MP) : Option Int32 :=
  Option.bind (f_SD_holds x d o t) (fun q84 => Option.bind (f_Mo_holds mw mo md mp) (fun q85 => (if q84.1 = q85.1 then rec (i + 4, x, s, d, o, q84.2, s2, d2, w, q85.2.1, mu, mz, mw, mo, md, mr, q85.2.2) else some 0)))
set_option maxHeartbeats 4000000 in
set_option maxRecDepth 100000 in
theorem vk_470 {l : Launch} {D : va_G} {A : Nat → Prop} {cI cZ cJ : ClassId} {sg : State} (h0 : tw sg) (hA0 : ∀ q, A q → sg.heap.size ≤ q) (hlT : l.stackTraces = false) {p : Program} {e : Env} {m : MethodId} {b L : Nat} {xs : Nat → Int32} {below : List Frame} {meth : Method} {c : Code} (C : cx p sg m #[Value.ref b] meth c D clsA (TY cI cZ cJ) A GG R_La code 7) (hr : meth.sig.returnType = ret) (hS : va_X b L xs sg sg.heap) (hbl : b < sg.heap.size) {ad am : Nat → Nat} {cells slots : Nat} (hc : cells + 2 ≤ 1067) (hs : slots + 12 ≤ 9128) {rec : LSt → Option Int32} (ih : ∀ (i : Int32) (x : Int32) (s : Int64) (d : DD) (o : (Nat → Int32)) (t : TT) (s2 : Int64) (d2 : DD) (w : (Nat → Int64)) (mk : Int32) (mu : Int64) (mz : Int32) (mw : Int32) (mo : (Nat → Int32)) (md : MD) (mr : MR) (mp : MP), rec (i, x, s, d, o, t, s2, d2, w, mk, mu, mz, mw, mo, md, mr, mp) = some 1 → vv p l e room_1 sg m #[Value.ref b] below meth c D clsA A 7 (cells + 2) (slots + 12) (lw_Z below #[Value.ref b] sg) 33 [(0, .ref b), (1, .ref (ad 20)), (2, .ref (am 11)), (3, .ref (ad 21)), (4, .int i)] [] (WC ad cI cZ x s d o t s2 d2 ((ad 21, .inl (cJ, 1, .inr (.inl w))) :: WM am cI cZ mk mu mz mw mo md mr mp []))) (i : Int32) (x : Int32) (s : Int64) (d : DD) (o : (Nat → Int32)) (t : TT) (s2 : Int64) (d2 : DD) (w : (Nat → Int64)) (mk : Int32) (mu : Int64) (mz : Int32) (mw : Int32) (mo : (Nat → Int32)) (md : MD) (mr : MR) (mp : MP) (h : lk_470 L xs rec i x s d o t s2 d2 w mk mu mz mw mo md mr mp = some 1) : vv p l e room_1 sg m #[Value.ref b] below meth c D clsA A 7 (cells) (slots) (lw_Z below #[Value.ref b] sg) 470 [(0, .ref b), (1, .ref (ad 20)), (2, .ref (am 11)), (3, .ref (ad 21)), (4, .int i)] [] (WC ad cI cZ x s d o t s2 d2 ((ad 21, .inl (cJ, 1, .inr (.inl w))) :: WM am cI cZ mk mu mz mw mo md mr mp [])) := by
  have hE := lat_stb hA0
  have hX : lat sg sg sg.heap := ⟨State.WarmedH.refl sg, Nat.le_refl _, fun _ _ => rfl⟩
  have hbA : ¬ A b := fun h9 => Nat.not_le_of_lt hbl (hA0 b h9)
  unfold lk_470 at h
  refine r_aload_n (pc := 470) C d_La_law_470 rfl 1 rfl ?_
  obtain ⟨q84, hq84, h⟩ := ob h
  refine r_callV (pc := 471) (As := []) (rest := []) (st1 := [.int q84.1]) hE gg_good C hX (c_SD_holds_X hE hq84) ml_56 ml_57 ml_58 ml_21 ml_59 hd_SD_holds 20 rfl rfl ⟨⟨(Nat.le_of_ble_eq_true rfl), (Nat.le_of_ble_eq_true rfl)⟩, (by show cells + 0 ≤ 1067; omega), (by show slots + 0 ≤ 9128; omega)⟩ (Nat.le_of_ble_eq_true rfl) rfl rfl d_La_law_471 ?_
  refine r_aload_n (pc := 474) C d_La_law_474 rfl 2 rfl ?_
  obtain ⟨q85, hq85, h⟩ := ob h
  refine r_perm lw_cm ?_
  refine r_callV (pc := 475) (As := []) (rest := [.int q84.1]) (st1 := [.int q85.1, .int q84.1]) hE gg_good C hX (c_Mo_holds_M hE hq85) ml_52 ml_53 ml_54 ml_3 ml_55 hd_Mo_holds 11 rfl rfl ⟨⟨(Nat.le_of_ble_eq_true rfl), (Nat.le_of_ble_eq_true rfl)⟩, (by show cells + 0 + 0 ≤ 1067; omega), (by show slots + 0 + 0 ≤ 9128; omega)⟩ (Nat.le_of_ble_eq_true rfl) rfl rfl d_La_law_475 ?_
  refine r_perm lw_mc ?_
  refine r_icmp_eq (pc := 478) (tgt := 865) C d_La_law_478 (by decide) (fun c86 => ?_) (fun c86 => ?_)
  · replace h := ip c86 h
    refine r_iincK (pc := 865) (w0 := 4) (lv' := [(4, .int (i + 4)), (0, .ref b), (1, .ref (ad 20)), (2, .ref (am 11)), (3, .ref (ad 21))]) C d_La_law_865 (by decide) 4 rfl (by decide) rfl ?_
    refine r_goto (pc := 868) (tgt := 33) C d_La_law_868 (by decide) ?_
    refine r_loc (lv' := [(0, .ref b), (1, .ref (ad 20)), (2, .ref (am 11)), (3, .ref (ad 21)), (4, .int (i + 4))]) [1, 2, 3, 4, 0] rfl ?_
    refine r_widen (k1 := cells + 2) (n1 := slots + 12) (by show cells + 0 + 0 ≤ cells + 2; omega) (by show slots + 0 + 0 ≤ slots + 12; omega) ?_
    exact ih _ _ _ _ _ _ _ _ _ _ _ _ _ _ _ _ _ h
  · replace h := iN c86 h
    refine r_iconst (pc := 481) (v := 0) C d_La_law_481 (by decide) ?_
    exact absurd h (by decide)
def lk_483 (L : Nat) (xs : Nat → Int32) (rec : LSt → Option Int32) (i : Int32) (x : Int32) (s : Int64) (d : DD) (o : (Nat → Int32)) (t : TT) (s2 : Int64) (d2 : DD) (w : (Nat → Int64)) (mk : Int32) (mu : Int64) (mz : Int32) (mw : Int32) (mo : (Nat → Int32)) (md : MD) (mr : MR) (mp : MP) : Option Int32 :=
  Option.bind (f_La_shorter x d o t w) (fun q87 => Option.bind (f_Mo_shorter mk mw mo md mp) (fun q88 => Option.bind (f_Mo_thrown q88.2.1) (fun q89 => (if q89 = q87.1 then (if q87.1 = 0 then (if ((0 : Int32) < 0 ∨ 1 ≤ (0 : Int32).toNatClampNeg) then none else (if lg_cmp (q87.2.2.2 (0 : Int32).toNatClampNeg) (q88.1.toInt64) = 0 then rec (i + 4, x, s, d, q87.2.1, q87.2.2.1, s2, d2, q87.2.2.2, q88.2.1, mu, mz, mw, q88.2.2.1, md, mr, q88.2.2.2) else some 0)) else rec (i + 4, x, s, d, q87.2.1, q87.2.2.1, s2, d2, q87.2.2.2, q88.2.1, mu, mz, mw, q88.2.2.1, md, mr, q88.2.2.2)) else some 0))))
set_option maxHeartbeats 4000000 in
set_option maxRecDepth 100000 in
theorem vk_483 {l : Launch} {D : va_G} {A : Nat → Prop} {cI cZ cJ : ClassId} {sg : State} (h0 : tw sg) (hA0 : ∀ q, A q → sg.heap.size ≤ q) (hlT : l.stackTraces = false) {p : Program} {e : Env} {m : MethodId} {b L : Nat} {xs : Nat → Int32} {below : List Frame} {meth : Method} {c : Code} (C : cx p sg m #[Value.ref b] meth c D clsA (TY cI cZ cJ) A GG R_La code 7) (hr : meth.sig.returnType = ret) (hS : va_X b L xs sg sg.heap) (hbl : b < sg.heap.size) {ad am : Nat → Nat} {cells slots : Nat} (hc : cells + 2 ≤ 1067) (hs : slots + 12 ≤ 9128) {rec : LSt → Option Int32} (ih : ∀ (i : Int32) (x : Int32) (s : Int64) (d : DD) (o : (Nat → Int32)) (t : TT) (s2 : Int64) (d2 : DD) (w : (Nat → Int64)) (mk : Int32) (mu : Int64) (mz : Int32) (mw : Int32) (mo : (Nat → Int32)) (md : MD) (mr : MR) (mp : MP), rec (i, x, s, d, o, t, s2, d2, w, mk, mu, mz, mw, mo, md, mr, mp) = some 1 → vv p l e room_1 sg m #[Value.ref b] below meth c D clsA A 7 (cells + 2) (slots + 12) (lw_Z below #[Value.ref b] sg) 33 [(0, .ref b), (1, .ref (ad 20)), (2, .ref (am 11)), (3, .ref (ad 21)), (4, .int i)] [] (WC ad cI cZ x s d o t s2 d2 ((ad 21, .inl (cJ, 1, .inr (.inl w))) :: WM am cI cZ mk mu mz mw mo md mr mp []))) (i : Int32) (x : Int32) (s : Int64) (d : DD) (o : (Nat → Int32)) (t : TT) (s2 : Int64) (d2 : DD) (w : (Nat → Int64)) (mk : Int32) (mu : Int64) (mz : Int32) (mw : Int32) (mo : (Nat → Int32)) (md : MD) (mr : MR) (mp : MP) (h : lk_483 L xs rec i x s d o t s2 d2 w mk mu mz mw mo md mr mp = some 1) : vv p l e room_1 sg m #[Value.ref b] below meth c D clsA A 7 (cells) (slots) (lw_Z below #[Value.ref b] sg) 483 [(0, .ref b), (1, .ref (ad 20)), (2, .ref (am 11)), (3, .ref (ad 21)), (4, .int i)] [] (WC ad cI cZ x s d o t s2 d2 ((ad 21, .inl (cJ, 1, .inr (.inl w))) :: WM am cI cZ mk mu mz mw mo md mr mp [])) := by
  have hE := lat_stb hA0
  have hX : lat sg sg sg.heap := ⟨State.WarmedH.refl sg, Nat.le_refl _, fun _ _ => rfl⟩
  have hbA : ¬ A b := fun h9 => Nat.not_le_of_lt hbl (hA0 b h9)
  unfold lk_483 at h
  refine r_aload_n (pc := 483) C d_La_law_483 rfl 1 rfl ?_
  refine r_aload_n (pc := 484) C d_La_law_484 rfl 3 rfl ?_
  obtain ⟨q87, hq87, h⟩ := ob h
  refine r_callSw (pc := 485) (As := [.ref (ad 20), .ref (ad 21)]) (rest := []) (st1 := [.int q87.1]) hE gg_good C hX (c_La_shorter_X h0 hA0 hlT hq87) ml_64 ml_65 ml_11 ml_66 hd_La_shorter ⟨⟨(Nat.le_of_ble_eq_true rfl), (Nat.le_of_ble_eq_true rfl)⟩, (by show cells + 1 ≤ 1067; omega), (by show slots + 6 ≤ 9128; omega)⟩ (Nat.le_of_ble_eq_true rfl) rfl rfl d_La_law_485 ?_
  refine r_istore (pc := 488) (lv' := [(5, .int q87.1), (0, .ref b), (1, .ref (ad 20)), (2, .ref (am 11)), (3, .ref (ad 21)), (4, .int i)]) C d_La_law_488 (by decide) rfl ?_
  refine r_aload_n (pc := 490) C d_La_law_490 rfl 3 rfl ?_
  obtain ⟨q88, hq88, h⟩ := ob h
  refine r_perm lw_cm ?_
  refine r_callV (pc := 491) (As := []) (rest := []) (st1 := [.int q88.1]) hE gg_good C hX (c_Mo_shorter_M hE hq88) ml_60 ml_61 ml_62 ml_3 ml_63 hd_Mo_shorter 11 rfl rfl ⟨⟨(Nat.le_of_ble_eq_true rfl), (Nat.le_of_ble_eq_true rfl)⟩, (by show cells + 1 + 0 ≤ 1067; omega), (by show slots + 6 + 0 ≤ 9128; omega)⟩ (Nat.le_of_ble_eq_true rfl) rfl rfl d_La_law_491 ?_
  refine r_perm lw_mc ?_
  refine r_istore (pc := 494) (lv' := [(6, .int q88.1), (5, .int q87.1), (0, .ref b), (1, .ref (ad 20)), (2, .ref (am 11)), (3, .ref (ad 21)), (4, .int i)]) C d_La_law_494 (by decide) rfl ?_
  refine r_aload_n (pc := 496) C d_La_law_496 rfl 4 rfl ?_
  obtain ⟨q89, hq89, h⟩ := ob h
  refine r_perm lw_cm ?_
  refine r_callV (pc := 497) (As := []) (rest := []) (st1 := [.int q89]) hE gg_good C hX (c_Mo_thrown_M hE hq89) ml_0 ml_1 ml_2 ml_3 ml_4 hd_Mo_thrown 11 rfl rfl ⟨⟨(Nat.le_of_ble_eq_true rfl), (Nat.le_of_ble_eq_true rfl)⟩, (by show cells + 1 + 0 + 0 ≤ 1067; omega), (by show slots + 6 + 0 + 0 ≤ 9128; omega)⟩ (Nat.le_of_ble_eq_true rfl) rfl rfl d_La_law_497 ?_
  refine r_perm lw_mc ?_
  refine r_iload (pc := 500) C d_La_law_500 1 rfl ?_
  refine r_icmp_eq (pc := 502) (tgt := 507) C d_La_law_502 (by decide) (fun c93 => ?_) (fun c93 => ?_)
  · replace h := ip c93 h
    refine r_iload (pc := 507) C d_La_law_507 1 rfl ?_
    refine r_if_ne (pc := 509) (tgt := 524) C d_La_law_509 (by decide) (fun c92 => ?_) (fun c92 => ?_)
    · replace h := iN c92 h
      refine r_goto (pc := 524) (tgt := 865) C d_La_law_524 (by decide) ?_
      refine r_iincK (pc := 865) (w0 := 4) (lv' := [(4, .int (i + 4)), (6, .int q88.1), (5, .int q87.1), (0, .ref b), (1, .ref (ad 20)), (2, .ref (am 11)), (3, .ref (ad 21))]) C d_La_law_865 (by decide) 6 rfl (by decide) rfl ?_
      refine r_goto (pc := 868) (tgt := 33) C d_La_law_868 (by decide) ?_
      refine r_loc (lv' := [(0, .ref b), (1, .ref (ad 20)), (2, .ref (am 11)), (3, .ref (ad 21)), (4, .int (i + 4))]) [3, 4, 5, 6, 0] rfl ?_
      refine r_widen (k1 := cells + 2) (n1 := slots + 12) (by show cells + 1 + 0 + 0 ≤ cells + 2; omega) (by show slots + 6 + 0 + 0 ≤ slots + 12; omega) ?_
      exact ih _ _ _ _ _ _ _ _ _ _ _ _ _ _ _ _ _ h
    · replace h := ip c92 h
      refine r_aload_n (pc := 512) C d_La_law_512 rfl 5 rfl ?_
      refine r_iconst (pc := 513) (v := 0) C d_La_law_513 (by decide) ?_
      obtain ⟨hi91, h⟩ := ign h
      refine r_lald (pc := 514) C 21 2 rfl rfl hi91 d_La_law_514 ?_
      refine r_iload (pc := 515) C d_La_law_515 0 rfl ?_
      refine r_i2l (pc := 517) C d_La_law_517 ?_
      refine r_lcmp (pc := 518) C d_La_law_518 ?_
      refine r_if_eq (pc := 519) (tgt := 524) C d_La_law_519 (by decide) (fun c90 => ?_) (fun c90 => ?_)
      · replace h := ip c90 h
        refine r_goto (pc := 524) (tgt := 865) C d_La_law_524 (by decide) ?_
        refine r_iincK (pc := 865) (w0 := 4) (lv' := [(4, .int (i + 4)), (6, .int q88.1), (5, .int q87.1), (0, .ref b), (1, .ref (ad 20)), (2, .ref (am 11)), (3, .ref (ad 21))]) C d_La_law_865 (by decide) 6 rfl (by decide) rfl ?_
        refine r_goto (pc := 868) (tgt := 33) C d_La_law_868 (by decide) ?_
        refine r_loc (lv' := [(0, .ref b), (1, .ref (ad 20)), (2, .ref (am 11)), (3, .ref (ad 21)), (4, .int (i + 4))]) [3, 4, 5, 6, 0] rfl ?_
        refine r_widen (k1 := cells + 2) (n1 := slots + 12) (by show cells + 1 + 0 + 0 ≤ cells + 2; omega) (by show slots + 6 + 0 + 0 ≤ slots + 12; omega) ?_
        exact ih _ _ _ _ _ _ _ _ _ _ _ _ _ _ _ _ _ h
      · replace h := iN c90 h
        refine r_iconst (pc := 522) (v := 0) C d_La_law_522 (by decide) ?_
        exact absurd h (by decide)
  · replace h := iN c93 h
    refine r_iconst (pc := 505) (v := 0) C d_La_law_505 (by decide) ?_
    exact absurd h (by decide)
def lk_527 (L : Nat) (xs : Nat → Int32) (rec : LSt → Option Int32) (i : Int32) (x : Int32) (s : Int64) (d : DD) (o : (Nat → Int32)) (t : TT) (s2 : Int64) (d2 : DD) (w : (Nat → Int64)) (mk : Int32) (mu : Int64) (mz : Int32) (mw : Int32) (mo : (Nat → Int32)) (md : MD) (mr : MR) (mp : MP) : Option Int32 :=
  Option.bind (f_SD_minimal x d o t) (fun q94 => Option.bind (f_Mo_minimal mw mo md mp) (fun q95 => (if q94.1 = q95.1 then rec (i + 4, x, s, d, q94.2.1, q94.2.2, s2, d2, w, q95.2.1, mu, mz, mw, q95.2.2.1, md, mr, q95.2.2.2) else some 0)))
set_option maxHeartbeats 4000000 in
set_option maxRecDepth 100000 in
theorem vk_527 {l : Launch} {D : va_G} {A : Nat → Prop} {cI cZ cJ : ClassId} {sg : State} (h0 : tw sg) (hA0 : ∀ q, A q → sg.heap.size ≤ q) (hlT : l.stackTraces = false) {p : Program} {e : Env} {m : MethodId} {b L : Nat} {xs : Nat → Int32} {below : List Frame} {meth : Method} {c : Code} (C : cx p sg m #[Value.ref b] meth c D clsA (TY cI cZ cJ) A GG R_La code 7) (hr : meth.sig.returnType = ret) (hS : va_X b L xs sg sg.heap) (hbl : b < sg.heap.size) {ad am : Nat → Nat} {cells slots : Nat} (hc : cells + 2 ≤ 1067) (hs : slots + 12 ≤ 9128) {rec : LSt → Option Int32} (ih : ∀ (i : Int32) (x : Int32) (s : Int64) (d : DD) (o : (Nat → Int32)) (t : TT) (s2 : Int64) (d2 : DD) (w : (Nat → Int64)) (mk : Int32) (mu : Int64) (mz : Int32) (mw : Int32) (mo : (Nat → Int32)) (md : MD) (mr : MR) (mp : MP), rec (i, x, s, d, o, t, s2, d2, w, mk, mu, mz, mw, mo, md, mr, mp) = some 1 → vv p l e room_1 sg m #[Value.ref b] below meth c D clsA A 7 (cells + 2) (slots + 12) (lw_Z below #[Value.ref b] sg) 33 [(0, .ref b), (1, .ref (ad 20)), (2, .ref (am 11)), (3, .ref (ad 21)), (4, .int i)] [] (WC ad cI cZ x s d o t s2 d2 ((ad 21, .inl (cJ, 1, .inr (.inl w))) :: WM am cI cZ mk mu mz mw mo md mr mp []))) (i : Int32) (x : Int32) (s : Int64) (d : DD) (o : (Nat → Int32)) (t : TT) (s2 : Int64) (d2 : DD) (w : (Nat → Int64)) (mk : Int32) (mu : Int64) (mz : Int32) (mw : Int32) (mo : (Nat → Int32)) (md : MD) (mr : MR) (mp : MP) (h : lk_527 L xs rec i x s d o t s2 d2 w mk mu mz mw mo md mr mp = some 1) : vv p l e room_1 sg m #[Value.ref b] below meth c D clsA A 7 (cells) (slots) (lw_Z below #[Value.ref b] sg) 527 [(0, .ref b), (1, .ref (ad 20)), (2, .ref (am 11)), (3, .ref (ad 21)), (4, .int i)] [] (WC ad cI cZ x s d o t s2 d2 ((ad 21, .inl (cJ, 1, .inr (.inl w))) :: WM am cI cZ mk mu mz mw mo md mr mp [])) := by
  have hE := lat_stb hA0
  have hX : lat sg sg sg.heap := ⟨State.WarmedH.refl sg, Nat.le_refl _, fun _ _ => rfl⟩
  have hbA : ¬ A b := fun h9 => Nat.not_le_of_lt hbl (hA0 b h9)
  unfold lk_527 at h
  refine r_aload_n (pc := 527) C d_La_law_527 rfl 1 rfl ?_
  obtain ⟨q94, hq94, h⟩ := ob h
  refine r_callV (pc := 528) (As := []) (rest := []) (st1 := [.int q94.1]) hE gg_good C hX (c_SD_minimal_X hE hq94) ml_71 ml_72 ml_73 ml_21 ml_74 hd_SD_minimal 20 rfl rfl ⟨⟨(Nat.le_of_ble_eq_true rfl), (Nat.le_of_ble_eq_true rfl)⟩, (by show cells + 0 ≤ 1067; omega), (by show slots + 0 ≤ 9128; omega)⟩ (Nat.le_of_ble_eq_true rfl) rfl rfl d_La_law_528 ?_
  refine r_aload_n (pc := 531) C d_La_law_531 rfl 2 rfl ?_
  obtain ⟨q95, hq95, h⟩ := ob h
  refine r_perm lw_cm ?_
  refine r_callV (pc := 532) (As := []) (rest := [.int q94.1]) (st1 := [.int q95.1, .int q94.1]) hE gg_good C hX (c_Mo_minimal_M hE hq95) ml_67 ml_68 ml_69 ml_3 ml_70 hd_Mo_minimal 11 rfl rfl ⟨⟨(Nat.le_of_ble_eq_true rfl), (Nat.le_of_ble_eq_true rfl)⟩, (by show cells + 0 + 0 ≤ 1067; omega), (by show slots + 0 + 0 ≤ 9128; omega)⟩ (Nat.le_of_ble_eq_true rfl) rfl rfl d_La_law_532 ?_
  refine r_perm lw_mc ?_
  refine r_icmp_eq (pc := 535) (tgt := 865) C d_La_law_535 (by decide) (fun c96 => ?_) (fun c96 => ?_)
  · replace h := ip c96 h
    refine r_iincK (pc := 865) (w0 := 4) (lv' := [(4, .int (i + 4)), (0, .ref b), (1, .ref (ad 20)), (2, .ref (am 11)), (3, .ref (ad 21))]) C d_La_law_865 (by decide) 4 rfl (by decide) rfl ?_
    refine r_goto (pc := 868) (tgt := 33) C d_La_law_868 (by decide) ?_
    refine r_loc (lv' := [(0, .ref b), (1, .ref (ad 20)), (2, .ref (am 11)), (3, .ref (ad 21)), (4, .int (i + 4))]) [1, 2, 3, 4, 0] rfl ?_
    refine r_widen (k1 := cells + 2) (n1 := slots + 12) (by show cells + 0 + 0 ≤ cells + 2; omega) (by show slots + 0 + 0 ≤ slots + 12; omega) ?_
    exact ih _ _ _ _ _ _ _ _ _ _ _ _ _ _ _ _ _ h
  · replace h := iN c96 h
    refine r_iconst (pc := 538) (v := 0) C d_La_law_538 (by decide) ?_
    exact absurd h (by decide)
def lk_540 (L : Nat) (xs : Nat → Int32) (rec : LSt → Option Int32) (i : Int32) (x : Int32) (s : Int64) (d : DD) (o : (Nat → Int32)) (t : TT) (s2 : Int64) (d2 : DD) (w : (Nat → Int64)) (mk : Int32) (mu : Int64) (mz : Int32) (mw : Int32) (mo : (Nat → Int32)) (md : MD) (mr : MR) (mp : MP) : Option Int32 :=
  (if ((i + (1 : Int32)) < 0 ∨ L ≤ (i + (1 : Int32)).toNatClampNeg) then none else Option.bind (f_La_left d o w (xs (i + (1 : Int32)).toNatClampNeg)) (fun q97 => (if ((i + (1 : Int32)) < 0 ∨ L ≤ (i + (1 : Int32)).toNatClampNeg) then none else Option.bind (f_Mo_left mk mo md (xs (i + (1 : Int32)).toNatClampNeg)) (fun q98 => Option.bind (f_Mo_thrown q98.2) (fun q99 => (if q99 = q97.1 then (if q97.1 = 0 then (if ((0 : Int32) < 0 ∨ 1 ≤ (0 : Int32).toNatClampNeg) then none else (if lg_cmp (q97.2 (0 : Int32).toNatClampNeg) (q98.1.toInt64) = 0 then rec (i + 4, x, s, d, o, t, s2, d2, q97.2, q98.2, mu, mz, mw, mo, md, mr, mp) else some 0)) else rec (i + 4, x, s, d, o, t, s2, d2, q97.2, q98.2, mu, mz, mw, mo, md, mr, mp)) else some 0))))))
set_option maxHeartbeats 4000000 in
set_option maxRecDepth 100000 in
theorem vk_540 {l : Launch} {D : va_G} {A : Nat → Prop} {cI cZ cJ : ClassId} {sg : State} (h0 : tw sg) (hA0 : ∀ q, A q → sg.heap.size ≤ q) (hlT : l.stackTraces = false) {p : Program} {e : Env} {m : MethodId} {b L : Nat} {xs : Nat → Int32} {below : List Frame} {meth : Method} {c : Code} (C : cx p sg m #[Value.ref b] meth c D clsA (TY cI cZ cJ) A GG R_La code 7) (hr : meth.sig.returnType = ret) (hS : va_X b L xs sg sg.heap) (hbl : b < sg.heap.size) {ad am : Nat → Nat} {cells slots : Nat} (hc : cells + 2 ≤ 1067) (hs : slots + 12 ≤ 9128) {rec : LSt → Option Int32} (ih : ∀ (i : Int32) (x : Int32) (s : Int64) (d : DD) (o : (Nat → Int32)) (t : TT) (s2 : Int64) (d2 : DD) (w : (Nat → Int64)) (mk : Int32) (mu : Int64) (mz : Int32) (mw : Int32) (mo : (Nat → Int32)) (md : MD) (mr : MR) (mp : MP), rec (i, x, s, d, o, t, s2, d2, w, mk, mu, mz, mw, mo, md, mr, mp) = some 1 → vv p l e room_1 sg m #[Value.ref b] below meth c D clsA A 7 (cells + 2) (slots + 12) (lw_Z below #[Value.ref b] sg) 33 [(0, .ref b), (1, .ref (ad 20)), (2, .ref (am 11)), (3, .ref (ad 21)), (4, .int i)] [] (WC ad cI cZ x s d o t s2 d2 ((ad 21, .inl (cJ, 1, .inr (.inl w))) :: WM am cI cZ mk mu mz mw mo md mr mp []))) (i : Int32) (x : Int32) (s : Int64) (d : DD) (o : (Nat → Int32)) (t : TT) (s2 : Int64) (d2 : DD) (w : (Nat → Int64)) (mk : Int32) (mu : Int64) (mz : Int32) (mw : Int32) (mo : (Nat → Int32)) (md : MD) (mr : MR) (mp : MP) (h : lk_540 L xs rec i x s d o t s2 d2 w mk mu mz mw mo md mr mp = some 1) : vv p l e room_1 sg m #[Value.ref b] below meth c D clsA A 7 (cells) (slots) (lw_Z below #[Value.ref b] sg) 540 [(0, .ref b), (1, .ref (ad 20)), (2, .ref (am 11)), (3, .ref (ad 21)), (4, .int i)] [] (WC ad cI cZ x s d o t s2 d2 ((ad 21, .inl (cJ, 1, .inr (.inl w))) :: WM am cI cZ mk mu mz mw mo md mr mp [])) := by
  have hE := lat_stb hA0
  have hX : lat sg sg sg.heap := ⟨State.WarmedH.refl sg, Nat.le_refl _, fun _ _ => rfl⟩
  have hbA : ¬ A b := fun h9 => Nat.not_le_of_lt hbl (hA0 b h9)
  unfold lk_540 at h
  refine r_aload_n (pc := 540) C d_La_law_540 rfl 1 rfl ?_
  refine r_aload_n (pc := 541) C d_La_law_541 rfl 0 rfl ?_
  refine r_iload (pc := 542) C d_La_law_542 4 rfl ?_
  refine r_iconst (pc := 544) (v := 1) C d_La_law_544 (by decide) ?_
  refine r_iadd (pc := 545) C d_La_law_545 ?_
  obtain ⟨hi105, h⟩ := ign h
  refine r_sld (pc := 546) C hS hbl hbA hi105 d_La_law_546 ?_
  refine r_aload_n (pc := 547) C d_La_law_547 rfl 3 rfl ?_
  obtain ⟨q97, hq97, h⟩ := ob h
  refine r_callSw (pc := 548) (As := [.ref (ad 20), .int (xs (i + (1 : Int32)).toNatClampNeg), .ref (ad 21)]) (rest := []) (st1 := [.int q97.1]) hE gg_good C hX (c_La_left_X h0 hA0 hlT hq97) ml_79 ml_80 ml_11 ml_81 hd_La_left ⟨⟨(Nat.le_of_ble_eq_true rfl), (Nat.le_of_ble_eq_true rfl)⟩, (by show cells + 1 ≤ 1067; omega), (by show slots + 6 ≤ 9128; omega)⟩ (Nat.le_of_ble_eq_true rfl) rfl rfl d_La_law_548 ?_
  refine r_istore (pc := 551) (lv' := [(5, .int q97.1), (0, .ref b), (1, .ref (ad 20)), (2, .ref (am 11)), (3, .ref (ad 21)), (4, .int i)]) C d_La_law_551 (by decide) rfl ?_
  refine r_aload_n (pc := 553) C d_La_law_553 rfl 3 rfl ?_
  refine r_aload_n (pc := 554) C d_La_law_554 rfl 1 rfl ?_
  refine r_iload (pc := 555) C d_La_law_555 5 rfl ?_
  refine r_iconst (pc := 557) (v := 1) C d_La_law_557 (by decide) ?_
  refine r_iadd (pc := 558) C d_La_law_558 ?_
  obtain ⟨hi104, h⟩ := ign h
  refine r_sld (pc := 559) C hS hbl hbA hi104 d_La_law_559 ?_
  obtain ⟨q98, hq98, h⟩ := ob h
  refine r_perm lw_cm ?_
  refine r_callV (pc := 560) (As := [.int (xs (i + (1 : Int32)).toNatClampNeg)]) (rest := []) (st1 := [.int q98.1]) hE gg_good C hX (c_Mo_left_M hE hq98) ml_75 ml_76 ml_77 ml_3 ml_78 hd_Mo_left 11 rfl rfl ⟨⟨(Nat.le_of_ble_eq_true rfl), (Nat.le_of_ble_eq_true rfl)⟩, (by show cells + 1 + 0 ≤ 1067; omega), (by show slots + 6 + 0 ≤ 9128; omega)⟩ (Nat.le_of_ble_eq_true rfl) rfl rfl d_La_law_560 ?_
  refine r_perm lw_mc ?_
  refine r_istore (pc := 563) (lv' := [(6, .int q98.1), (5, .int q97.1), (0, .ref b), (1, .ref (ad 20)), (2, .ref (am 11)), (3, .ref (ad 21)), (4, .int i)]) C d_La_law_563 (by decide) rfl ?_
  refine r_aload_n (pc := 565) C d_La_law_565 rfl 4 rfl ?_
  obtain ⟨q99, hq99, h⟩ := ob h
  refine r_perm lw_cm ?_
  refine r_callV (pc := 566) (As := []) (rest := []) (st1 := [.int q99]) hE gg_good C hX (c_Mo_thrown_M hE hq99) ml_0 ml_1 ml_2 ml_3 ml_4 hd_Mo_thrown 11 rfl rfl ⟨⟨(Nat.le_of_ble_eq_true rfl), (Nat.le_of_ble_eq_true rfl)⟩, (by show cells + 1 + 0 + 0 ≤ 1067; omega), (by show slots + 6 + 0 + 0 ≤ 9128; omega)⟩ (Nat.le_of_ble_eq_true rfl) rfl rfl d_La_law_566 ?_
  refine r_perm lw_mc ?_
  refine r_iload (pc := 569) C d_La_law_569 1 rfl ?_
  refine r_icmp_eq (pc := 571) (tgt := 576) C d_La_law_571 (by decide) (fun c103 => ?_) (fun c103 => ?_)
  · replace h := ip c103 h
    refine r_iload (pc := 576) C d_La_law_576 1 rfl ?_
    refine r_if_ne (pc := 578) (tgt := 593) C d_La_law_578 (by decide) (fun c102 => ?_) (fun c102 => ?_)
    · replace h := iN c102 h
      refine r_goto (pc := 593) (tgt := 865) C d_La_law_593 (by decide) ?_
      refine r_iincK (pc := 865) (w0 := 4) (lv' := [(4, .int (i + 4)), (6, .int q98.1), (5, .int q97.1), (0, .ref b), (1, .ref (ad 20)), (2, .ref (am 11)), (3, .ref (ad 21))]) C d_La_law_865 (by decide) 6 rfl (by decide) rfl ?_
      refine r_goto (pc := 868) (tgt := 33) C d_La_law_868 (by decide) ?_
      refine r_loc (lv' := [(0, .ref b), (1, .ref (ad 20)), (2, .ref (am 11)), (3, .ref (ad 21)), (4, .int (i + 4))]) [3, 4, 5, 6, 0] rfl ?_
      refine r_widen (k1 := cells + 2) (n1 := slots + 12) (by show cells + 1 + 0 + 0 ≤ cells + 2; omega) (by show slots + 6 + 0 + 0 ≤ slots + 12; omega) ?_
      exact ih _ _ _ _ _ _ _ _ _ _ _ _ _ _ _ _ _ h
    · replace h := ip c102 h
      refine r_aload_n (pc := 581) C d_La_law_581 rfl 5 rfl ?_
      refine r_iconst (pc := 582) (v := 0) C d_La_law_582 (by decide) ?_
      obtain ⟨hi101, h⟩ := ign h
      refine r_lald (pc := 583) C 21 2 rfl rfl hi101 d_La_law_583 ?_
      refine r_iload (pc := 584) C d_La_law_584 0 rfl ?_
      refine r_i2l (pc := 586) C d_La_law_586 ?_
      refine r_lcmp (pc := 587) C d_La_law_587 ?_
      refine r_if_eq (pc := 588) (tgt := 593) C d_La_law_588 (by decide) (fun c100 => ?_) (fun c100 => ?_)
      · replace h := ip c100 h
        refine r_goto (pc := 593) (tgt := 865) C d_La_law_593 (by decide) ?_
        refine r_iincK (pc := 865) (w0 := 4) (lv' := [(4, .int (i + 4)), (6, .int q98.1), (5, .int q97.1), (0, .ref b), (1, .ref (ad 20)), (2, .ref (am 11)), (3, .ref (ad 21))]) C d_La_law_865 (by decide) 6 rfl (by decide) rfl ?_
        refine r_goto (pc := 868) (tgt := 33) C d_La_law_868 (by decide) ?_
        refine r_loc (lv' := [(0, .ref b), (1, .ref (ad 20)), (2, .ref (am 11)), (3, .ref (ad 21)), (4, .int (i + 4))]) [3, 4, 5, 6, 0] rfl ?_
        refine r_widen (k1 := cells + 2) (n1 := slots + 12) (by show cells + 1 + 0 + 0 ≤ cells + 2; omega) (by show slots + 6 + 0 + 0 ≤ slots + 12; omega) ?_
        exact ih _ _ _ _ _ _ _ _ _ _ _ _ _ _ _ _ _ h
      · replace h := iN c100 h
        refine r_iconst (pc := 591) (v := 0) C d_La_law_591 (by decide) ?_
        exact absurd h (by decide)
  · replace h := iN c103 h
    refine r_iconst (pc := 574) (v := 0) C d_La_law_574 (by decide) ?_
    exact absurd h (by decide)
def lk_596 (L : Nat) (xs : Nat → Int32) (rec : LSt → Option Int32) (i : Int32) (x : Int32) (s : Int64) (d : DD) (o : (Nat → Int32)) (t : TT) (s2 : Int64) (d2 : DD) (w : (Nat → Int64)) (mk : Int32) (mu : Int64) (mz : Int32) (mw : Int32) (mo : (Nat → Int32)) (md : MD) (mr : MR) (mp : MP) : Option Int32 :=
  Option.bind (f_SD_whole d o) (fun q106 => Option.bind (f_Mo_whole mo md) (fun q107 => (if q106.1 = q107.1 then rec (i + 4, x, s, d, q106.2, t, s2, d2, w, q107.2.1, mu, mz, mw, q107.2.2, md, mr, mp) else some 0)))
set_option maxHeartbeats 4000000 in
set_option maxRecDepth 100000 in
theorem vk_596 {l : Launch} {D : va_G} {A : Nat → Prop} {cI cZ cJ : ClassId} {sg : State} (h0 : tw sg) (hA0 : ∀ q, A q → sg.heap.size ≤ q) (hlT : l.stackTraces = false) {p : Program} {e : Env} {m : MethodId} {b L : Nat} {xs : Nat → Int32} {below : List Frame} {meth : Method} {c : Code} (C : cx p sg m #[Value.ref b] meth c D clsA (TY cI cZ cJ) A GG R_La code 7) (hr : meth.sig.returnType = ret) (hS : va_X b L xs sg sg.heap) (hbl : b < sg.heap.size) {ad am : Nat → Nat} {cells slots : Nat} (hc : cells + 2 ≤ 1067) (hs : slots + 12 ≤ 9128) {rec : LSt → Option Int32} (ih : ∀ (i : Int32) (x : Int32) (s : Int64) (d : DD) (o : (Nat → Int32)) (t : TT) (s2 : Int64) (d2 : DD) (w : (Nat → Int64)) (mk : Int32) (mu : Int64) (mz : Int32) (mw : Int32) (mo : (Nat → Int32)) (md : MD) (mr : MR) (mp : MP), rec (i, x, s, d, o, t, s2, d2, w, mk, mu, mz, mw, mo, md, mr, mp) = some 1 → vv p l e room_1 sg m #[Value.ref b] below meth c D clsA A 7 (cells + 2) (slots + 12) (lw_Z below #[Value.ref b] sg) 33 [(0, .ref b), (1, .ref (ad 20)), (2, .ref (am 11)), (3, .ref (ad 21)), (4, .int i)] [] (WC ad cI cZ x s d o t s2 d2 ((ad 21, .inl (cJ, 1, .inr (.inl w))) :: WM am cI cZ mk mu mz mw mo md mr mp []))) (i : Int32) (x : Int32) (s : Int64) (d : DD) (o : (Nat → Int32)) (t : TT) (s2 : Int64) (d2 : DD) (w : (Nat → Int64)) (mk : Int32) (mu : Int64) (mz : Int32) (mw : Int32) (mo : (Nat → Int32)) (md : MD) (mr : MR) (mp : MP) (h : lk_596 L xs rec i x s d o t s2 d2 w mk mu mz mw mo md mr mp = some 1) : vv p l e room_1 sg m #[Value.ref b] below meth c D clsA A 7 (cells) (slots) (lw_Z below #[Value.ref b] sg) 596 [(0, .ref b), (1, .ref (ad 20)), (2, .ref (am 11)), (3, .ref (ad 21)), (4, .int i)] [] (WC ad cI cZ x s d o t s2 d2 ((ad 21, .inl (cJ, 1, .inr (.inl w))) :: WM am cI cZ mk mu mz mw mo md mr mp [])) := by
  have hE := lat_stb hA0
  have hX : lat sg sg sg.heap := ⟨State.WarmedH.refl sg, Nat.le_refl _, fun _ _ => rfl⟩
  have hbA : ¬ A b := fun h9 => Nat.not_le_of_lt hbl (hA0 b h9)
  unfold lk_596 at h
  refine r_aload_n (pc := 596) C d_La_law_596 rfl 1 rfl ?_
  obtain ⟨q106, hq106, h⟩ := ob h
  refine r_callV (pc := 597) (As := []) (rest := []) (st1 := [.int q106.1]) hE gg_good C hX (c_SD_whole_X hE hq106) ml_86 ml_87 ml_88 ml_21 ml_89 hd_SD_whole 20 rfl rfl ⟨⟨(Nat.le_of_ble_eq_true rfl), (Nat.le_of_ble_eq_true rfl)⟩, (by show cells + 0 ≤ 1067; omega), (by show slots + 0 ≤ 9128; omega)⟩ (Nat.le_of_ble_eq_true rfl) rfl rfl d_La_law_597 ?_
  refine r_aload_n (pc := 600) C d_La_law_600 rfl 2 rfl ?_
  obtain ⟨q107, hq107, h⟩ := ob h
  refine r_perm lw_cm ?_
  refine r_callV (pc := 601) (As := []) (rest := [.int q106.1]) (st1 := [.int q107.1, .int q106.1]) hE gg_good C hX (c_Mo_whole_M hE hq107) ml_82 ml_83 ml_84 ml_3 ml_85 hd_Mo_whole 11 rfl rfl ⟨⟨(Nat.le_of_ble_eq_true rfl), (Nat.le_of_ble_eq_true rfl)⟩, (by show cells + 0 + 0 ≤ 1067; omega), (by show slots + 0 + 0 ≤ 9128; omega)⟩ (Nat.le_of_ble_eq_true rfl) rfl rfl d_La_law_601 ?_
  refine r_perm lw_mc ?_
  refine r_icmp_eq (pc := 604) (tgt := 865) C d_La_law_604 (by decide) (fun c108 => ?_) (fun c108 => ?_)
  · replace h := ip c108 h
    refine r_iincK (pc := 865) (w0 := 4) (lv' := [(4, .int (i + 4)), (0, .ref b), (1, .ref (ad 20)), (2, .ref (am 11)), (3, .ref (ad 21))]) C d_La_law_865 (by decide) 4 rfl (by decide) rfl ?_
    refine r_goto (pc := 868) (tgt := 33) C d_La_law_868 (by decide) ?_
    refine r_loc (lv' := [(0, .ref b), (1, .ref (ad 20)), (2, .ref (am 11)), (3, .ref (ad 21)), (4, .int (i + 4))]) [1, 2, 3, 4, 0] rfl ?_
    refine r_widen (k1 := cells + 2) (n1 := slots + 12) (by show cells + 0 + 0 ≤ cells + 2; omega) (by show slots + 0 + 0 ≤ slots + 12; omega) ?_
    exact ih _ _ _ _ _ _ _ _ _ _ _ _ _ _ _ _ _ h
  · replace h := iN c108 h
    refine r_iconst (pc := 607) (v := 0) C d_La_law_607 (by decide) ?_
    exact absurd h (by decide)
