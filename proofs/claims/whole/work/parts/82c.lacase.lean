def lk_609 (L : Nat) (xs : Nat → Int32) (rec : LSt → Option Int32) (i : Int32) (x : Int32) (s : Int64) (d : DD) (o : (Nat → Int32)) (t : TT) (s2 : Int64) (d2 : DD) (w : (Nat → Int64)) (mk : Int32) (mu : Int64) (mz : Int32) (mw : Int32) (mo : (Nat → Int32)) (md : MD) (mr : MR) (mp : MP) : Option Int32 :=
  (if ((i + (1 : Int32)) < 0 ∨ L ≤ (i + (1 : Int32)).toNatClampNeg) then none else (if ((i + (2 : Int32)) < 0 ∨ L ≤ (i + (2 : Int32)).toNatClampNeg) then none else Option.bind (f_La_pieces d o t w (xs (i + (1 : Int32)).toNatClampNeg) (xs (i + (2 : Int32)).toNatClampNeg)) (fun q109 => (if ((i + (1 : Int32)) < 0 ∨ L ≤ (i + (1 : Int32)).toNatClampNeg) then none else (if ((i + (2 : Int32)) < 0 ∨ L ≤ (i + (2 : Int32)).toNatClampNeg) then none else Option.bind (f_Mo_pieces mk mo md mp (xs (i + (1 : Int32)).toNatClampNeg) (xs (i + (2 : Int32)).toNatClampNeg)) (fun q110 => Option.bind (f_Mo_thrown q110.2.1) (fun q111 => (if q111 = q109.1 then (if q109.1 = 0 then (if ((0 : Int32) < 0 ∨ 1 ≤ (0 : Int32).toNatClampNeg) then none else (if lg_cmp (q109.2.2 (0 : Int32).toNatClampNeg) (q110.1.toInt64) = 0 then rec (i + 4, x, s, d, o, q109.2.1, s2, d2, q109.2.2, q110.2.1, mu, mz, mw, mo, md, mr, q110.2.2) else some 0)) else rec (i + 4, x, s, d, o, q109.2.1, s2, d2, q109.2.2, q110.2.1, mu, mz, mw, mo, md, mr, q110.2.2)) else some 0))))))))
set_option maxHeartbeats 4000000 in
set_option maxRecDepth 100000 in
theorem vk_609 {l : Launch} {D : va_G} {A : Nat → Prop} {cI cZ cJ : ClassId} {sg : State} (h0 : tw sg) (hA0 : ∀ q, A q → sg.heap.size ≤ q) (hlT : l.stackTraces = false) {p : Program} {e : Env} {m : MethodId} {b L : Nat} {xs : Nat → Int32} {below : List Frame} {meth : Method} {c : Code} (C : cx p sg m #[Value.ref b] meth c D clsA (TY cI cZ cJ) A GG R_La code 7) (hr : meth.sig.returnType = ret) (hS : va_X b L xs sg sg.heap) (hbl : b < sg.heap.size) {ad am : Nat → Nat} {cells slots : Nat} (hc : cells + 2 ≤ 1067) (hs : slots + 12 ≤ 9128) {rec : LSt → Option Int32} (ih : ∀ (i : Int32) (x : Int32) (s : Int64) (d : DD) (o : (Nat → Int32)) (t : TT) (s2 : Int64) (d2 : DD) (w : (Nat → Int64)) (mk : Int32) (mu : Int64) (mz : Int32) (mw : Int32) (mo : (Nat → Int32)) (md : MD) (mr : MR) (mp : MP), rec (i, x, s, d, o, t, s2, d2, w, mk, mu, mz, mw, mo, md, mr, mp) = some 1 → vv p l e room_1 sg m #[Value.ref b] below meth c D clsA A 7 (cells + 2) (slots + 12) (lw_Z below #[Value.ref b] sg) 33 [(0, .ref b), (1, .ref (ad 20)), (2, .ref (am 11)), (3, .ref (ad 21)), (4, .int i)] [] (WC ad cI cZ x s d o t s2 d2 ((ad 21, .inl (cJ, 1, .inr (.inl w))) :: WM am cI cZ mk mu mz mw mo md mr mp []))) (i : Int32) (x : Int32) (s : Int64) (d : DD) (o : (Nat → Int32)) (t : TT) (s2 : Int64) (d2 : DD) (w : (Nat → Int64)) (mk : Int32) (mu : Int64) (mz : Int32) (mw : Int32) (mo : (Nat → Int32)) (md : MD) (mr : MR) (mp : MP) (h : lk_609 L xs rec i x s d o t s2 d2 w mk mu mz mw mo md mr mp = some 1) : vv p l e room_1 sg m #[Value.ref b] below meth c D clsA A 7 (cells) (slots) (lw_Z below #[Value.ref b] sg) 609 [(0, .ref b), (1, .ref (ad 20)), (2, .ref (am 11)), (3, .ref (ad 21)), (4, .int i)] [] (WC ad cI cZ x s d o t s2 d2 ((ad 21, .inl (cJ, 1, .inr (.inl w))) :: WM am cI cZ mk mu mz mw mo md mr mp [])) := by
  have hE := lat_stb hA0
  have hX : lat sg sg sg.heap := ⟨State.WarmedH.refl sg, Nat.le_refl _, fun _ _ => rfl⟩
  have hbA : ¬ A b := fun h9 => Nat.not_le_of_lt hbl (hA0 b h9)
  unfold lk_609 at h
  refine r_aload_n (pc := 609) C d_La_law_609 rfl 1 rfl ?_
  refine r_aload_n (pc := 610) C d_La_law_610 rfl 0 rfl ?_
  refine r_iload (pc := 611) C d_La_law_611 4 rfl ?_
  refine r_iconst (pc := 613) (v := 1) C d_La_law_613 (by decide) ?_
  refine r_iadd (pc := 614) C d_La_law_614 ?_
  obtain ⟨hi119, h⟩ := ign h
  refine r_sld (pc := 615) C hS hbl hbA hi119 d_La_law_615 ?_
  refine r_aload_n (pc := 616) C d_La_law_616 rfl 0 rfl ?_
  refine r_iload (pc := 617) C d_La_law_617 4 rfl ?_
  refine r_iconst (pc := 619) (v := 2) C d_La_law_619 (by decide) ?_
  refine r_iadd (pc := 620) C d_La_law_620 ?_
  obtain ⟨hi118, h⟩ := ign h
  refine r_sld (pc := 621) C hS hbl hbA hi118 d_La_law_621 ?_
  refine r_aload_n (pc := 622) C d_La_law_622 rfl 3 rfl ?_
  obtain ⟨q109, hq109, h⟩ := ob h
  refine r_callSw (pc := 623) (As := [.ref (ad 20), .int (xs (i + (1 : Int32)).toNatClampNeg), .int (xs (i + (2 : Int32)).toNatClampNeg), .ref (ad 21)]) (rest := []) (st1 := [.int q109.1]) hE gg_good C hX (c_La_pieces_X h0 hA0 hlT hq109) ml_94 ml_95 ml_11 ml_96 hd_La_pieces ⟨⟨(Nat.le_of_ble_eq_true rfl), (Nat.le_of_ble_eq_true rfl)⟩, (by show cells + 2 ≤ 1067; omega), (by show slots + 12 ≤ 9128; omega)⟩ (Nat.le_of_ble_eq_true rfl) rfl rfl d_La_law_623 ?_
  refine r_istore (pc := 626) (lv' := [(5, .int q109.1), (0, .ref b), (1, .ref (ad 20)), (2, .ref (am 11)), (3, .ref (ad 21)), (4, .int i)]) C d_La_law_626 (by decide) rfl ?_
  refine r_aload_n (pc := 628) C d_La_law_628 rfl 3 rfl ?_
  refine r_aload_n (pc := 629) C d_La_law_629 rfl 1 rfl ?_
  refine r_iload (pc := 630) C d_La_law_630 5 rfl ?_
  refine r_iconst (pc := 632) (v := 1) C d_La_law_632 (by decide) ?_
  refine r_iadd (pc := 633) C d_La_law_633 ?_
  obtain ⟨hi117, h⟩ := ign h
  refine r_sld (pc := 634) C hS hbl hbA hi117 d_La_law_634 ?_
  refine r_aload_n (pc := 635) C d_La_law_635 rfl 1 rfl ?_
  refine r_iload (pc := 636) C d_La_law_636 5 rfl ?_
  refine r_iconst (pc := 638) (v := 2) C d_La_law_638 (by decide) ?_
  refine r_iadd (pc := 639) C d_La_law_639 ?_
  obtain ⟨hi116, h⟩ := ign h
  refine r_sld (pc := 640) C hS hbl hbA hi116 d_La_law_640 ?_
  obtain ⟨q110, hq110, h⟩ := ob h
  refine r_perm lw_cm ?_
  refine r_callV (pc := 641) (As := [.int (xs (i + (1 : Int32)).toNatClampNeg), .int (xs (i + (2 : Int32)).toNatClampNeg)]) (rest := []) (st1 := [.int q110.1]) hE gg_good C hX (c_Mo_pieces_M hE hq110) ml_90 ml_91 ml_92 ml_3 ml_93 hd_Mo_pieces 11 rfl rfl ⟨⟨(Nat.le_of_ble_eq_true rfl), (Nat.le_of_ble_eq_true rfl)⟩, (by show cells + 2 + 0 ≤ 1067; omega), (by show slots + 12 + 0 ≤ 9128; omega)⟩ (Nat.le_of_ble_eq_true rfl) rfl rfl d_La_law_641 ?_
  refine r_perm lw_mc ?_
  refine r_istore (pc := 644) (lv' := [(6, .int q110.1), (5, .int q109.1), (0, .ref b), (1, .ref (ad 20)), (2, .ref (am 11)), (3, .ref (ad 21)), (4, .int i)]) C d_La_law_644 (by decide) rfl ?_
  refine r_aload_n (pc := 646) C d_La_law_646 rfl 4 rfl ?_
  obtain ⟨q111, hq111, h⟩ := ob h
  refine r_perm lw_cm ?_
  refine r_callV (pc := 647) (As := []) (rest := []) (st1 := [.int q111]) hE gg_good C hX (c_Mo_thrown_M hE hq111) ml_0 ml_1 ml_2 ml_3 ml_4 hd_Mo_thrown 11 rfl rfl ⟨⟨(Nat.le_of_ble_eq_true rfl), (Nat.le_of_ble_eq_true rfl)⟩, (by show cells + 2 + 0 + 0 ≤ 1067; omega), (by show slots + 12 + 0 + 0 ≤ 9128; omega)⟩ (Nat.le_of_ble_eq_true rfl) rfl rfl d_La_law_647 ?_
  refine r_perm lw_mc ?_
  refine r_iload (pc := 650) C d_La_law_650 1 rfl ?_
  refine r_icmp_eq (pc := 652) (tgt := 657) C d_La_law_652 (by decide) (fun c115 => ?_) (fun c115 => ?_)
  · replace h := ip c115 h
    refine r_iload (pc := 657) C d_La_law_657 1 rfl ?_
    refine r_if_ne (pc := 659) (tgt := 674) C d_La_law_659 (by decide) (fun c114 => ?_) (fun c114 => ?_)
    · replace h := iN c114 h
      refine r_goto (pc := 674) (tgt := 865) C d_La_law_674 (by decide) ?_
      refine r_iincK (pc := 865) (w0 := 4) (lv' := [(4, .int (i + 4)), (6, .int q110.1), (5, .int q109.1), (0, .ref b), (1, .ref (ad 20)), (2, .ref (am 11)), (3, .ref (ad 21))]) C d_La_law_865 (by decide) 6 rfl (by decide) rfl ?_
      refine r_goto (pc := 868) (tgt := 33) C d_La_law_868 (by decide) ?_
      refine r_loc (lv' := [(0, .ref b), (1, .ref (ad 20)), (2, .ref (am 11)), (3, .ref (ad 21)), (4, .int (i + 4))]) [3, 4, 5, 6, 0] rfl ?_
      refine r_widen (k1 := cells + 2) (n1 := slots + 12) (by show cells + 2 + 0 + 0 ≤ cells + 2; omega) (by show slots + 12 + 0 + 0 ≤ slots + 12; omega) ?_
      exact ih _ _ _ _ _ _ _ _ _ _ _ _ _ _ _ _ _ h
    · replace h := ip c114 h
      refine r_aload_n (pc := 662) C d_La_law_662 rfl 5 rfl ?_
      refine r_iconst (pc := 663) (v := 0) C d_La_law_663 (by decide) ?_
      obtain ⟨hi113, h⟩ := ign h
      refine r_lald (pc := 664) C 21 2 rfl rfl hi113 d_La_law_664 ?_
      refine r_iload (pc := 665) C d_La_law_665 0 rfl ?_
      refine r_i2l (pc := 667) C d_La_law_667 ?_
      refine r_lcmp (pc := 668) C d_La_law_668 ?_
      refine r_if_eq (pc := 669) (tgt := 674) C d_La_law_669 (by decide) (fun c112 => ?_) (fun c112 => ?_)
      · replace h := ip c112 h
        refine r_goto (pc := 674) (tgt := 865) C d_La_law_674 (by decide) ?_
        refine r_iincK (pc := 865) (w0 := 4) (lv' := [(4, .int (i + 4)), (6, .int q110.1), (5, .int q109.1), (0, .ref b), (1, .ref (ad 20)), (2, .ref (am 11)), (3, .ref (ad 21))]) C d_La_law_865 (by decide) 6 rfl (by decide) rfl ?_
        refine r_goto (pc := 868) (tgt := 33) C d_La_law_868 (by decide) ?_
        refine r_loc (lv' := [(0, .ref b), (1, .ref (ad 20)), (2, .ref (am 11)), (3, .ref (ad 21)), (4, .int (i + 4))]) [3, 4, 5, 6, 0] rfl ?_
        refine r_widen (k1 := cells + 2) (n1 := slots + 12) (by show cells + 2 + 0 + 0 ≤ cells + 2; omega) (by show slots + 12 + 0 + 0 ≤ slots + 12; omega) ?_
        exact ih _ _ _ _ _ _ _ _ _ _ _ _ _ _ _ _ _ h
      · replace h := iN c112 h
        refine r_iconst (pc := 672) (v := 0) C d_La_law_672 (by decide) ?_
        exact absurd h (by decide)
  · replace h := iN c115 h
    refine r_iconst (pc := 655) (v := 0) C d_La_law_655 (by decide) ?_
    exact absurd h (by decide)
def lk_677 (L : Nat) (xs : Nat → Int32) (rec : LSt → Option Int32) (i : Int32) (x : Int32) (s : Int64) (d : DD) (o : (Nat → Int32)) (t : TT) (s2 : Int64) (d2 : DD) (w : (Nat → Int64)) (mk : Int32) (mu : Int64) (mz : Int32) (mw : Int32) (mo : (Nat → Int32)) (md : MD) (mr : MR) (mp : MP) : Option Int32 :=
  (if ((i + (1 : Int32)) < 0 ∨ L ≤ (i + (1 : Int32)).toNatClampNeg) then none else Option.bind (f_La_most d o t w (xs (i + (1 : Int32)).toNatClampNeg)) (fun q120 => (if ((i + (1 : Int32)) < 0 ∨ L ≤ (i + (1 : Int32)).toNatClampNeg) then none else Option.bind (f_Mo_most mk mo md mp (xs (i + (1 : Int32)).toNatClampNeg)) (fun q121 => Option.bind (f_Mo_thrown q121.2.1) (fun q122 => (if q122 = q120.1 then (if q120.1 = 0 then (if ((0 : Int32) < 0 ∨ 1 ≤ (0 : Int32).toNatClampNeg) then none else (if lg_cmp (q120.2.2 (0 : Int32).toNatClampNeg) (q121.1.toInt64) = 0 then rec (i + 4, x, s, d, o, q120.2.1, s2, d2, q120.2.2, q121.2.1, mu, mz, mw, mo, md, mr, q121.2.2) else some 0)) else rec (i + 4, x, s, d, o, q120.2.1, s2, d2, q120.2.2, q121.2.1, mu, mz, mw, mo, md, mr, q121.2.2)) else some 0))))))
set_option maxHeartbeats 4000000 in
set_option maxRecDepth 100000 in
theorem vk_677 {l : Launch} {D : va_G} {A : Nat → Prop} {cI cZ cJ : ClassId} {sg : State} (h0 : tw sg) (hA0 : ∀ q, A q → sg.heap.size ≤ q) (hlT : l.stackTraces = false) {p : Program} {e : Env} {m : MethodId} {b L : Nat} {xs : Nat → Int32} {below : List Frame} {meth : Method} {c : Code} (C : cx p sg m #[Value.ref b] meth c D clsA (TY cI cZ cJ) A GG R_La code 7) (hr : meth.sig.returnType = ret) (hS : va_X b L xs sg sg.heap) (hbl : b < sg.heap.size) {ad am : Nat → Nat} {cells slots : Nat} (hc : cells + 2 ≤ 1067) (hs : slots + 12 ≤ 9128) {rec : LSt → Option Int32} (ih : ∀ (i : Int32) (x : Int32) (s : Int64) (d : DD) (o : (Nat → Int32)) (t : TT) (s2 : Int64) (d2 : DD) (w : (Nat → Int64)) (mk : Int32) (mu : Int64) (mz : Int32) (mw : Int32) (mo : (Nat → Int32)) (md : MD) (mr : MR) (mp : MP), rec (i, x, s, d, o, t, s2, d2, w, mk, mu, mz, mw, mo, md, mr, mp) = some 1 → vv p l e room_1 sg m #[Value.ref b] below meth c D clsA A 7 (cells + 2) (slots + 12) (lw_Z below #[Value.ref b] sg) 33 [(0, .ref b), (1, .ref (ad 20)), (2, .ref (am 11)), (3, .ref (ad 21)), (4, .int i)] [] (WC ad cI cZ x s d o t s2 d2 ((ad 21, .inl (cJ, 1, .inr (.inl w))) :: WM am cI cZ mk mu mz mw mo md mr mp []))) (i : Int32) (x : Int32) (s : Int64) (d : DD) (o : (Nat → Int32)) (t : TT) (s2 : Int64) (d2 : DD) (w : (Nat → Int64)) (mk : Int32) (mu : Int64) (mz : Int32) (mw : Int32) (mo : (Nat → Int32)) (md : MD) (mr : MR) (mp : MP) (h : lk_677 L xs rec i x s d o t s2 d2 w mk mu mz mw mo md mr mp = some 1) : vv p l e room_1 sg m #[Value.ref b] below meth c D clsA A 7 (cells) (slots) (lw_Z below #[Value.ref b] sg) 677 [(0, .ref b), (1, .ref (ad 20)), (2, .ref (am 11)), (3, .ref (ad 21)), (4, .int i)] [] (WC ad cI cZ x s d o t s2 d2 ((ad 21, .inl (cJ, 1, .inr (.inl w))) :: WM am cI cZ mk mu mz mw mo md mr mp [])) := by
  have hE := lat_stb hA0
  have hX : lat sg sg sg.heap := ⟨State.WarmedH.refl sg, Nat.le_refl _, fun _ _ => rfl⟩
  have hbA : ¬ A b := fun h9 => Nat.not_le_of_lt hbl (hA0 b h9)
  unfold lk_677 at h
  refine r_aload_n (pc := 677) C d_La_law_677 rfl 1 rfl ?_
  refine r_aload_n (pc := 678) C d_La_law_678 rfl 0 rfl ?_
  refine r_iload (pc := 679) C d_La_law_679 4 rfl ?_
  refine r_iconst (pc := 681) (v := 1) C d_La_law_681 (by decide) ?_
  refine r_iadd (pc := 682) C d_La_law_682 ?_
  obtain ⟨hi128, h⟩ := ign h
  refine r_sld (pc := 683) C hS hbl hbA hi128 d_La_law_683 ?_
  refine r_aload_n (pc := 684) C d_La_law_684 rfl 3 rfl ?_
  obtain ⟨q120, hq120, h⟩ := ob h
  refine r_callSw (pc := 685) (As := [.ref (ad 20), .int (xs (i + (1 : Int32)).toNatClampNeg), .ref (ad 21)]) (rest := []) (st1 := [.int q120.1]) hE gg_good C hX (c_La_most_X h0 hA0 hlT hq120) ml_101 ml_102 ml_11 ml_103 hd_La_most ⟨⟨(Nat.le_of_ble_eq_true rfl), (Nat.le_of_ble_eq_true rfl)⟩, (by show cells + 1 ≤ 1067; omega), (by show slots + 6 ≤ 9128; omega)⟩ (Nat.le_of_ble_eq_true rfl) rfl rfl d_La_law_685 ?_
  refine r_istore (pc := 688) (lv' := [(5, .int q120.1), (0, .ref b), (1, .ref (ad 20)), (2, .ref (am 11)), (3, .ref (ad 21)), (4, .int i)]) C d_La_law_688 (by decide) rfl ?_
  refine r_aload_n (pc := 690) C d_La_law_690 rfl 3 rfl ?_
  refine r_aload_n (pc := 691) C d_La_law_691 rfl 1 rfl ?_
  refine r_iload (pc := 692) C d_La_law_692 5 rfl ?_
  refine r_iconst (pc := 694) (v := 1) C d_La_law_694 (by decide) ?_
  refine r_iadd (pc := 695) C d_La_law_695 ?_
  obtain ⟨hi127, h⟩ := ign h
  refine r_sld (pc := 696) C hS hbl hbA hi127 d_La_law_696 ?_
  obtain ⟨q121, hq121, h⟩ := ob h
  refine r_perm lw_cm ?_
  refine r_callV (pc := 697) (As := [.int (xs (i + (1 : Int32)).toNatClampNeg)]) (rest := []) (st1 := [.int q121.1]) hE gg_good C hX (c_Mo_most_M hE hq121) ml_97 ml_98 ml_99 ml_3 ml_100 hd_Mo_most 11 rfl rfl ⟨⟨(Nat.le_of_ble_eq_true rfl), (Nat.le_of_ble_eq_true rfl)⟩, (by show cells + 1 + 0 ≤ 1067; omega), (by show slots + 6 + 0 ≤ 9128; omega)⟩ (Nat.le_of_ble_eq_true rfl) rfl rfl d_La_law_697 ?_
  refine r_perm lw_mc ?_
  refine r_istore (pc := 700) (lv' := [(6, .int q121.1), (5, .int q120.1), (0, .ref b), (1, .ref (ad 20)), (2, .ref (am 11)), (3, .ref (ad 21)), (4, .int i)]) C d_La_law_700 (by decide) rfl ?_
  refine r_aload_n (pc := 702) C d_La_law_702 rfl 4 rfl ?_
  obtain ⟨q122, hq122, h⟩ := ob h
  refine r_perm lw_cm ?_
  refine r_callV (pc := 703) (As := []) (rest := []) (st1 := [.int q122]) hE gg_good C hX (c_Mo_thrown_M hE hq122) ml_0 ml_1 ml_2 ml_3 ml_4 hd_Mo_thrown 11 rfl rfl ⟨⟨(Nat.le_of_ble_eq_true rfl), (Nat.le_of_ble_eq_true rfl)⟩, (by show cells + 1 + 0 + 0 ≤ 1067; omega), (by show slots + 6 + 0 + 0 ≤ 9128; omega)⟩ (Nat.le_of_ble_eq_true rfl) rfl rfl d_La_law_703 ?_
  refine r_perm lw_mc ?_
  refine r_iload (pc := 706) C d_La_law_706 1 rfl ?_
  refine r_icmp_eq (pc := 708) (tgt := 713) C d_La_law_708 (by decide) (fun c126 => ?_) (fun c126 => ?_)
  · replace h := ip c126 h
    refine r_iload (pc := 713) C d_La_law_713 1 rfl ?_
    refine r_if_ne (pc := 715) (tgt := 730) C d_La_law_715 (by decide) (fun c125 => ?_) (fun c125 => ?_)
    · replace h := iN c125 h
      refine r_goto (pc := 730) (tgt := 865) C d_La_law_730 (by decide) ?_
      refine r_iincK (pc := 865) (w0 := 4) (lv' := [(4, .int (i + 4)), (6, .int q121.1), (5, .int q120.1), (0, .ref b), (1, .ref (ad 20)), (2, .ref (am 11)), (3, .ref (ad 21))]) C d_La_law_865 (by decide) 6 rfl (by decide) rfl ?_
      refine r_goto (pc := 868) (tgt := 33) C d_La_law_868 (by decide) ?_
      refine r_loc (lv' := [(0, .ref b), (1, .ref (ad 20)), (2, .ref (am 11)), (3, .ref (ad 21)), (4, .int (i + 4))]) [3, 4, 5, 6, 0] rfl ?_
      refine r_widen (k1 := cells + 2) (n1 := slots + 12) (by show cells + 1 + 0 + 0 ≤ cells + 2; omega) (by show slots + 6 + 0 + 0 ≤ slots + 12; omega) ?_
      exact ih _ _ _ _ _ _ _ _ _ _ _ _ _ _ _ _ _ h
    · replace h := ip c125 h
      refine r_aload_n (pc := 718) C d_La_law_718 rfl 5 rfl ?_
      refine r_iconst (pc := 719) (v := 0) C d_La_law_719 (by decide) ?_
      obtain ⟨hi124, h⟩ := ign h
      refine r_lald (pc := 720) C 21 2 rfl rfl hi124 d_La_law_720 ?_
      refine r_iload (pc := 721) C d_La_law_721 0 rfl ?_
      refine r_i2l (pc := 723) C d_La_law_723 ?_
      refine r_lcmp (pc := 724) C d_La_law_724 ?_
      refine r_if_eq (pc := 725) (tgt := 730) C d_La_law_725 (by decide) (fun c123 => ?_) (fun c123 => ?_)
      · replace h := ip c123 h
        refine r_goto (pc := 730) (tgt := 865) C d_La_law_730 (by decide) ?_
        refine r_iincK (pc := 865) (w0 := 4) (lv' := [(4, .int (i + 4)), (6, .int q121.1), (5, .int q120.1), (0, .ref b), (1, .ref (ad 20)), (2, .ref (am 11)), (3, .ref (ad 21))]) C d_La_law_865 (by decide) 6 rfl (by decide) rfl ?_
        refine r_goto (pc := 868) (tgt := 33) C d_La_law_868 (by decide) ?_
        refine r_loc (lv' := [(0, .ref b), (1, .ref (ad 20)), (2, .ref (am 11)), (3, .ref (ad 21)), (4, .int (i + 4))]) [3, 4, 5, 6, 0] rfl ?_
        refine r_widen (k1 := cells + 2) (n1 := slots + 12) (by show cells + 1 + 0 + 0 ≤ cells + 2; omega) (by show slots + 6 + 0 + 0 ≤ slots + 12; omega) ?_
        exact ih _ _ _ _ _ _ _ _ _ _ _ _ _ _ _ _ _ h
      · replace h := iN c123 h
        refine r_iconst (pc := 728) (v := 0) C d_La_law_728 (by decide) ?_
        exact absurd h (by decide)
  · replace h := iN c126 h
    refine r_iconst (pc := 711) (v := 0) C d_La_law_711 (by decide) ?_
    exact absurd h (by decide)
def lk_733 (L : Nat) (xs : Nat → Int32) (rec : LSt → Option Int32) (i : Int32) (x : Int32) (s : Int64) (d : DD) (o : (Nat → Int32)) (t : TT) (s2 : Int64) (d2 : DD) (w : (Nat → Int64)) (mk : Int32) (mu : Int64) (mz : Int32) (mw : Int32) (mo : (Nat → Int32)) (md : MD) (mr : MR) (mp : MP) : Option Int32 :=
  (if ((i + (1 : Int32)) < 0 ∨ L ≤ (i + (1 : Int32)).toNatClampNeg) then none else (if ((i + (2 : Int32)) < 0 ∨ L ≤ (i + (2 : Int32)).toNatClampNeg) then none else (if ((i + (3 : Int32)) < 0 ∨ L ≤ (i + (3 : Int32)).toNatClampNeg) then none else Option.bind (f_La_same d s2 d2 w ((((xs (i + (1 : Int32)).toNatClampNeg).toInt64) <<< ((32 : Int32).toInt64 &&& 63)) ||| (((xs (i + (2 : Int32)).toNatClampNeg).toInt64) &&& (4294967295 : Int64))) (xs (i + (3 : Int32)).toNatClampNeg)) (fun q129 => (if ((i + (1 : Int32)) < 0 ∨ L ≤ (i + (1 : Int32)).toNatClampNeg) then none else (if ((i + (2 : Int32)) < 0 ∨ L ≤ (i + (2 : Int32)).toNatClampNeg) then none else (if ((i + (3 : Int32)) < 0 ∨ L ≤ (i + (3 : Int32)).toNatClampNeg) then none else Option.bind (f_Mo_same mk mu mz md mr ((((xs (i + (1 : Int32)).toNatClampNeg).toInt64) <<< ((32 : Int32).toInt64 &&& 63)) ||| (((xs (i + (2 : Int32)).toNatClampNeg).toInt64) &&& (4294967295 : Int64))) (xs (i + (3 : Int32)).toNatClampNeg)) (fun q130 => Option.bind (f_Mo_thrown q130.2.1) (fun q131 => (if q131 = q129.1 then (if q129.1 = 0 then (if ((0 : Int32) < 0 ∨ 1 ≤ (0 : Int32).toNatClampNeg) then none else (if q130.1 = 0 then (if lg_cmp (q129.2.2.2 (0 : Int32).toNatClampNeg) (0 : Int64) = 0 then rec (i + 4, x, s, d, o, t, q129.2.1, q129.2.2.1, q129.2.2.2, q130.2.1, q130.2.2.1, mz, mw, mo, md, q130.2.2.2, mp) else some 0) else (if lg_cmp (q129.2.2.2 (0 : Int32).toNatClampNeg) (1 : Int64) = 0 then rec (i + 4, x, s, d, o, t, q129.2.1, q129.2.2.1, q129.2.2.2, q130.2.1, q130.2.2.1, mz, mw, mo, md, q130.2.2.2, mp) else some 0))) else rec (i + 4, x, s, d, o, t, q129.2.1, q129.2.2.1, q129.2.2.2, q130.2.1, q130.2.2.1, mz, mw, mo, md, q130.2.2.2, mp)) else some 0))))))))))
set_option maxHeartbeats 4000000 in
set_option maxRecDepth 100000 in
theorem vk_733 {l : Launch} {D : va_G} {A : Nat → Prop} {cI cZ cJ : ClassId} {sg : State} (h0 : tw sg) (hA0 : ∀ q, A q → sg.heap.size ≤ q) (hlT : l.stackTraces = false) {p : Program} {e : Env} {m : MethodId} {b L : Nat} {xs : Nat → Int32} {below : List Frame} {meth : Method} {c : Code} (C : cx p sg m #[Value.ref b] meth c D clsA (TY cI cZ cJ) A GG R_La code 7) (hr : meth.sig.returnType = ret) (hS : va_X b L xs sg sg.heap) (hbl : b < sg.heap.size) {ad am : Nat → Nat} {cells slots : Nat} (hc : cells + 2 ≤ 1067) (hs : slots + 12 ≤ 9128) {rec : LSt → Option Int32} (ih : ∀ (i : Int32) (x : Int32) (s : Int64) (d : DD) (o : (Nat → Int32)) (t : TT) (s2 : Int64) (d2 : DD) (w : (Nat → Int64)) (mk : Int32) (mu : Int64) (mz : Int32) (mw : Int32) (mo : (Nat → Int32)) (md : MD) (mr : MR) (mp : MP), rec (i, x, s, d, o, t, s2, d2, w, mk, mu, mz, mw, mo, md, mr, mp) = some 1 → vv p l e room_1 sg m #[Value.ref b] below meth c D clsA A 7 (cells + 2) (slots + 12) (lw_Z below #[Value.ref b] sg) 33 [(0, .ref b), (1, .ref (ad 20)), (2, .ref (am 11)), (3, .ref (ad 21)), (4, .int i)] [] (WC ad cI cZ x s d o t s2 d2 ((ad 21, .inl (cJ, 1, .inr (.inl w))) :: WM am cI cZ mk mu mz mw mo md mr mp []))) (i : Int32) (x : Int32) (s : Int64) (d : DD) (o : (Nat → Int32)) (t : TT) (s2 : Int64) (d2 : DD) (w : (Nat → Int64)) (mk : Int32) (mu : Int64) (mz : Int32) (mw : Int32) (mo : (Nat → Int32)) (md : MD) (mr : MR) (mp : MP) (h : lk_733 L xs rec i x s d o t s2 d2 w mk mu mz mw mo md mr mp = some 1) : vv p l e room_1 sg m #[Value.ref b] below meth c D clsA A 7 (cells) (slots) (lw_Z below #[Value.ref b] sg) 733 [(0, .ref b), (1, .ref (ad 20)), (2, .ref (am 11)), (3, .ref (ad 21)), (4, .int i)] [] (WC ad cI cZ x s d o t s2 d2 ((ad 21, .inl (cJ, 1, .inr (.inl w))) :: WM am cI cZ mk mu mz mw mo md mr mp [])) := by
  have hE := lat_stb hA0
  have hX : lat sg sg sg.heap := ⟨State.WarmedH.refl sg, Nat.le_refl _, fun _ _ => rfl⟩
  have hbA : ¬ A b := fun h9 => Nat.not_le_of_lt hbl (hA0 b h9)
  unfold lk_733 at h
  refine r_aload_n (pc := 733) C d_La_law_733 rfl 1 rfl ?_
  refine r_aload_n (pc := 734) C d_La_law_734 rfl 0 rfl ?_
  refine r_iload (pc := 735) C d_La_law_735 4 rfl ?_
  refine r_iconst (pc := 737) (v := 1) C d_La_law_737 (by decide) ?_
  refine r_iadd (pc := 738) C d_La_law_738 ?_
  obtain ⟨hi143, h⟩ := ign h
  refine r_sld (pc := 739) C hS hbl hbA hi143 d_La_law_739 ?_
  refine r_i2l (pc := 740) C d_La_law_740 ?_
  refine r_bipush (pc := 741) (v := 32) C d_La_law_741 (by decide) ?_
  refine r_lshl (pc := 743) C d_La_law_743 ?_
  refine r_aload_n (pc := 744) C d_La_law_744 rfl 0 rfl ?_
  refine r_iload (pc := 745) C d_La_law_745 4 rfl ?_
  refine r_iconst (pc := 747) (v := 2) C d_La_law_747 (by decide) ?_
  refine r_iadd (pc := 748) C d_La_law_748 ?_
  obtain ⟨hi142, h⟩ := ign h
  refine r_sld (pc := 749) C hS hbl hbA hi142 d_La_law_749 ?_
  refine r_i2l (pc := 750) C d_La_law_750 ?_
  refine r_ldc2 (pc := 751) (v := 4294967295) C ml_13 d_La_law_751 ?_
  refine r_land (pc := 754) C d_La_law_754 ?_
  refine r_lor (pc := 755) C d_La_law_755 ?_
  refine r_aload_n (pc := 756) C d_La_law_756 rfl 0 rfl ?_
  refine r_iload (pc := 757) C d_La_law_757 4 rfl ?_
  refine r_iconst (pc := 759) (v := 3) C d_La_law_759 (by decide) ?_
  refine r_iadd (pc := 760) C d_La_law_760 ?_
  obtain ⟨hi141, h⟩ := ign h
  refine r_sld (pc := 761) C hS hbl hbA hi141 d_La_law_761 ?_
  refine r_aload_n (pc := 762) C d_La_law_762 rfl 3 rfl ?_
  obtain ⟨q129, hq129, h⟩ := ob h
  refine r_callSw (pc := 763) (As := [.ref (ad 20), .long ((((xs (i + (1 : Int32)).toNatClampNeg).toInt64) <<< ((32 : Int32).toInt64 &&& 63)) ||| (((xs (i + (2 : Int32)).toNatClampNeg).toInt64) &&& (4294967295 : Int64))), .int (xs (i + (3 : Int32)).toNatClampNeg), .ref (ad 21)]) (rest := []) (st1 := [.int q129.1]) hE gg_good C hX (c_La_same_X h0 hA0 hlT hq129) ml_108 ml_109 ml_11 ml_110 hd_La_same ⟨⟨(Nat.le_of_ble_eq_true rfl), (Nat.le_of_ble_eq_true rfl)⟩, (by show cells + 1 ≤ 1067; omega), (by show slots + 6 ≤ 9128; omega)⟩ (Nat.le_of_ble_eq_true rfl) rfl rfl d_La_law_763 ?_
  refine r_istore (pc := 766) (lv' := [(5, .int q129.1), (0, .ref b), (1, .ref (ad 20)), (2, .ref (am 11)), (3, .ref (ad 21)), (4, .int i)]) C d_La_law_766 (by decide) rfl ?_
  refine r_aload_n (pc := 768) C d_La_law_768 rfl 3 rfl ?_
  refine r_aload_n (pc := 769) C d_La_law_769 rfl 1 rfl ?_
  refine r_iload (pc := 770) C d_La_law_770 5 rfl ?_
  refine r_iconst (pc := 772) (v := 1) C d_La_law_772 (by decide) ?_
  refine r_iadd (pc := 773) C d_La_law_773 ?_
  obtain ⟨hi140, h⟩ := ign h
  refine r_sld (pc := 774) C hS hbl hbA hi140 d_La_law_774 ?_
  refine r_i2l (pc := 775) C d_La_law_775 ?_
  refine r_bipush (pc := 776) (v := 32) C d_La_law_776 (by decide) ?_
  refine r_lshl (pc := 778) C d_La_law_778 ?_
  refine r_aload_n (pc := 779) C d_La_law_779 rfl 1 rfl ?_
  refine r_iload (pc := 780) C d_La_law_780 5 rfl ?_
  refine r_iconst (pc := 782) (v := 2) C d_La_law_782 (by decide) ?_
  refine r_iadd (pc := 783) C d_La_law_783 ?_
  obtain ⟨hi139, h⟩ := ign h
  refine r_sld (pc := 784) C hS hbl hbA hi139 d_La_law_784 ?_
  refine r_i2l (pc := 785) C d_La_law_785 ?_
  refine r_ldc2 (pc := 786) (v := 4294967295) C ml_13 d_La_law_786 ?_
  refine r_land (pc := 789) C d_La_law_789 ?_
  refine r_lor (pc := 790) C d_La_law_790 ?_
  refine r_aload_n (pc := 791) C d_La_law_791 rfl 1 rfl ?_
  refine r_iload (pc := 792) C d_La_law_792 5 rfl ?_
  refine r_iconst (pc := 794) (v := 3) C d_La_law_794 (by decide) ?_
  refine r_iadd (pc := 795) C d_La_law_795 ?_
  obtain ⟨hi138, h⟩ := ign h
  refine r_sld (pc := 796) C hS hbl hbA hi138 d_La_law_796 ?_
  obtain ⟨q130, hq130, h⟩ := ob h
  refine r_perm lw_cm ?_
  refine r_callV (pc := 797) (As := [.long ((((xs (i + (1 : Int32)).toNatClampNeg).toInt64) <<< ((32 : Int32).toInt64 &&& 63)) ||| (((xs (i + (2 : Int32)).toNatClampNeg).toInt64) &&& (4294967295 : Int64))), .int (xs (i + (3 : Int32)).toNatClampNeg)]) (rest := []) (st1 := [.int q130.1]) hE gg_good C hX (c_Mo_same_M hE hq130) ml_104 ml_105 ml_106 ml_3 ml_107 hd_Mo_same 11 rfl rfl ⟨⟨(Nat.le_of_ble_eq_true rfl), (Nat.le_of_ble_eq_true rfl)⟩, (by show cells + 1 + 0 ≤ 1067; omega), (by show slots + 6 + 0 ≤ 9128; omega)⟩ (Nat.le_of_ble_eq_true rfl) rfl rfl d_La_law_797 ?_
  refine r_perm lw_mc ?_
  refine r_istore (pc := 800) (lv' := [(6, .int q130.1), (5, .int q129.1), (0, .ref b), (1, .ref (ad 20)), (2, .ref (am 11)), (3, .ref (ad 21)), (4, .int i)]) C d_La_law_800 (by decide) rfl ?_
  refine r_aload_n (pc := 802) C d_La_law_802 rfl 4 rfl ?_
  obtain ⟨q131, hq131, h⟩ := ob h
  refine r_perm lw_cm ?_
  refine r_callV (pc := 803) (As := []) (rest := []) (st1 := [.int q131]) hE gg_good C hX (c_Mo_thrown_M hE hq131) ml_0 ml_1 ml_2 ml_3 ml_4 hd_Mo_thrown 11 rfl rfl ⟨⟨(Nat.le_of_ble_eq_true rfl), (Nat.le_of_ble_eq_true rfl)⟩, (by show cells + 1 + 0 + 0 ≤ 1067; omega), (by show slots + 6 + 0 + 0 ≤ 9128; omega)⟩ (Nat.le_of_ble_eq_true rfl) rfl rfl d_La_law_803 ?_
  refine r_perm lw_mc ?_
  refine r_iload (pc := 806) C d_La_law_806 1 rfl ?_
  refine r_icmp_eq (pc := 808) (tgt := 813) C d_La_law_808 (by decide) (fun c137 => ?_) (fun c137 => ?_)
  · replace h := ip c137 h
    refine r_iload (pc := 813) C d_La_law_813 1 rfl ?_
    refine r_if_ne (pc := 815) (tgt := 837) C d_La_law_815 (by decide) (fun c136 => ?_) (fun c136 => ?_)
    · replace h := iN c136 h
      refine r_goto (pc := 837) (tgt := 865) C d_La_law_837 (by decide) ?_
      refine r_iincK (pc := 865) (w0 := 4) (lv' := [(4, .int (i + 4)), (6, .int q130.1), (5, .int q129.1), (0, .ref b), (1, .ref (ad 20)), (2, .ref (am 11)), (3, .ref (ad 21))]) C d_La_law_865 (by decide) 6 rfl (by decide) rfl ?_
      refine r_goto (pc := 868) (tgt := 33) C d_La_law_868 (by decide) ?_
      refine r_loc (lv' := [(0, .ref b), (1, .ref (ad 20)), (2, .ref (am 11)), (3, .ref (ad 21)), (4, .int (i + 4))]) [3, 4, 5, 6, 0] rfl ?_
      refine r_widen (k1 := cells + 2) (n1 := slots + 12) (by show cells + 1 + 0 + 0 ≤ cells + 2; omega) (by show slots + 6 + 0 + 0 ≤ slots + 12; omega) ?_
      exact ih _ _ _ _ _ _ _ _ _ _ _ _ _ _ _ _ _ h
    · replace h := ip c136 h
      refine r_aload_n (pc := 818) C d_La_law_818 rfl 5 rfl ?_
      refine r_iconst (pc := 819) (v := 0) C d_La_law_819 (by decide) ?_
      obtain ⟨hi135, h⟩ := ign h
      refine r_lald (pc := 820) C 21 2 rfl rfl hi135 d_La_law_820 ?_
      refine r_iload (pc := 821) C d_La_law_821 0 rfl ?_
      refine r_if_eq (pc := 823) (tgt := 830) C d_La_law_823 (by decide) (fun c134 => ?_) (fun c134 => ?_)
      · replace h := ip c134 h
        refine r_lconst (pc := 830) (v := 0) C d_La_law_830 rfl ?_
        refine r_lcmp (pc := 831) C d_La_law_831 ?_
        refine r_if_eq (pc := 832) (tgt := 837) C d_La_law_832 (by decide) (fun c132 => ?_) (fun c132 => ?_)
        · replace h := ip c132 h
          refine r_goto (pc := 837) (tgt := 865) C d_La_law_837 (by decide) ?_
          refine r_iincK (pc := 865) (w0 := 4) (lv' := [(4, .int (i + 4)), (6, .int q130.1), (5, .int q129.1), (0, .ref b), (1, .ref (ad 20)), (2, .ref (am 11)), (3, .ref (ad 21))]) C d_La_law_865 (by decide) 6 rfl (by decide) rfl ?_
          refine r_goto (pc := 868) (tgt := 33) C d_La_law_868 (by decide) ?_
          refine r_loc (lv' := [(0, .ref b), (1, .ref (ad 20)), (2, .ref (am 11)), (3, .ref (ad 21)), (4, .int (i + 4))]) [3, 4, 5, 6, 0] rfl ?_
          refine r_widen (k1 := cells + 2) (n1 := slots + 12) (by show cells + 1 + 0 + 0 ≤ cells + 2; omega) (by show slots + 6 + 0 + 0 ≤ slots + 12; omega) ?_
          exact ih _ _ _ _ _ _ _ _ _ _ _ _ _ _ _ _ _ h
        · replace h := iN c132 h
          refine r_iconst (pc := 835) (v := 0) C d_La_law_835 (by decide) ?_
          exact absurd h (by decide)
      · replace h := iN c134 h
        refine r_lconst (pc := 826) (v := 1) C d_La_law_826 rfl ?_
        refine r_goto (pc := 827) (tgt := 831) C d_La_law_827 (by decide) ?_
        refine r_lcmp (pc := 831) C d_La_law_831 ?_
        refine r_if_eq (pc := 832) (tgt := 837) C d_La_law_832 (by decide) (fun c133 => ?_) (fun c133 => ?_)
        · replace h := ip c133 h
          refine r_goto (pc := 837) (tgt := 865) C d_La_law_837 (by decide) ?_
          refine r_iincK (pc := 865) (w0 := 4) (lv' := [(4, .int (i + 4)), (6, .int q130.1), (5, .int q129.1), (0, .ref b), (1, .ref (ad 20)), (2, .ref (am 11)), (3, .ref (ad 21))]) C d_La_law_865 (by decide) 6 rfl (by decide) rfl ?_
          refine r_goto (pc := 868) (tgt := 33) C d_La_law_868 (by decide) ?_
          refine r_loc (lv' := [(0, .ref b), (1, .ref (ad 20)), (2, .ref (am 11)), (3, .ref (ad 21)), (4, .int (i + 4))]) [3, 4, 5, 6, 0] rfl ?_
          refine r_widen (k1 := cells + 2) (n1 := slots + 12) (by show cells + 1 + 0 + 0 ≤ cells + 2; omega) (by show slots + 6 + 0 + 0 ≤ slots + 12; omega) ?_
          exact ih _ _ _ _ _ _ _ _ _ _ _ _ _ _ _ _ _ h
        · replace h := iN c133 h
          refine r_iconst (pc := 835) (v := 0) C d_La_law_835 (by decide) ?_
          exact absurd h (by decide)
  · replace h := iN c137 h
    refine r_iconst (pc := 811) (v := 0) C d_La_law_811 (by decide) ?_
    exact absurd h (by decide)
def lk_840 (L : Nat) (xs : Nat → Int32) (rec : LSt → Option Int32) (i : Int32) (x : Int32) (s : Int64) (d : DD) (o : (Nat → Int32)) (t : TT) (s2 : Int64) (d2 : DD) (w : (Nat → Int64)) (mk : Int32) (mu : Int64) (mz : Int32) (mw : Int32) (mo : (Nat → Int32)) (md : MD) (mr : MR) (mp : MP) : Option Int32 :=
  (if ((i + (1 : Int32)) < 0 ∨ L ≤ (i + (1 : Int32)).toNatClampNeg) then none else Option.bind (f_SD_count d o (xs (i + (1 : Int32)).toNatClampNeg)) (fun q144 => (if ((i + (1 : Int32)) < 0 ∨ L ≤ (i + (1 : Int32)).toNatClampNeg) then none else Option.bind (f_Mo_count mz mo md (xs (i + (1 : Int32)).toNatClampNeg)) (fun q145 => (if q144 = q145.1 then rec (i + 4, x, s, d, o, t, s2, d2, w, q145.2, mu, mz, mw, mo, md, mr, mp) else some 0)))))
set_option maxHeartbeats 4000000 in
set_option maxRecDepth 100000 in
theorem vk_840 {l : Launch} {D : va_G} {A : Nat → Prop} {cI cZ cJ : ClassId} {sg : State} (h0 : tw sg) (hA0 : ∀ q, A q → sg.heap.size ≤ q) (hlT : l.stackTraces = false) {p : Program} {e : Env} {m : MethodId} {b L : Nat} {xs : Nat → Int32} {below : List Frame} {meth : Method} {c : Code} (C : cx p sg m #[Value.ref b] meth c D clsA (TY cI cZ cJ) A GG R_La code 7) (hr : meth.sig.returnType = ret) (hS : va_X b L xs sg sg.heap) (hbl : b < sg.heap.size) {ad am : Nat → Nat} {cells slots : Nat} (hc : cells + 2 ≤ 1067) (hs : slots + 12 ≤ 9128) {rec : LSt → Option Int32} (ih : ∀ (i : Int32) (x : Int32) (s : Int64) (d : DD) (o : (Nat → Int32)) (t : TT) (s2 : Int64) (d2 : DD) (w : (Nat → Int64)) (mk : Int32) (mu : Int64) (mz : Int32) (mw : Int32) (mo : (Nat → Int32)) (md : MD) (mr : MR) (mp : MP), rec (i, x, s, d, o, t, s2, d2, w, mk, mu, mz, mw, mo, md, mr, mp) = some 1 → vv p l e room_1 sg m #[Value.ref b] below meth c D clsA A 7 (cells + 2) (slots + 12) (lw_Z below #[Value.ref b] sg) 33 [(0, .ref b), (1, .ref (ad 20)), (2, .ref (am 11)), (3, .ref (ad 21)), (4, .int i)] [] (WC ad cI cZ x s d o t s2 d2 ((ad 21, .inl (cJ, 1, .inr (.inl w))) :: WM am cI cZ mk mu mz mw mo md mr mp []))) (i : Int32) (x : Int32) (s : Int64) (d : DD) (o : (Nat → Int32)) (t : TT) (s2 : Int64) (d2 : DD) (w : (Nat → Int64)) (mk : Int32) (mu : Int64) (mz : Int32) (mw : Int32) (mo : (Nat → Int32)) (md : MD) (mr : MR) (mp : MP) (h : lk_840 L xs rec i x s d o t s2 d2 w mk mu mz mw mo md mr mp = some 1) : vv p l e room_1 sg m #[Value.ref b] below meth c D clsA A 7 (cells) (slots) (lw_Z below #[Value.ref b] sg) 840 [(0, .ref b), (1, .ref (ad 20)), (2, .ref (am 11)), (3, .ref (ad 21)), (4, .int i)] [] (WC ad cI cZ x s d o t s2 d2 ((ad 21, .inl (cJ, 1, .inr (.inl w))) :: WM am cI cZ mk mu mz mw mo md mr mp [])) := by
  have hE := lat_stb hA0
  have hX : lat sg sg sg.heap := ⟨State.WarmedH.refl sg, Nat.le_refl _, fun _ _ => rfl⟩
  have hbA : ¬ A b := fun h9 => Nat.not_le_of_lt hbl (hA0 b h9)
  unfold lk_840 at h
  refine r_aload_n (pc := 840) C d_La_law_840 rfl 1 rfl ?_
  refine r_aload_n (pc := 841) C d_La_law_841 rfl 0 rfl ?_
  refine r_iload (pc := 842) C d_La_law_842 4 rfl ?_
  refine r_iconst (pc := 844) (v := 1) C d_La_law_844 (by decide) ?_
  refine r_iadd (pc := 845) C d_La_law_845 ?_
  obtain ⟨hi148, h⟩ := ign h
  refine r_sld (pc := 846) C hS hbl hbA hi148 d_La_law_846 ?_
  obtain ⟨q144, hq144, h⟩ := ob h
  refine r_callV (pc := 847) (As := [.int (xs (i + (1 : Int32)).toNatClampNeg)]) (rest := []) (st1 := [.int q144]) hE gg_good C hX (c_SD_count_X hE hq144) ml_115 ml_116 ml_117 ml_21 ml_118 hd_SD_count 20 rfl rfl ⟨⟨(Nat.le_of_ble_eq_true rfl), (Nat.le_of_ble_eq_true rfl)⟩, (by show cells + 0 ≤ 1067; omega), (by show slots + 0 ≤ 9128; omega)⟩ (Nat.le_of_ble_eq_true rfl) rfl rfl d_La_law_847 ?_
  refine r_aload_n (pc := 850) C d_La_law_850 rfl 2 rfl ?_
  refine r_aload_n (pc := 851) C d_La_law_851 rfl 0 rfl ?_
  refine r_iload (pc := 852) C d_La_law_852 4 rfl ?_
  refine r_iconst (pc := 854) (v := 1) C d_La_law_854 (by decide) ?_
  refine r_iadd (pc := 855) C d_La_law_855 ?_
  obtain ⟨hi147, h⟩ := ign h
  refine r_sld (pc := 856) C hS hbl hbA hi147 d_La_law_856 ?_
  obtain ⟨q145, hq145, h⟩ := ob h
  refine r_perm lw_cm ?_
  refine r_callV (pc := 857) (As := [.int (xs (i + (1 : Int32)).toNatClampNeg)]) (rest := [.int q144]) (st1 := [.int q145.1, .int q144]) hE gg_good C hX (c_Mo_count_M hE hq145) ml_111 ml_112 ml_113 ml_3 ml_114 hd_Mo_count 11 rfl rfl ⟨⟨(Nat.le_of_ble_eq_true rfl), (Nat.le_of_ble_eq_true rfl)⟩, (by show cells + 0 + 0 ≤ 1067; omega), (by show slots + 0 + 0 ≤ 9128; omega)⟩ (Nat.le_of_ble_eq_true rfl) rfl rfl d_La_law_857 ?_
  refine r_perm lw_mc ?_
  refine r_icmp_eq (pc := 860) (tgt := 865) C d_La_law_860 (by decide) (fun c146 => ?_) (fun c146 => ?_)
  · replace h := ip c146 h
    refine r_iincK (pc := 865) (w0 := 4) (lv' := [(4, .int (i + 4)), (0, .ref b), (1, .ref (ad 20)), (2, .ref (am 11)), (3, .ref (ad 21))]) C d_La_law_865 (by decide) 4 rfl (by decide) rfl ?_
    refine r_goto (pc := 868) (tgt := 33) C d_La_law_868 (by decide) ?_
    refine r_loc (lv' := [(0, .ref b), (1, .ref (ad 20)), (2, .ref (am 11)), (3, .ref (ad 21)), (4, .int (i + 4))]) [1, 2, 3, 4, 0] rfl ?_
    refine r_widen (k1 := cells + 2) (n1 := slots + 12) (by show cells + 0 + 0 ≤ cells + 2; omega) (by show slots + 0 + 0 ≤ slots + 12; omega) ?_
    exact ih _ _ _ _ _ _ _ _ _ _ _ _ _ _ _ _ _ h
  · replace h := iN c146 h
    refine r_iconst (pc := 863) (v := 0) C d_La_law_863 (by decide) ?_
    exact absurd h (by decide)
