def lb_law (L : Nat) (xs : Nat → Int32) (rec : LSt → Option Int32) (i : Int32) (x : Int32) (s : Int64) (d : DD) (o : (Nat → Int32)) (t : TT) (s2 : Int64) (d2 : DD) (w : (Nat → Int64)) (mk : Int32) (mu : Int64) (mz : Int32) (mw : Int32) (mo : (Nat → Int32)) (md : MD) (mr : MR) (mp : MP) : Option Int32 :=
  (if (Int32.ofNat L) - (4 : Int32) < i then some 1 else (if (i < 0 ∨ L ≤ i.toNatClampNeg) then none else (if (xs i.toNatClampNeg) &&& (15 : Int32) = 0 then lk_124 L xs rec i x s d o t s2 d2 w mk mu mz mw mo md mr mp else (if (xs i.toNatClampNeg) &&& (15 : Int32) = 1 then lk_180 L xs rec i x s d o t s2 d2 w mk mu mz mw mo md mr mp else (if (xs i.toNatClampNeg) &&& (15 : Int32) = 2 then lk_235 L xs rec i x s d o t s2 d2 w mk mu mz mw mo md mr mp else (if (xs i.toNatClampNeg) &&& (15 : Int32) = 3 then lk_303 L xs rec i x s d o t s2 d2 w mk mu mz mw mo md mr mp else (if (xs i.toNatClampNeg) &&& (15 : Int32) = 4 then lk_394 L xs rec i x s d o t s2 d2 w mk mu mz mw mo md mr mp else (if (xs i.toNatClampNeg) &&& (15 : Int32) = 5 then lk_407 L xs rec i x s d o t s2 d2 w mk mu mz mw mo md mr mp else (if (xs i.toNatClampNeg) &&& (15 : Int32) = 6 then lk_470 L xs rec i x s d o t s2 d2 w mk mu mz mw mo md mr mp else (if (xs i.toNatClampNeg) &&& (15 : Int32) = 7 then lk_483 L xs rec i x s d o t s2 d2 w mk mu mz mw mo md mr mp else (if (xs i.toNatClampNeg) &&& (15 : Int32) = 8 then lk_527 L xs rec i x s d o t s2 d2 w mk mu mz mw mo md mr mp else (if (xs i.toNatClampNeg) &&& (15 : Int32) = 9 then lk_540 L xs rec i x s d o t s2 d2 w mk mu mz mw mo md mr mp else (if (xs i.toNatClampNeg) &&& (15 : Int32) = 10 then lk_596 L xs rec i x s d o t s2 d2 w mk mu mz mw mo md mr mp else (if (xs i.toNatClampNeg) &&& (15 : Int32) = 11 then lk_609 L xs rec i x s d o t s2 d2 w mk mu mz mw mo md mr mp else (if (xs i.toNatClampNeg) &&& (15 : Int32) = 12 then lk_677 L xs rec i x s d o t s2 d2 w mk mu mz mw mo md mr mp else (if (xs i.toNatClampNeg) &&& (15 : Int32) = 13 then lk_733 L xs rec i x s d o t s2 d2 w mk mu mz mw mo md mr mp else (if (xs i.toNatClampNeg) &&& (15 : Int32) = 14 then lk_840 L xs rec i x s d o t s2 d2 w mk mu mz mw mo md mr mp else rec (i + 4, x, s, d, o, t, s2, d2, w, mk, mu, mz, mw, mo, md, mr, mp))))))))))))))))))
def bd_law (L : Nat) (xs : Nat → Int32) (rec : LSt → Option Int32) (z : LSt) : Option Int32 := lb_law L xs rec z.1 z.2.1 z.2.2.1 z.2.2.2.1 z.2.2.2.2.1 z.2.2.2.2.2.1 z.2.2.2.2.2.2.1 z.2.2.2.2.2.2.2.1 z.2.2.2.2.2.2.2.2.1 z.2.2.2.2.2.2.2.2.2.1 z.2.2.2.2.2.2.2.2.2.2.1 z.2.2.2.2.2.2.2.2.2.2.2.1 z.2.2.2.2.2.2.2.2.2.2.2.2.1 z.2.2.2.2.2.2.2.2.2.2.2.2.2.1 z.2.2.2.2.2.2.2.2.2.2.2.2.2.2.1 z.2.2.2.2.2.2.2.2.2.2.2.2.2.2.2.1 z.2.2.2.2.2.2.2.2.2.2.2.2.2.2.2.2
set_option maxHeartbeats 4000000 in
set_option maxRecDepth 100000 in
theorem vl_law {l : Launch} {D : va_G} {A : Nat → Prop} {cI cZ cJ : ClassId} {sg : State} (h0 : tw sg) (hA0 : ∀ q, A q → sg.heap.size ≤ q) (hlT : l.stackTraces = false) {p : Program} {e : Env} {m : MethodId} {b L : Nat} {xs : Nat → Int32} {below : List Frame} {meth : Method} {c : Code} (C : cx p sg m #[Value.ref b] meth c D clsA (TY cI cZ cJ) A GG R_La code 7) (hr : meth.sig.returnType = ret) (hS : va_X b L xs sg sg.heap) (hbl : b < sg.heap.size) {ad am : Nat → Nat}  : ∀ (n cells slots : Nat), cells + 2 * n ≤ 1067 → slots + 12 * n ≤ 9128 → ∀ (i : Int32) (x : Int32) (s : Int64) (d : DD) (o : (Nat → Int32)) (t : TT) (s2 : Int64) (d2 : DD) (w : (Nat → Int64)) (mk : Int32) (mu : Int64) (mz : Int32) (mw : Int32) (mo : (Nat → Int32)) (md : MD) (mr : MR) (mp : MP), itn (bd_law L xs) n (i, x, s, d, o, t, s2, d2, w, mk, mu, mz, mw, mo, md, mr, mp) = some 1 → vv p l e room_1 sg m #[Value.ref b] below meth c D clsA A 7 (cells) (slots) (lw_Z below #[Value.ref b] sg) 33 [(0, .ref b), (1, .ref (ad 20)), (2, .ref (am 11)), (3, .ref (ad 21)), (4, .int i)] [] (WC ad cI cZ x s d o t s2 d2 ((ad 21, .inl (cJ, 1, .inr (.inl w))) :: WM am cI cZ mk mu mz mw mo md mr mp [])) := by
  have hE := lat_stb hA0
  have hX : lat sg sg sg.heap := ⟨State.WarmedH.refl sg, Nat.le_refl _, fun _ _ => rfl⟩
  have hbA : ¬ A b := fun h9 => Nat.not_le_of_lt hbl (hA0 b h9)
  intro n
  induction n with
  | zero =>
    intro cells slots _ _ i x s d o t s2 d2 w mk mu mz mw mo md mr mp h
    cases h
  | succ n IH =>
    intro cells slots hc' hs' i x s d o t s2 d2 w mk mu mz mw mo md mr mp h
    have hc : cells + 2 ≤ 1067 := by omega
    have hs : slots + 12 ≤ 9128 := by omega
    have ih := IH (cells + 2) (slots + 12) (by omega) (by omega)
    rw [itn_s] at h
    unfold bd_law at h
    dsimp only at h
    unfold lb_law at h
    refine r_iload (pc := 33) C d_La_law_33 4 rfl ?_
    refine r_aload_n (pc := 35) C d_La_law_35 rfl 0 rfl ?_
    refine r_slen (pc := 36) C hS hbl hbA d_La_law_36 ?_
    refine r_iconst (pc := 37) (v := 4) C d_La_law_37 (by decide) ?_
    refine r_isub (pc := 38) C d_La_law_38 ?_
    refine r_icmp_gt (pc := 39) (tgt := 871) C d_La_law_39 (by decide) (fun c9017 => ?_) (fun c9017 => ?_)
    · replace h := ip c9017 h
      refine r_iconst (pc := 871) (v := 1) C d_La_law_871 (by decide) ?_
      exact r_lend (pc := 872) C hA0 hr (by show cells ≤ 1067; omega) (by show slots ≤ 9128; omega) d_La_law_872
    · replace h := iN c9017 h
      refine r_aload_n (pc := 42) C d_La_law_42 rfl 0 rfl ?_
      refine r_iload (pc := 43) C d_La_law_43 4 rfl ?_
      obtain ⟨hi9016, h⟩ := ign h
      refine r_sld (pc := 45) C hS hbl hbA hi9016 d_La_law_45 ?_
      refine r_bipush (pc := 46) (v := 15) C d_La_law_46 (by decide) ?_
      refine r_iand (pc := 48) C d_La_law_48 ?_
      by_cases c9001 : (xs i.toNatClampNeg) &&& (15 : Int32) = 0
      · replace h := ip c9001 h
        refine r_tcase (pc := 49) (tgt := 124) C d_La_law_49 c9001 (by decide) (by decide) rfl (by decide) ?_
        exact vk_124 h0 hA0 hlT C hr hS hbl hc hs ih i x s d o t s2 d2 w mk mu mz mw mo md mr mp h
      replace h := iN c9001 h
      by_cases c9002 : (xs i.toNatClampNeg) &&& (15 : Int32) = 1
      · replace h := ip c9002 h
        refine r_tcase (pc := 49) (tgt := 180) C d_La_law_49 c9002 (by decide) (by decide) rfl (by decide) ?_
        exact vk_180 h0 hA0 hlT C hr hS hbl hc hs ih i x s d o t s2 d2 w mk mu mz mw mo md mr mp h
      replace h := iN c9002 h
      by_cases c9003 : (xs i.toNatClampNeg) &&& (15 : Int32) = 2
      · replace h := ip c9003 h
        refine r_tcase (pc := 49) (tgt := 235) C d_La_law_49 c9003 (by decide) (by decide) rfl (by decide) ?_
        exact vk_235 h0 hA0 hlT C hr hS hbl hc hs ih i x s d o t s2 d2 w mk mu mz mw mo md mr mp h
      replace h := iN c9003 h
      by_cases c9004 : (xs i.toNatClampNeg) &&& (15 : Int32) = 3
      · replace h := ip c9004 h
        refine r_tcase (pc := 49) (tgt := 303) C d_La_law_49 c9004 (by decide) (by decide) rfl (by decide) ?_
        exact vk_303 h0 hA0 hlT C hr hS hbl hc hs ih i x s d o t s2 d2 w mk mu mz mw mo md mr mp h
      replace h := iN c9004 h
      by_cases c9005 : (xs i.toNatClampNeg) &&& (15 : Int32) = 4
      · replace h := ip c9005 h
        refine r_tcase (pc := 49) (tgt := 394) C d_La_law_49 c9005 (by decide) (by decide) rfl (by decide) ?_
        exact vk_394 h0 hA0 hlT C hr hS hbl hc hs ih i x s d o t s2 d2 w mk mu mz mw mo md mr mp h
      replace h := iN c9005 h
      by_cases c9006 : (xs i.toNatClampNeg) &&& (15 : Int32) = 5
      · replace h := ip c9006 h
        refine r_tcase (pc := 49) (tgt := 407) C d_La_law_49 c9006 (by decide) (by decide) rfl (by decide) ?_
        exact vk_407 h0 hA0 hlT C hr hS hbl hc hs ih i x s d o t s2 d2 w mk mu mz mw mo md mr mp h
      replace h := iN c9006 h
      by_cases c9007 : (xs i.toNatClampNeg) &&& (15 : Int32) = 6
      · replace h := ip c9007 h
        refine r_tcase (pc := 49) (tgt := 470) C d_La_law_49 c9007 (by decide) (by decide) rfl (by decide) ?_
        exact vk_470 h0 hA0 hlT C hr hS hbl hc hs ih i x s d o t s2 d2 w mk mu mz mw mo md mr mp h
      replace h := iN c9007 h
      by_cases c9008 : (xs i.toNatClampNeg) &&& (15 : Int32) = 7
      · replace h := ip c9008 h
        refine r_tcase (pc := 49) (tgt := 483) C d_La_law_49 c9008 (by decide) (by decide) rfl (by decide) ?_
        exact vk_483 h0 hA0 hlT C hr hS hbl hc hs ih i x s d o t s2 d2 w mk mu mz mw mo md mr mp h
      replace h := iN c9008 h
      by_cases c9009 : (xs i.toNatClampNeg) &&& (15 : Int32) = 8
      · replace h := ip c9009 h
        refine r_tcase (pc := 49) (tgt := 527) C d_La_law_49 c9009 (by decide) (by decide) rfl (by decide) ?_
        exact vk_527 h0 hA0 hlT C hr hS hbl hc hs ih i x s d o t s2 d2 w mk mu mz mw mo md mr mp h
      replace h := iN c9009 h
      by_cases c9010 : (xs i.toNatClampNeg) &&& (15 : Int32) = 9
      · replace h := ip c9010 h
        refine r_tcase (pc := 49) (tgt := 540) C d_La_law_49 c9010 (by decide) (by decide) rfl (by decide) ?_
        exact vk_540 h0 hA0 hlT C hr hS hbl hc hs ih i x s d o t s2 d2 w mk mu mz mw mo md mr mp h
      replace h := iN c9010 h
      by_cases c9011 : (xs i.toNatClampNeg) &&& (15 : Int32) = 10
      · replace h := ip c9011 h
        refine r_tcase (pc := 49) (tgt := 596) C d_La_law_49 c9011 (by decide) (by decide) rfl (by decide) ?_
        exact vk_596 h0 hA0 hlT C hr hS hbl hc hs ih i x s d o t s2 d2 w mk mu mz mw mo md mr mp h
      replace h := iN c9011 h
      by_cases c9012 : (xs i.toNatClampNeg) &&& (15 : Int32) = 11
      · replace h := ip c9012 h
        refine r_tcase (pc := 49) (tgt := 609) C d_La_law_49 c9012 (by decide) (by decide) rfl (by decide) ?_
        exact vk_609 h0 hA0 hlT C hr hS hbl hc hs ih i x s d o t s2 d2 w mk mu mz mw mo md mr mp h
      replace h := iN c9012 h
      by_cases c9013 : (xs i.toNatClampNeg) &&& (15 : Int32) = 12
      · replace h := ip c9013 h
        refine r_tcase (pc := 49) (tgt := 677) C d_La_law_49 c9013 (by decide) (by decide) rfl (by decide) ?_
        exact vk_677 h0 hA0 hlT C hr hS hbl hc hs ih i x s d o t s2 d2 w mk mu mz mw mo md mr mp h
      replace h := iN c9013 h
      by_cases c9014 : (xs i.toNatClampNeg) &&& (15 : Int32) = 13
      · replace h := ip c9014 h
        refine r_tcase (pc := 49) (tgt := 733) C d_La_law_49 c9014 (by decide) (by decide) rfl (by decide) ?_
        exact vk_733 h0 hA0 hlT C hr hS hbl hc hs ih i x s d o t s2 d2 w mk mu mz mw mo md mr mp h
      replace h := iN c9014 h
      by_cases c9015 : (xs i.toNatClampNeg) &&& (15 : Int32) = 14
      · replace h := ip c9015 h
        refine r_tcase (pc := 49) (tgt := 840) C d_La_law_49 c9015 (by decide) (by decide) rfl (by decide) ?_
        exact vk_840 h0 hA0 hlT C hr hS hbl hc hs ih i x s d o t s2 d2 w mk mu mz mw mo md mr mp h
      replace h := iN c9015 h
      refine r_tableOut (pc := 49) (tgt := 865) C d_La_law_49 (tout [0, 1, 2, 3, 4, 5, 6, 7, 8, 9, 10, 11, 12, 13, 14] (by decide) (List.forall_mem_cons.mpr ⟨c9001, List.forall_mem_cons.mpr ⟨c9002, List.forall_mem_cons.mpr ⟨c9003, List.forall_mem_cons.mpr ⟨c9004, List.forall_mem_cons.mpr ⟨c9005, List.forall_mem_cons.mpr ⟨c9006, List.forall_mem_cons.mpr ⟨c9007, List.forall_mem_cons.mpr ⟨c9008, List.forall_mem_cons.mpr ⟨c9009, List.forall_mem_cons.mpr ⟨c9010, List.forall_mem_cons.mpr ⟨c9011, List.forall_mem_cons.mpr ⟨c9012, List.forall_mem_cons.mpr ⟨c9013, List.forall_mem_cons.mpr ⟨c9014, List.forall_mem_cons.mpr ⟨c9015, fun _ h => absurd h List.not_mem_nil⟩⟩⟩⟩⟩⟩⟩⟩⟩⟩⟩⟩⟩⟩⟩)) (by decide) ?_
      refine r_iincK (pc := 865) (w0 := 4) (lv' := [(4, .int (i + 4)), (0, .ref b), (1, .ref (ad 20)), (2, .ref (am 11)), (3, .ref (ad 21))]) C d_La_law_865 (by decide) 4 rfl (by decide) rfl ?_
      refine r_goto (pc := 868) (tgt := 33) C d_La_law_868 (by decide) ?_
      refine r_loc (lv' := [(0, .ref b), (1, .ref (ad 20)), (2, .ref (am 11)), (3, .ref (ad 21)), (4, .int (i + 4))]) [1, 2, 3, 4, 0] rfl ?_
      refine r_widen (k1 := cells + 2) (n1 := slots + 12) (by show cells ≤ cells + 2; omega) (by show slots ≤ slots + 12; omega) ?_
      exact ih _ _ _ _ _ _ _ _ _ _ _ _ _ _ _ _ _ h
