theorem en1 {k : Int32} {w0 b : Int64} {R : Option Int32} (hR : R = some 1) (hw : k = 0 → w0 = b) : (if k = k then (if k = 0 then (if ((0 : Int32) < 0 ∨ 1 ≤ (0 : Int32).toNatClampNeg) then none else (if lg_cmp w0 b = 0 then R else some 0)) else R) else some 0) = some 1 := by
  rw [if_pos rfl]
  by_cases c : k = 0
  · rw [if_pos c, if_neg (by decide), if_pos (Eq.mpr lgc (hw c))]; exact hR
  · rw [if_neg c]; exact hR
theorem en2 {k b : Int32} {w0 : Int64} {R : Option Int32} (hR : R = some 1) (hw : k = 0 → w0 = wz b) : (if k = k then (if k = 0 then (if ((0 : Int32) < 0 ∨ 1 ≤ (0 : Int32).toNatClampNeg) then none else (if b = 0 then (if lg_cmp w0 (0 : Int64) = 0 then R else some 0) else (if lg_cmp w0 (1 : Int64) = 0 then R else some 0))) else R) else some 0) = some 1 := by
  rw [if_pos rfl]
  by_cases c : k = 0
  · rw [if_pos c, if_neg (by decide)]
    have h := hw c
    unfold wz at h
    by_cases c2 : b = 0
    · rw [if_pos c2] at h ⊢
      rw [if_pos (Eq.mpr lgc h)]; exact hR
    · rw [if_neg c2] at h ⊢
      rw [if_pos (Eq.mpr lgc h)]; exact hR
  · rw [if_neg c]; exact hR
theorem en0 {k : Int32} {R : Option Int32} (hR : R = some 1) : (if k = k then R else some 0) = some 1 := by rw [if_pos rfl]; exact hR
theorem k_124 {L : Nat} {xs : Nat → Int32} {rec : LSt → Option Int32} {i : Int32} (hrec : ∀ {x mk mz mw : Int32} {s s2 mu : Int64} {d d2 : DD} {o mo : Nat → Int32} {t : TT} {w : Nat → Int64} {md : MD} {mr : MR} {mp : MP}, II x s d o mu mz mw mo md → rec (i + 4, x, s, d, o, t, s2, d2, w, mk, mu, mz, mw, mo, md, mr, mp) = some 1) (g1 : ¬ ((i + (1 : Int32)) < 0 ∨ L ≤ (i + (1 : Int32)).toNatClampNeg)) (g2 : ¬ ((i + (2 : Int32)) < 0 ∨ L ≤ (i + (2 : Int32)).toNatClampNeg)) (g3 : ¬ ((i + (3 : Int32)) < 0 ∨ L ≤ (i + (3 : Int32)).toNatClampNeg)) {x mk mz mw : Int32} {s s2 mu : Int64} {d d2 : DD} {o mo : Nat → Int32} {t : TT} {w : Nat → Int64} {md : MD} {mr : MR} {mp : MP} (hI : II x s d o mu mz mw mo md) : lk_124 L xs rec i x s d o t s2 d2 w mk mu mz mw mo md mr mp = some 1 := by
  have _ := g2; have _ := g3; have _ := g1
  obtain ⟨k, s', d', o', w', b, mu', mz', mo', md', mr', e1, e2, hw, hI'⟩ := op_draw hI (xs (i + (1 : Int32)).toNatClampNeg) w mk mr
  unfold lk_124 f_Mo_thrown
  rw [if_neg g1, e1, ob1, if_neg g1, e2, ob1, ob1]
  dsimp only
  exact en1 (hrec hI') hw
theorem k_180 {L : Nat} {xs : Nat → Int32} {rec : LSt → Option Int32} {i : Int32} (hrec : ∀ {x mk mz mw : Int32} {s s2 mu : Int64} {d d2 : DD} {o mo : Nat → Int32} {t : TT} {w : Nat → Int64} {md : MD} {mr : MR} {mp : MP}, II x s d o mu mz mw mo md → rec (i + 4, x, s, d, o, t, s2, d2, w, mk, mu, mz, mw, mo, md, mr, mp) = some 1) (g1 : ¬ ((i + (1 : Int32)) < 0 ∨ L ≤ (i + (1 : Int32)).toNatClampNeg)) (g2 : ¬ ((i + (2 : Int32)) < 0 ∨ L ≤ (i + (2 : Int32)).toNatClampNeg)) (g3 : ¬ ((i + (3 : Int32)) < 0 ∨ L ≤ (i + (3 : Int32)).toNatClampNeg)) {x mk mz mw : Int32} {s s2 mu : Int64} {d d2 : DD} {o mo : Nat → Int32} {t : TT} {w : Nat → Int64} {md : MD} {mr : MR} {mp : MP} (hI : II x s d o mu mz mw mo md) : lk_180 L xs rec i x s d o t s2 d2 w mk mu mz mw mo md mr mp = some 1 := by
  have _ := g2; have _ := g3; have _ := g1
  obtain ⟨h1, h2, h3, h4⟩ := hI
  unfold lk_180 f_SD_again f_So_restart f_Mo_again
  rw [if_neg g1, if_neg g2, ob1, ob1, if_neg g1, if_neg g2, ob1]
  exact hrec ⟨h1, rfl, h3, h4⟩
theorem k_235 {L : Nat} {xs : Nat → Int32} {rec : LSt → Option Int32} {i : Int32} (hrec : ∀ {x mk mz mw : Int32} {s s2 mu : Int64} {d d2 : DD} {o mo : Nat → Int32} {t : TT} {w : Nat → Int64} {md : MD} {mr : MR} {mp : MP}, II x s d o mu mz mw mo md → rec (i + 4, x, s, d, o, t, s2, d2, w, mk, mu, mz, mw, mo, md, mr, mp) = some 1) (g1 : ¬ ((i + (1 : Int32)) < 0 ∨ L ≤ (i + (1 : Int32)).toNatClampNeg)) (g2 : ¬ ((i + (2 : Int32)) < 0 ∨ L ≤ (i + (2 : Int32)).toNatClampNeg)) (g3 : ¬ ((i + (3 : Int32)) < 0 ∨ L ≤ (i + (3 : Int32)).toNatClampNeg)) {x mk mz mw : Int32} {s s2 mu : Int64} {d d2 : DD} {o mo : Nat → Int32} {t : TT} {w : Nat → Int64} {md : MD} {mr : MR} {mp : MP} (hI : II x s d o mu mz mw mo md) : lk_235 L xs rec i x s d o t s2 d2 w mk mu mz mw mo md mr mp = some 1 := by
  have _ := g2; have _ := g3; have _ := g1
  obtain ⟨k, w', b, e1, e2, hw⟩ := op_part hI (xs (i + (1 : Int32)).toNatClampNeg) (xs (i + (2 : Int32)).toNatClampNeg) w mk
  unfold lk_235 f_Mo_thrown
  rw [if_neg g1, if_neg g2, e1, ob1, if_neg g1, if_neg g2, e2, ob1, ob1]
  dsimp only
  exact en1 (hrec hI) hw
theorem k_303 {L : Nat} {xs : Nat → Int32} {rec : LSt → Option Int32} {i : Int32} (hrec : ∀ {x mk mz mw : Int32} {s s2 mu : Int64} {d d2 : DD} {o mo : Nat → Int32} {t : TT} {w : Nat → Int64} {md : MD} {mr : MR} {mp : MP}, II x s d o mu mz mw mo md → rec (i + 4, x, s, d, o, t, s2, d2, w, mk, mu, mz, mw, mo, md, mr, mp) = some 1) (g1 : ¬ ((i + (1 : Int32)) < 0 ∨ L ≤ (i + (1 : Int32)).toNatClampNeg)) (g2 : ¬ ((i + (2 : Int32)) < 0 ∨ L ≤ (i + (2 : Int32)).toNatClampNeg)) (g3 : ¬ ((i + (3 : Int32)) < 0 ∨ L ≤ (i + (3 : Int32)).toNatClampNeg)) {x mk mz mw : Int32} {s s2 mu : Int64} {d d2 : DD} {o mo : Nat → Int32} {t : TT} {w : Nat → Int64} {md : MD} {mr : MR} {mp : MP} (hI : II x s d o mu mz mw mo md) : lk_303 L xs rec i x s d o t s2 d2 w mk mu mz mw mo md mr mp = some 1 := by
  have _ := g2; have _ := g3; have _ := g1
  unfold lk_303 f_Mo_thrown
  rw [if_neg g1, if_neg g2]
  by_cases c : (xs (i + (2 : Int32)).toNatClampNeg) = 0
  · obtain ⟨k, o', t', w', b, mo', mp', e1, e2, hw, hI'⟩ := op_leave hI (xs (i + (1 : Int32)).toNatClampNeg) (b := 0) (Or.inl rfl) t w mk mp
    rw [if_pos c, e1, ob1, if_neg g1, if_neg g2, if_pos c, e2, ob1, ob1]
    dsimp only
    exact en2 (hrec hI') hw
  · obtain ⟨k, o', t', w', b, mo', mp', e1, e2, hw, hI'⟩ := op_leave hI (xs (i + (1 : Int32)).toNatClampNeg) (b := 1) (Or.inr rfl) t w mk mp
    rw [if_neg c, e1, ob1, if_neg g1, if_neg g2, if_neg c, e2, ob1, ob1]
    dsimp only
    exact en2 (hrec hI') hw
theorem k_394 {L : Nat} {xs : Nat → Int32} {rec : LSt → Option Int32} {i : Int32} (hrec : ∀ {x mk mz mw : Int32} {s s2 mu : Int64} {d d2 : DD} {o mo : Nat → Int32} {t : TT} {w : Nat → Int64} {md : MD} {mr : MR} {mp : MP}, II x s d o mu mz mw mo md → rec (i + 4, x, s, d, o, t, s2, d2, w, mk, mu, mz, mw, mo, md, mr, mp) = some 1) (g1 : ¬ ((i + (1 : Int32)) < 0 ∨ L ≤ (i + (1 : Int32)).toNatClampNeg)) (g2 : ¬ ((i + (2 : Int32)) < 0 ∨ L ≤ (i + (2 : Int32)).toNatClampNeg)) (g3 : ¬ ((i + (3 : Int32)) < 0 ∨ L ≤ (i + (3 : Int32)).toNatClampNeg)) {x mk mz mw : Int32} {s s2 mu : Int64} {d d2 : DD} {o mo : Nat → Int32} {t : TT} {w : Nat → Int64} {md : MD} {mr : MR} {mp : MP} (hI : II x s d o mu mz mw mo md) : lk_394 L xs rec i x s d o t s2 d2 w mk mu mz mw mo md mr mp = some 1 := by
  have _ := g2; have _ := g3; have _ := g1
  obtain ⟨f, t', mp', e1, e2⟩ := op_conditions hI t mp
  unfold lk_394
  rw [e1, ob1, e2, ob1]
  exact en0 (hrec hI)
theorem k_407 {L : Nat} {xs : Nat → Int32} {rec : LSt → Option Int32} {i : Int32} (hrec : ∀ {x mk mz mw : Int32} {s s2 mu : Int64} {d d2 : DD} {o mo : Nat → Int32} {t : TT} {w : Nat → Int64} {md : MD} {mr : MR} {mp : MP}, II x s d o mu mz mw mo md → rec (i + 4, x, s, d, o, t, s2, d2, w, mk, mu, mz, mw, mo, md, mr, mp) = some 1) (g1 : ¬ ((i + (1 : Int32)) < 0 ∨ L ≤ (i + (1 : Int32)).toNatClampNeg)) (g2 : ¬ ((i + (2 : Int32)) < 0 ∨ L ≤ (i + (2 : Int32)).toNatClampNeg)) (g3 : ¬ ((i + (3 : Int32)) < 0 ∨ L ≤ (i + (3 : Int32)).toNatClampNeg)) {x mk mz mw : Int32} {s s2 mu : Int64} {d d2 : DD} {o mo : Nat → Int32} {t : TT} {w : Nat → Int64} {md : MD} {mr : MR} {mp : MP} (hI : II x s d o mu mz mw mo md) : lk_407 L xs rec i x s d o t s2 d2 w mk mu mz mw mo md mr mp = some 1 := by
  have _ := g2; have _ := g3; have _ := g1
  obtain ⟨k, x', t', w', b, mw', mp', e1, e2, hw, hI'⟩ := op_verdict hI (xs (i + (1 : Int32)).toNatClampNeg) t w mk mp
  unfold lk_407 f_Mo_thrown
  rw [if_neg g1, e1, ob1, if_neg g1, e2, ob1, ob1]
  dsimp only
  exact en2 (hrec hI') hw
theorem k_470 {L : Nat} {xs : Nat → Int32} {rec : LSt → Option Int32} {i : Int32} (hrec : ∀ {x mk mz mw : Int32} {s s2 mu : Int64} {d d2 : DD} {o mo : Nat → Int32} {t : TT} {w : Nat → Int64} {md : MD} {mr : MR} {mp : MP}, II x s d o mu mz mw mo md → rec (i + 4, x, s, d, o, t, s2, d2, w, mk, mu, mz, mw, mo, md, mr, mp) = some 1) (g1 : ¬ ((i + (1 : Int32)) < 0 ∨ L ≤ (i + (1 : Int32)).toNatClampNeg)) (g2 : ¬ ((i + (2 : Int32)) < 0 ∨ L ≤ (i + (2 : Int32)).toNatClampNeg)) (g3 : ¬ ((i + (3 : Int32)) < 0 ∨ L ≤ (i + (3 : Int32)).toNatClampNeg)) {x mk mz mw : Int32} {s s2 mu : Int64} {d d2 : DD} {o mo : Nat → Int32} {t : TT} {w : Nat → Int64} {md : MD} {mr : MR} {mp : MP} (hI : II x s d o mu mz mw mo md) : lk_470 L xs rec i x s d o t s2 d2 w mk mu mz mw mo md mr mp = some 1 := by
  have _ := g2; have _ := g3; have _ := g1
  obtain ⟨r, t', mp', e1, e2⟩ := op_holds hI t mp
  unfold lk_470
  rw [e1, ob1, e2, ob1]
  exact en0 (hrec hI)
theorem k_483 {L : Nat} {xs : Nat → Int32} {rec : LSt → Option Int32} {i : Int32} (hrec : ∀ {x mk mz mw : Int32} {s s2 mu : Int64} {d d2 : DD} {o mo : Nat → Int32} {t : TT} {w : Nat → Int64} {md : MD} {mr : MR} {mp : MP}, II x s d o mu mz mw mo md → rec (i + 4, x, s, d, o, t, s2, d2, w, mk, mu, mz, mw, mo, md, mr, mp) = some 1) (g1 : ¬ ((i + (1 : Int32)) < 0 ∨ L ≤ (i + (1 : Int32)).toNatClampNeg)) (g2 : ¬ ((i + (2 : Int32)) < 0 ∨ L ≤ (i + (2 : Int32)).toNatClampNeg)) (g3 : ¬ ((i + (3 : Int32)) < 0 ∨ L ≤ (i + (3 : Int32)).toNatClampNeg)) {x mk mz mw : Int32} {s s2 mu : Int64} {d d2 : DD} {o mo : Nat → Int32} {t : TT} {w : Nat → Int64} {md : MD} {mr : MR} {mp : MP} (hI : II x s d o mu mz mw mo md) : lk_483 L xs rec i x s d o t s2 d2 w mk mu mz mw mo md mr mp = some 1 := by
  have _ := g2; have _ := g3; have _ := g1
  obtain ⟨k, o', t', w', b, mo', mp', e1, e2, hw, hI'⟩ := op_shorter hI t w mk mp
  unfold lk_483 f_Mo_thrown
  rw [e1, ob1, e2, ob1, ob1]
  dsimp only
  exact en1 (hrec hI') hw
theorem k_527 {L : Nat} {xs : Nat → Int32} {rec : LSt → Option Int32} {i : Int32} (hrec : ∀ {x mk mz mw : Int32} {s s2 mu : Int64} {d d2 : DD} {o mo : Nat → Int32} {t : TT} {w : Nat → Int64} {md : MD} {mr : MR} {mp : MP}, II x s d o mu mz mw mo md → rec (i + 4, x, s, d, o, t, s2, d2, w, mk, mu, mz, mw, mo, md, mr, mp) = some 1) (g1 : ¬ ((i + (1 : Int32)) < 0 ∨ L ≤ (i + (1 : Int32)).toNatClampNeg)) (g2 : ¬ ((i + (2 : Int32)) < 0 ∨ L ≤ (i + (2 : Int32)).toNatClampNeg)) (g3 : ¬ ((i + (3 : Int32)) < 0 ∨ L ≤ (i + (3 : Int32)).toNatClampNeg)) {x mk mz mw : Int32} {s s2 mu : Int64} {d d2 : DD} {o mo : Nat → Int32} {t : TT} {w : Nat → Int64} {md : MD} {mr : MR} {mp : MP} (hI : II x s d o mu mz mw mo md) : lk_527 L xs rec i x s d o t s2 d2 w mk mu mz mw mo md mr mp = some 1 := by
  have _ := g2; have _ := g3; have _ := g1
  obtain ⟨r, t', mp', e1, e2⟩ := op_minimal hI t mp
  unfold lk_527
  rw [e1, ob1, e2, ob1]
  exact en0 (hrec hI)
theorem k_540 {L : Nat} {xs : Nat → Int32} {rec : LSt → Option Int32} {i : Int32} (hrec : ∀ {x mk mz mw : Int32} {s s2 mu : Int64} {d d2 : DD} {o mo : Nat → Int32} {t : TT} {w : Nat → Int64} {md : MD} {mr : MR} {mp : MP}, II x s d o mu mz mw mo md → rec (i + 4, x, s, d, o, t, s2, d2, w, mk, mu, mz, mw, mo, md, mr, mp) = some 1) (g1 : ¬ ((i + (1 : Int32)) < 0 ∨ L ≤ (i + (1 : Int32)).toNatClampNeg)) (g2 : ¬ ((i + (2 : Int32)) < 0 ∨ L ≤ (i + (2 : Int32)).toNatClampNeg)) (g3 : ¬ ((i + (3 : Int32)) < 0 ∨ L ≤ (i + (3 : Int32)).toNatClampNeg)) {x mk mz mw : Int32} {s s2 mu : Int64} {d d2 : DD} {o mo : Nat → Int32} {t : TT} {w : Nat → Int64} {md : MD} {mr : MR} {mp : MP} (hI : II x s d o mu mz mw mo md) : lk_540 L xs rec i x s d o t s2 d2 w mk mu mz mw mo md mr mp = some 1 := by
  have _ := g2; have _ := g3; have _ := g1
  obtain ⟨k, w', b, e1, e2, hw⟩ := op_left hI (xs (i + (1 : Int32)).toNatClampNeg) w mk
  unfold lk_540 f_Mo_thrown
  rw [if_neg g1, e1, ob1, if_neg g1, e2, ob1, ob1]
  dsimp only
  exact en1 (hrec hI) hw
theorem k_596 {L : Nat} {xs : Nat → Int32} {rec : LSt → Option Int32} {i : Int32} (hrec : ∀ {x mk mz mw : Int32} {s s2 mu : Int64} {d d2 : DD} {o mo : Nat → Int32} {t : TT} {w : Nat → Int64} {md : MD} {mr : MR} {mp : MP}, II x s d o mu mz mw mo md → rec (i + 4, x, s, d, o, t, s2, d2, w, mk, mu, mz, mw, mo, md, mr, mp) = some 1) (g1 : ¬ ((i + (1 : Int32)) < 0 ∨ L ≤ (i + (1 : Int32)).toNatClampNeg)) (g2 : ¬ ((i + (2 : Int32)) < 0 ∨ L ≤ (i + (2 : Int32)).toNatClampNeg)) (g3 : ¬ ((i + (3 : Int32)) < 0 ∨ L ≤ (i + (3 : Int32)).toNatClampNeg)) {x mk mz mw : Int32} {s s2 mu : Int64} {d d2 : DD} {o mo : Nat → Int32} {t : TT} {w : Nat → Int64} {md : MD} {mr : MR} {mp : MP} (hI : II x s d o mu mz mw mo md) : lk_596 L xs rec i x s d o t s2 d2 w mk mu mz mw mo md mr mp = some 1 := by
  have _ := g2; have _ := g3; have _ := g1
  obtain ⟨r, o', mo', e1, e2, hI'⟩ := op_whole hI
  unfold lk_596
  rw [e1, ob1, e2, ob1]
  exact en0 (hrec hI')
theorem k_609 {L : Nat} {xs : Nat → Int32} {rec : LSt → Option Int32} {i : Int32} (hrec : ∀ {x mk mz mw : Int32} {s s2 mu : Int64} {d d2 : DD} {o mo : Nat → Int32} {t : TT} {w : Nat → Int64} {md : MD} {mr : MR} {mp : MP}, II x s d o mu mz mw mo md → rec (i + 4, x, s, d, o, t, s2, d2, w, mk, mu, mz, mw, mo, md, mr, mp) = some 1) (g1 : ¬ ((i + (1 : Int32)) < 0 ∨ L ≤ (i + (1 : Int32)).toNatClampNeg)) (g2 : ¬ ((i + (2 : Int32)) < 0 ∨ L ≤ (i + (2 : Int32)).toNatClampNeg)) (g3 : ¬ ((i + (3 : Int32)) < 0 ∨ L ≤ (i + (3 : Int32)).toNatClampNeg)) {x mk mz mw : Int32} {s s2 mu : Int64} {d d2 : DD} {o mo : Nat → Int32} {t : TT} {w : Nat → Int64} {md : MD} {mr : MR} {mp : MP} (hI : II x s d o mu mz mw mo md) : lk_609 L xs rec i x s d o t s2 d2 w mk mu mz mw mo md mr mp = some 1 := by
  have _ := g2; have _ := g3; have _ := g1
  obtain ⟨k, t', w', b, mp', e1, e2, hw⟩ := op_pieces hI (xs (i + (1 : Int32)).toNatClampNeg) (xs (i + (2 : Int32)).toNatClampNeg) t w mk mp
  unfold lk_609 f_Mo_thrown
  rw [if_neg g1, if_neg g2, e1, ob1, if_neg g1, if_neg g2, e2, ob1, ob1]
  dsimp only
  exact en1 (hrec hI) hw
theorem k_677 {L : Nat} {xs : Nat → Int32} {rec : LSt → Option Int32} {i : Int32} (hrec : ∀ {x mk mz mw : Int32} {s s2 mu : Int64} {d d2 : DD} {o mo : Nat → Int32} {t : TT} {w : Nat → Int64} {md : MD} {mr : MR} {mp : MP}, II x s d o mu mz mw mo md → rec (i + 4, x, s, d, o, t, s2, d2, w, mk, mu, mz, mw, mo, md, mr, mp) = some 1) (g1 : ¬ ((i + (1 : Int32)) < 0 ∨ L ≤ (i + (1 : Int32)).toNatClampNeg)) (g2 : ¬ ((i + (2 : Int32)) < 0 ∨ L ≤ (i + (2 : Int32)).toNatClampNeg)) (g3 : ¬ ((i + (3 : Int32)) < 0 ∨ L ≤ (i + (3 : Int32)).toNatClampNeg)) {x mk mz mw : Int32} {s s2 mu : Int64} {d d2 : DD} {o mo : Nat → Int32} {t : TT} {w : Nat → Int64} {md : MD} {mr : MR} {mp : MP} (hI : II x s d o mu mz mw mo md) : lk_677 L xs rec i x s d o t s2 d2 w mk mu mz mw mo md mr mp = some 1 := by
  have _ := g2; have _ := g3; have _ := g1
  obtain ⟨k, t', w', b, mp', e1, e2, hw⟩ := op_most hI (xs (i + (1 : Int32)).toNatClampNeg) t w mk mp
  unfold lk_677 f_Mo_thrown
  rw [if_neg g1, e1, ob1, if_neg g1, e2, ob1, ob1]
  dsimp only
  exact en1 (hrec hI) hw
theorem k_733 {L : Nat} {xs : Nat → Int32} {rec : LSt → Option Int32} {i : Int32} (hrec : ∀ {x mk mz mw : Int32} {s s2 mu : Int64} {d d2 : DD} {o mo : Nat → Int32} {t : TT} {w : Nat → Int64} {md : MD} {mr : MR} {mp : MP}, II x s d o mu mz mw mo md → rec (i + 4, x, s, d, o, t, s2, d2, w, mk, mu, mz, mw, mo, md, mr, mp) = some 1) (g1 : ¬ ((i + (1 : Int32)) < 0 ∨ L ≤ (i + (1 : Int32)).toNatClampNeg)) (g2 : ¬ ((i + (2 : Int32)) < 0 ∨ L ≤ (i + (2 : Int32)).toNatClampNeg)) (g3 : ¬ ((i + (3 : Int32)) < 0 ∨ L ≤ (i + (3 : Int32)).toNatClampNeg)) {x mk mz mw : Int32} {s s2 mu : Int64} {d d2 : DD} {o mo : Nat → Int32} {t : TT} {w : Nat → Int64} {md : MD} {mr : MR} {mp : MP} (hI : II x s d o mu mz mw mo md) : lk_733 L xs rec i x s d o t s2 d2 w mk mu mz mw mo md mr mp = some 1 := by
  have _ := g2; have _ := g3; have _ := g1
  obtain ⟨k, s2', d2', w', b, mr', e1, e2, hw⟩ := op_same (d2 := d2) (mr := mr) hI ((((xs (i + (1 : Int32)).toNatClampNeg).toInt64) <<< ((32 : Int32).toInt64 &&& 63)) ||| (((xs (i + (2 : Int32)).toNatClampNeg).toInt64) &&& (4294967295 : Int64))) (xs (i + (3 : Int32)).toNatClampNeg) s2 w mk
  unfold lk_733 f_Mo_thrown
  rw [if_neg g1, if_neg g2, if_neg g3, e1, ob1, if_neg g1, if_neg g2, if_neg g3, e2, ob1, ob1]
  dsimp only
  exact en2 (hrec hI) hw
theorem k_840 {L : Nat} {xs : Nat → Int32} {rec : LSt → Option Int32} {i : Int32} (hrec : ∀ {x mk mz mw : Int32} {s s2 mu : Int64} {d d2 : DD} {o mo : Nat → Int32} {t : TT} {w : Nat → Int64} {md : MD} {mr : MR} {mp : MP}, II x s d o mu mz mw mo md → rec (i + 4, x, s, d, o, t, s2, d2, w, mk, mu, mz, mw, mo, md, mr, mp) = some 1) (g1 : ¬ ((i + (1 : Int32)) < 0 ∨ L ≤ (i + (1 : Int32)).toNatClampNeg)) (g2 : ¬ ((i + (2 : Int32)) < 0 ∨ L ≤ (i + (2 : Int32)).toNatClampNeg)) (g3 : ¬ ((i + (3 : Int32)) < 0 ∨ L ≤ (i + (3 : Int32)).toNatClampNeg)) {x mk mz mw : Int32} {s s2 mu : Int64} {d d2 : DD} {o mo : Nat → Int32} {t : TT} {w : Nat → Int64} {md : MD} {mr : MR} {mp : MP} (hI : II x s d o mu mz mw mo md) : lk_840 L xs rec i x s d o t s2 d2 w mk mu mz mw mo md mr mp = some 1 := by
  have _ := g2; have _ := g3; have _ := g1
  obtain ⟨r, e1, e2⟩ := op_count hI (xs (i + (1 : Int32)).toNatClampNeg)
  unfold lk_840
  rw [if_neg g1, e1, ob1, if_neg g1, e2, ob1]
  exact en0 (hrec hI)
theorem law_step {L : Nat} {xs : Nat → Int32} {rec : LSt → Option Int32} {i : Int32} (hrec : ∀ {x mk mz mw : Int32} {s s2 mu : Int64} {d d2 : DD} {o mo : Nat → Int32} {t : TT} {w : Nat → Int64} {md : MD} {mr : MR} {mp : MP}, II x s d o mu mz mw mo md → rec (i + 4, x, s, d, o, t, s2, d2, w, mk, mu, mz, mw, mo, md, mr, mp) = some 1) (g0 : ¬ Int32.ofNat L - (4 : Int32) < i → ¬ (i < 0 ∨ L ≤ i.toNatClampNeg) ∧ ¬ ((i + (1 : Int32)) < 0 ∨ L ≤ (i + (1 : Int32)).toNatClampNeg) ∧ ¬ ((i + (2 : Int32)) < 0 ∨ L ≤ (i + (2 : Int32)).toNatClampNeg) ∧ ¬ ((i + (3 : Int32)) < 0 ∨ L ≤ (i + (3 : Int32)).toNatClampNeg)) {x mk mz mw : Int32} {s s2 mu : Int64} {d d2 : DD} {o mo : Nat → Int32} {t : TT} {w : Nat → Int64} {md : MD} {mr : MR} {mp : MP} (hI : II x s d o mu mz mw mo md) : lb_law L xs rec i x s d o t s2 d2 w mk mu mz mw mo md mr mp = some 1 := by
  unfold lb_law
  by_cases c : Int32.ofNat L - (4 : Int32) < i
  · exact if_pos c
  obtain ⟨gi, g1, g2, g3⟩ := g0 c
  rw [if_neg c, if_neg gi]
  by_cases c0 : xs i.toNatClampNeg &&& (15 : Int32) = 0
  · exact (if_pos c0).trans (k_124 hrec g1 g2 g3 hI)
  rw [if_neg c0]
  by_cases c1 : xs i.toNatClampNeg &&& (15 : Int32) = 1
  · exact (if_pos c1).trans (k_180 hrec g1 g2 g3 hI)
  rw [if_neg c1]
  by_cases c2 : xs i.toNatClampNeg &&& (15 : Int32) = 2
  · exact (if_pos c2).trans (k_235 hrec g1 g2 g3 hI)
  rw [if_neg c2]
  by_cases c3 : xs i.toNatClampNeg &&& (15 : Int32) = 3
  · exact (if_pos c3).trans (k_303 hrec g1 g2 g3 hI)
  rw [if_neg c3]
  by_cases c4 : xs i.toNatClampNeg &&& (15 : Int32) = 4
  · exact (if_pos c4).trans (k_394 hrec g1 g2 g3 hI)
  rw [if_neg c4]
  by_cases c5 : xs i.toNatClampNeg &&& (15 : Int32) = 5
  · exact (if_pos c5).trans (k_407 hrec g1 g2 g3 hI)
  rw [if_neg c5]
  by_cases c6 : xs i.toNatClampNeg &&& (15 : Int32) = 6
  · exact (if_pos c6).trans (k_470 hrec g1 g2 g3 hI)
  rw [if_neg c6]
  by_cases c7 : xs i.toNatClampNeg &&& (15 : Int32) = 7
  · exact (if_pos c7).trans (k_483 hrec g1 g2 g3 hI)
  rw [if_neg c7]
  by_cases c8 : xs i.toNatClampNeg &&& (15 : Int32) = 8
  · exact (if_pos c8).trans (k_527 hrec g1 g2 g3 hI)
  rw [if_neg c8]
  by_cases c9 : xs i.toNatClampNeg &&& (15 : Int32) = 9
  · exact (if_pos c9).trans (k_540 hrec g1 g2 g3 hI)
  rw [if_neg c9]
  by_cases c10 : xs i.toNatClampNeg &&& (15 : Int32) = 10
  · exact (if_pos c10).trans (k_596 hrec g1 g2 g3 hI)
  rw [if_neg c10]
  by_cases c11 : xs i.toNatClampNeg &&& (15 : Int32) = 11
  · exact (if_pos c11).trans (k_609 hrec g1 g2 g3 hI)
  rw [if_neg c11]
  by_cases c12 : xs i.toNatClampNeg &&& (15 : Int32) = 12
  · exact (if_pos c12).trans (k_677 hrec g1 g2 g3 hI)
  rw [if_neg c12]
  by_cases c13 : xs i.toNatClampNeg &&& (15 : Int32) = 13
  · exact (if_pos c13).trans (k_733 hrec g1 g2 g3 hI)
  rw [if_neg c13]
  by_cases c14 : xs i.toNatClampNeg &&& (15 : Int32) = 14
  · exact (if_pos c14).trans (k_840 hrec g1 g2 g3 hI)
  rw [if_neg c14]
  exact hrec hI
theorem law_go {L : Nat} (hL : L ≤ 2049) (xs : Nat → Int32) : ∀ n j, j + n ≤ 600 → L < 4 * (j + n + 1) + 1 → ∀ {x mk mz mw : Int32} {s s2 mu : Int64} {d d2 : DD} {o mo : Nat → Int32} {t : TT} {w : Nat → Int64} {md : MD} {mr : MR} {mp : MP}, II x s d o mu mz mw mo md → itn (bd_law L xs) (n + 1) (nI (4 * j + 1), x, s, d, o, t, s2, d2, w, mk, mu, mz, mw, mo, md, mr, mp) = some 1 := by
  intro n
  have hex : ∀ j, j ≤ 1000 → (Int32.ofNat L - (4 : Int32) < nI (4 * j + 1) ↔ L < 4 * j + 5) := by
    intro j hj
    have e : Int32.ofNat L - (4 : Int32) = nI L - nI 4 := rfl
    rw [e, Int32.lt_iff_toInt_lt, pk_sub_toInt (by omega) (by omega), nI_toInt (by omega)]
    omega
  have gg : ∀ j, ¬ L < 4 * j + 5 → ∀ k : Nat, k ≤ 3 → ¬ (nI (4 * j + 1 + k) < 0 ∨ L ≤ (nI (4 * j + 1 + k)).toNatClampNeg) := fun j hj k hk => nI_in (by omega) (by omega)
  induction n with
  | zero =>
    intro j hj0 hj x mk mz mw s s2 mu d d2 o mo t w md mr mp hI
    rw [itn_s]
    show lb_law L xs _ (nI (4 * j + 1)) x s d o t s2 d2 w mk mu mz mw mo md mr mp = some 1
    unfold lb_law
    exact if_pos ((hex j (by omega)).mpr (by omega))
  | succ n ih =>
    intro j hj0 hj x mk mz mw s s2 mu d d2 o mo t w md mr mp hI
    rw [itn_s]
    show lb_law L xs _ (nI (4 * j + 1)) x s d o t s2 d2 w mk mu mz mw mo md mr mp = some 1
    refine law_step (fun {x mk mz mw s s2 mu d d2 o mo t w md mr mp} hI' => ?_) (fun c => ?_) hI
    · rw [show nI (4 * j + 1) + 4 = nI (4 * (j + 1) + 1) from (nI_add _ 4).trans (congrArg nI (by omega))]
      exact ih (j + 1) (by omega) (by omega) hI'
    · have c9 : ¬ L < 4 * j + 5 := fun q => c ((hex j (by omega)).mpr q)
      rw [show nI (4 * j + 1) + (1 : Int32) = nI (4 * j + 1 + 1) from nI_add _ 1, show nI (4 * j + 1) + (2 : Int32) = nI (4 * j + 1 + 2) from nI_add _ 2, show nI (4 * j + 1) + (3 : Int32) = nI (4 * j + 1 + 3) from nI_add _ 3]
      exact ⟨gg j c9 0 (by omega), gg j c9 1 (by omega), gg j c9 2 (by omega), gg j c9 3 (by omega)⟩
