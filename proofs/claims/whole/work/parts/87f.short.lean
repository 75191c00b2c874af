theorem cn_dn {f g : Nat → Bool} {j : Nat} (hf : f j = true) (hg : ¬ g j = true) (h : ∀ i, i ≠ j → g i = f i) : ∀ n, j < n → cn g n + 1 = cn f n
  | 0, hn => absurd hn (Nat.not_lt_zero _)
  | n + 1, hn => by
    by_cases e : j = n
    · subst e
      rw [cn_f hg, cn_t hf, cn_cg j (fun i hi => h i (by omega))]
    · have ih := cn_dn hf hg h n (by omega)
      show cn g n + (if g n = true then 1 else 0) + 1 = cn f n + (if f n = true then 1 else 0)
      rw [h n (fun q => e q.symm)]
      omega
theorem mns (j : Nat) : nI j + (-1) = nI j - nI 1 := (Int32.sub_eq_add_neg _ _).symm
section PH
variable {P G K : Nat} {d : DD} {md : MD} {x mz mw : Int32} {s mu : Int64}
theorem rnd (h : IV P G K d md) (x had mk : Int32) : ∀ k, k ≤ P + G + K → ∀ fc fm, k < fc → k < fm → ∀ sm o mo t mp, (sm = nI 0 ∨ sm = nI 1) → OV (P + G + K) o mo →
    ∃ sm' o' t' mo' mp', (sm' = nI 0 ∨ sm' = nI 1) ∧ OV (P + G + K) o' mo' ∧ ((sm' = sm ∧ cn (lf mo') (P + G + K) = cn (lf mo) (P + G + K)) ∨ (sm' = nI 1 ∧ cn (lf mo') (P + G + K) < cn (lf mo) (P + G + K))) ∧
      (∀ kx, itn (bd_SD_leaveOutInOneRound_12 x d kx) fc (sm, nI k - nI 1, o, t) = kx (sm', nI 0 - nI 1, o', t')) ∧ ∀ kx, itn (bd_Mo_shorter_47 x md kx) fm (had, nI k - nI 1, mk, mo, mp) = kx (had, nI 0 - nI 1, mk, mo', mp') := by
  obtain ⟨a1, a2, a3⟩ := id h.1.1
  intro k
  induction k with
  | zero =>
    intro _ fc fm hfc hfm sm o mo t mp hs hO
    obtain ⟨fc, rfl⟩ : ∃ n, fc = n + 1 := ⟨fc - 1, by omega⟩
    obtain ⟨fm, rfl⟩ : ∃ n, fm = n + 1 := ⟨fm - 1, by omega⟩
    refine ⟨sm, o, t, mo, mp, hs, hO, Or.inl ⟨rfl, rfl⟩, fun kx => ?_, fun kx => ?_⟩
    · rw [itn_s]
      generalize itn (bd_SD_leaveOutInOneRound_12 x d kx) fc = rec
      unfold bd_SD_leaveOutInOneRound_12
      dsimp only
      rw [if_pos (by decide)]
    · rw [itn_s]
      generalize itn (bd_Mo_shorter_47 x md kx) fm = rec
      unfold bd_Mo_shorter_47
      dsimp only
      rw [if_pos (by decide)]
  | succ j ih =>
    intro hk fc fm hfc hfm sm o mo t mp hs hO
    obtain ⟨fc, rfl⟩ : ∃ n, fc = n + 1 := ⟨fc - 1, by omega⟩
    obtain ⟨fm, rfl⟩ : ∃ n, fm = n + 1 := ⟨fm - 1, by omega⟩
    have hi : j < P + G + K := by omega
    have g := gdl (show j < 40 by omega) (show 40 < 2 ^ 31 by omega)
    have e0 : nI (j + 1) - nI 1 = nI j := by rw [pk_sub (show 1 ≤ j + 1 by omega), Nat.add_sub_cancel]
    obtain ⟨oe, ob'⟩ := hO j hi
    rw [e0]
    by_cases c1 : mo j = nI 0
    · obtain ⟨v, t1, mp1, hv, e1, e2⟩ := met_so h (ov_up hO j b1_) x t mp
      have hcs : ∀ kx rec, bd_SD_leaveOutInOneRound_12 x d kx rec (sm, nI j, o, t) = rec (if v = nI 0 then sm else nI 1, nI j - nI 1, if v = nI 0 then o else upd o j (nI 1), t1) := by
        intro kx rec
        unfold bd_SD_leaveOutInOneRound_12
        dsimp only
        rw [if_neg (nI_pos (by omega)), x_left h.1 hi, ob1, if_pos (oe.trans c1), i10, show (1 : Int32) = nI 1 from rfl, x_set h.1 hi b1_, ob1, e1, ob1]
        dsimp only
        rw [x_set h.1 hi hv, ob1, show nI j + -nI 1 = nI j - nI 1 from mns j, upd_twice]
        rcases hv with rfl | rfl
        · rw [if_pos rfl, if_pos rfl, show upd o j (nI 0) = o by rw [← upd_twice (nI 1) (nI 0)]; exact upd_back _ (oe.trans c1)]
          rcases hs with rfl | rfl <;> rfl
        · rw [if_neg (show ¬ nI 1 = nI 0 by decide), if_neg (show ¬ nI 1 = nI 0 by decide)]
          rcases hs with rfl | rfl <;> rfl
      have hms : ∀ kx rec, bd_Mo_shorter_47 x md kx rec (had, nI j, mk, mo, mp) = rec (had, nI j - nI 1, mk, if v = nI 0 then mo else upd mo j (nI 1), mp1) := by
        intro kx rec
        unfold bd_Mo_shorter_47
        dsimp only
        rw [if_neg (nI_pos (by omega)), nI_clamp (show j < 2 ^ 31 by omega), if_neg g, if_neg g]
        refine (if_pos c1).trans ?_
        rw [show vp_nar .boolean (1 : Int32) = nI 1 from nar1, e2, ob1, show vp_nar .boolean (0 : Int32) = nI 0 from nar0, if_neg g, upd_back _ c1, show nI j + -1 = nI j - nI 1 from mns j]
        rcases hv with rfl | rfl
        · rw [if_pos rfl]; rfl
        · rw [if_neg (show ¬ nI 1 = nI 0 by decide)]; rfl
      rcases hv with rfl | rfl
      · obtain ⟨sm', o', t', mo', mp', q1, q2, q3, q4, q5⟩ := ih (by omega) fc fm (by omega) (by omega) sm o mo t1 mp1 hs hO
        refine ⟨sm', o', t', mo', mp', q1, q2, q3, fun kx => ?_, fun kx => ?_⟩
        · rw [itn_s, hcs, if_pos rfl, if_pos rfl, q4]
        · rw [itn_s, hms, if_pos rfl, q5]
      · obtain ⟨sm', o', t', mo', mp', q1, q2, q3, q4, q5⟩ := ih (by omega) fc fm (by omega) (by omega) (nI 1) _ _ t1 mp1 b1_ (ov_up hO j b1_)
        have hd := cn_dn (f := lf mo) (g := lf (upd mo j (nI 1))) (j := j) (decide_eq_true c1) (fun q => by
          have q9 := of_decide_eq_true q
          rw [pk_us] at q9
          exact absurd q9 (by decide)) (fun i hi9 => by
          show decide (upd mo j (nI 1) i = nI 0) = decide (mo i = nI 0)
          rw [pk_un hi9]) (P + G + K) hi
        refine ⟨sm', o', t', mo', mp', q1, q2, Or.inr ?_, fun kx => ?_, fun kx => ?_⟩
        · rcases q3 with ⟨z1, z2⟩ | ⟨z1, z2⟩
          · exact ⟨z1, by omega⟩
          · exact ⟨z1, by omega⟩
        · rw [itn_s, hcs, if_neg (show ¬ nI 1 = nI 0 by decide), if_neg (show ¬ nI 1 = nI 0 by decide), q4]
        · rw [itn_s, hms, if_neg (show ¬ nI 1 = nI 0 by decide), q5]
    · obtain ⟨sm', o', t', mo', mp', q1, q2, q3, q4, q5⟩ := ih (by omega) fc fm (by omega) (by omega) sm o mo t mp hs hO
      refine ⟨sm', o', t', mo', mp', q1, q2, q3, fun kx => ?_, fun kx => ?_⟩
      · rw [itn_s, ← q4 kx]
        generalize itn (bd_SD_leaveOutInOneRound_12 x d kx) fc = rec
        unfold bd_SD_leaveOutInOneRound_12
        dsimp only
        rw [if_neg (nI_pos (by omega)), x_left h.1 hi, ob1, if_neg (fun q => c1 (oe.symm.trans q)), i00, show nI j + -1 = nI j - nI 1 from mns j]
      · rw [itn_s, ← q5 kx]
        generalize itn (bd_Mo_shorter_47 x md kx) fm = rec
        unfold bd_Mo_shorter_47
        dsimp only
        rw [if_neg (nI_pos (by omega)), nI_clamp (show j < 2 ^ 31 by omega), if_neg g, show nI j + -1 = nI j - nI 1 from mns j]
        exact if_neg c1
theorem sh_go (h : IV P G K d md) (x mk : Int32) : ∀ m r o mo t mp had, OV (P + G + K) o mo → cn (lf mo) (P + G + K) ≤ m → r + cn (lf mo) (P + G + K) ≤ P + G + K → ¬ had = nI (cn (lf mo) (P + G + K)) → ∀ fc fm, m < fc → m + 1 < fm →
    ∃ o' t' mo' mp', OV (P + G + K) o' mo' ∧ itn (bd_SD_shorter_29 x d (fun z708 => Option.bind (f_Re_leftCount d z708.2.2.1) (fun q709 => some ((Sum.inr q709), z708.2.2.1, z708.2.2.2)))) fc (nI (P + G + K + 1), nI r, o, t) = some (Sum.inr (nI (cn (lf mo') (P + G + K))), o', t') ∧
      itn (bd_Mo_shorter_27 x md (fun z692 => some (z692.1, z692.2.1, z692.2.2.1, z692.2.2.2))) fm (had, mk, mo, mp) = some (nI (cn (lf mo') (P + G + K)), mk, mo', mp') := by
  obtain ⟨a1, a2, a3⟩ := id h.1.1
  intro m
  induction m with
  | zero =>
    intro r o mo t mp had hO hm hr hh fc fm hfc hfm
    obtain ⟨fc, rfl⟩ : ∃ n, fc = n + 1 := ⟨fc - 1, by omega⟩
    obtain ⟨fm, rfl⟩ : ∃ n, fm = n + 1 + 1 := ⟨fm - 2, by omega⟩
    obtain ⟨sm', o', t', mo', mp', q1, q2, q3, q4, q5⟩ := rnd h x (nI (cn (lf mo) (P + G + K))) mk (P + G + K) (Nat.le_refl _) 70 70 (by omega) (by omega) (nI 0) o mo t mp b0_ hO
    rcases q3 with ⟨rfl, z2⟩ | ⟨-, z2⟩
    · refine ⟨o', t', mo', mp', q2, ?_, ?_⟩
      · rw [itn_s]
        generalize itn (bd_SD_shorter_29 x d (fun z708 => Option.bind (f_Re_leftCount d z708.2.2.1) (fun q709 => some ((Sum.inr q709), z708.2.2.1, z708.2.2.2)))) fc = rec
        unfold bd_SD_shorter_29 f_SD_leaveOutInOneRound f_Dr_partCount
        dsimp only
        rw [if_neg (nI_ge (by omega) (by omega)), ob1, h.1.2.1, show (0 : Int32) = nI 0 from rfl, show (1 : Int32) = nI 1 from rfl, q4]
        dsimp only
        rw [if_pos b0_, ob1]
        dsimp only
        rw [if_pos rfl, x_lc h.1, ob1, lf_cg q2 (Nat.le_refl _)]
      · rw [itn_s]
        have fin : itn (bd_Mo_shorter_27 x md (fun z692 => some (z692.1, z692.2.1, z692.2.2.1, z692.2.2.2))) (fm + 1) (nI (cn (lf mo) (P + G + K)), mk, mo', mp') = some (nI (cn (lf mo') (P + G + K)), mk, mo', mp') := by
          rw [itn_s]
          generalize itn (bd_Mo_shorter_27 x md (fun z692 => some (z692.1, z692.2.1, z692.2.2.1, z692.2.2.2))) fm = rec
          unfold bd_Mo_shorter_27
          dsimp only
          rw [m_lc h.1.1 h.2.1, ob1, z2, if_pos rfl]
        generalize itn (bd_Mo_shorter_27 x md (fun z692 => some (z692.1, z692.2.1, z692.2.2.1, z692.2.2.2))) (fm + 1) = rec at fin
        unfold bd_Mo_shorter_27
        dsimp only
        rw [m_lc h.1.1 h.2.1, ob1, if_neg hh, ob1, h.2.1.1, show (1 : Int32) = nI 1 from rfl, q5, fin]
    · omega
  | succ m ih =>
    intro r o mo t mp had hO hm hr hh fc fm hfc hfm
    obtain ⟨fc, rfl⟩ : ∃ n, fc = n + 1 := ⟨fc - 1, by omega⟩
    obtain ⟨fm, rfl⟩ : ∃ n, fm = n + 1 + 1 := ⟨fm - 2, by omega⟩
    obtain ⟨sm', o', t', mo', mp', q1, q2, q3, q4, q5⟩ := rnd h x (nI (cn (lf mo) (P + G + K))) mk (P + G + K) (Nat.le_refl _) 70 70 (by omega) (by omega) (nI 0) o mo t mp b0_ hO
    have hle := cn_le (lf mo) (P + G + K)
    by_cases c : sm' = nI 0
    · subst c
      have z2 : cn (lf mo') (P + G + K) = cn (lf mo) (P + G + K) := by
        rcases q3 with ⟨-, z2⟩ | ⟨z1, -⟩
        · exact z2
        · exact absurd z1 (by decide)
      refine ⟨o', t', mo', mp', q2, ?_, ?_⟩
      · rw [itn_s]
        generalize itn (bd_SD_shorter_29 x d (fun z708 => Option.bind (f_Re_leftCount d z708.2.2.1) (fun q709 => some ((Sum.inr q709), z708.2.2.1, z708.2.2.2)))) fc = rec
        unfold bd_SD_shorter_29 f_SD_leaveOutInOneRound f_Dr_partCount
        dsimp only
        rw [if_neg (nI_ge (by omega) (by omega)), ob1, h.1.2.1, show (0 : Int32) = nI 0 from rfl, show (1 : Int32) = nI 1 from rfl, q4]
        dsimp only
        rw [if_pos b0_, ob1]
        dsimp only
        rw [if_pos rfl, x_lc h.1, ob1, lf_cg q2 (Nat.le_refl _)]
      · rw [itn_s]
        have fin : itn (bd_Mo_shorter_27 x md (fun z692 => some (z692.1, z692.2.1, z692.2.2.1, z692.2.2.2))) (fm + 1) (nI (cn (lf mo) (P + G + K)), mk, mo', mp') = some (nI (cn (lf mo') (P + G + K)), mk, mo', mp') := by
          rw [itn_s]
          generalize itn (bd_Mo_shorter_27 x md (fun z692 => some (z692.1, z692.2.1, z692.2.2.1, z692.2.2.2))) fm = rec
          unfold bd_Mo_shorter_27
          dsimp only
          rw [m_lc h.1.1 h.2.1, ob1, z2, if_pos rfl]
        generalize itn (bd_Mo_shorter_27 x md (fun z692 => some (z692.1, z692.2.1, z692.2.2.1, z692.2.2.2))) (fm + 1) = rec at fin
        unfold bd_Mo_shorter_27
        dsimp only
        rw [m_lc h.1.1 h.2.1, ob1, if_neg hh, ob1, h.2.1.1, show (1 : Int32) = nI 1 from rfl, q5, fin]
    · have s1 : sm' = nI 1 := q1.elim (fun q => absurd q c) id
      subst s1
      have z2 : cn (lf mo') (P + G + K) < cn (lf mo) (P + G + K) := by
        rcases q3 with ⟨z1, -⟩ | ⟨-, z2⟩
        · exact absurd z1 c
        · exact z2
      obtain ⟨o2, t2, mo2, mp2, w1, w2, w3⟩ := ih (r + 1) o' mo' t' mp' (nI (cn (lf mo) (P + G + K))) q2 (by omega) (by omega) (fun q => by rw [nI_eq (by omega) (by omega)] at q; omega) fc (fm + 1) (by omega) (by omega)
      refine ⟨o2, t2, mo2, mp2, w1, ?_, ?_⟩
      · rw [itn_s]
        refine Eq.trans ?_ w2
        generalize itn (bd_SD_shorter_29 x d (fun z708 => Option.bind (f_Re_leftCount d z708.2.2.1) (fun q709 => some ((Sum.inr q709), z708.2.2.1, z708.2.2.2)))) fc = rec
        unfold bd_SD_shorter_29 f_SD_leaveOutInOneRound f_Dr_partCount
        dsimp only
        rw [if_neg (nI_ge (by omega) (by omega)), ob1, h.1.2.1, show (0 : Int32) = nI 0 from rfl, show (1 : Int32) = nI 1 from rfl, q4]
        dsimp only
        rw [if_pos b1_, ob1]
        dsimp only
        rw [if_neg (show ¬ nI 1 = nI 0 by decide), show nI r + nI 1 = nI (r + 1) from nI_add r 1]
      · rw [itn_s]
        refine Eq.trans ?_ w3
        generalize itn (bd_Mo_shorter_27 x md (fun z692 => some (z692.1, z692.2.1, z692.2.2.1, z692.2.2.2))) (fm + 1) = rec
        unfold bd_Mo_shorter_27
        dsimp only
        rw [m_lc h.1.1 h.2.1, ob1, if_neg hh, ob1, h.2.1.1, show (1 : Int32) = nI 1 from rfl, q5]
theorem op_shorter {o mo : Nat → Int32} (hI : II x s d o mu mz mw mo md) (t : TT) (w : Nat → Int64) (mk : Int32) (mp : MP) :
    ∃ k o' t' w' r mo' mp', f_La_shorter x d o t w = some (k, o', t', w') ∧ f_Mo_shorter mk mw mo md mp = some (r, k, mo', mp') ∧ (k = 0 → w' 0 = r.toInt64) ∧ II x s d o' mu mz mw mo' md := by
  obtain ⟨rfl, h2, h3, P, G, K, h, hO, h4⟩ := id hI
  obtain ⟨a1, a2, a3⟩ := id h.1.1
  have hle := cn_le (lf mo) (P + G + K)
  obtain ⟨v, t1, mp1, hv, e1, e2⟩ := met_so h hO x t mp
  rcases hv with rfl | rfl
  · refine ⟨1, o, t1, w, 0, mo, mp1, ?_, ?_, fun q => absurd q (by decide), hI⟩
    · unfold f_La_shorter f_SD_shorter
      rw [e1, ob1]
      dsimp only
      rw [i00]
      rfl
    · unfold f_Mo_shorter
      rw [e2, ob1]
      rfl
  · obtain ⟨o', t', mo', mp', q1, q2, q3⟩ := sh_go h x 0 (P + G + K) 0 o mo t1 mp1 (-nI 1) hO hle (by omega) (fun q => Eq.mp (n_m1eq (a := cn (lf mo) (P + G + K)) (by omega)) q.symm) 70 70 (by omega) (by omega)
    refine ⟨0, o', t', vp_updL w (0 : Int32).toNatClampNeg (nI (cn (lf mo') (P + G + K))).toInt64, nI (cn (lf mo') (P + G + K)), mo', mp', ?_, ?_, fun _ => wr0 _ _, rfl, h2, h3, P, G, K, h, q1, h4⟩
    · unfold f_La_shorter f_SD_shorter f_Dr_partCount
      rw [e1, ob1]
      dsimp only
      rw [i10, ob1, h.1.2.1, show nI (P + G + K) + (1 : Int32) = nI (P + G + K + 1) from nI_add _ 1, show (0 : Int32) = nI 0 from rfl, q2, ob1]
      rfl
    · unfold f_Mo_shorter
      rw [e2, ob1]
      dsimp only
      rw [i10]
      unfold jn_Mo_shorter_13
      dsimp only
      rw [if_pos (by decide)]
      exact q3
end PH
