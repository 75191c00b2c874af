section PN
variable {P G K : Nat} {d : DD} {md : MD} {o mo : Nat → Int32} {x mz mw : Int32} {s mu : Int64}
theorem upd_back {o : Nat → Int32} {i : Nat} (b : Int32) (h : o i = nI 0) : upd (upd o i b) i (nI 0) = o := by
  funext j
  by_cases c : j = i
  · subst c; rw [pk_us, h]
  · rw [pk_un c, pk_un c]
theorem upd_twice {o : Nat → Int32} {i : Nat} (a b : Int32) : upd (upd o i a) i b = upd o i b := by
  funext j
  by_cases c : j = i
  · subst c; rw [pk_us, pk_us]
  · rw [pk_un c, pk_un c, pk_un c]
theorem b1_ : (nI 1 = nI 0 ∨ nI 1 = nI 1) := Or.inr rfl
theorem b0_ : (nI 0 = nI 0 ∨ nI 0 = nI 1) := Or.inl rfl
/-- the reference, once it isn't minimal -/
theorem m_min0 (hb : P ≤ 6 ∧ G ≤ 6 ∧ K ≤ 18) (h : CM P G K md) (c : Int32) (mp : MP) : ∀ r i, i + r = P + G + K → ∀ f, r < f → itn (bd_Mo_minimal_12 mw md (fun z733 => (if z733.1 = 0 ∨ z733.1 = 1 then some (z733.1, z733.2.2.1, z733.2.2.2.1, z733.2.2.2.2) else none))) f (nI 0, nI i, c, mo, mp) = some (nI 0, c, mo, mp) := by
  obtain ⟨a1, a2, a3⟩ := id hb
  intro r
  induction r with
  | zero =>
    intro i e f hf
    obtain ⟨f, rfl⟩ : ∃ n, f = n + 1 := ⟨f - 1, by omega⟩
    rw [itn_s]
    generalize itn (bd_Mo_minimal_12 mw md (fun z733 => (if z733.1 = 0 ∨ z733.1 = 1 then some (z733.1, z733.2.2.1, z733.2.2.2.1, z733.2.2.2.2) else none))) f = rec
    unfold bd_Mo_minimal_12
    dsimp only
    rw [h.1, if_pos (nI_le (by omega) (by omega))]
    exact if_pos (Or.inl rfl)
  | succ r ih =>
    intro i e f hf
    obtain ⟨f, rfl⟩ : ∃ n, f = n + 1 := ⟨f - 1, by omega⟩
    refine Eq.trans ?_ (ih (i + 1) (by omega) f (by omega))
    rw [itn_s]
    generalize itn (bd_Mo_minimal_12 mw md (fun z733 => (if z733.1 = 0 ∨ z733.1 = 1 then some (z733.1, z733.2.2.1, z733.2.2.2.1, z733.2.2.2.2) else none))) f = rec
    unfold bd_Mo_minimal_12
    dsimp only
    have g := gdl (show i < 40 by omega) (show 40 < 2 ^ 31 by omega)
    rw [h.1, if_neg (nI_ge (by omega) (by omega)), nI_clamp (show i < 2 ^ 31 by omega), if_neg g, if_neg g, show nI i + 1 = nI (i + 1) from nI_add i 1]
    by_cases c1 : mo i = nI 0
    · refine (if_pos c1).trans ?_
      unfold jn_Mo_minimal_54 jn_Mo_minimal_55
      dsimp only
      rw [if_pos (show nI 0 = (0 : Int32) from rfl), nI_clamp (show i < 2 ^ 31 by omega), if_neg g, show vp_nar .boolean (0 : Int32) = nI 0 from nar0, upd_back _ c1, show nI i + 1 = nI (i + 1) from nI_add i 1]
      rfl
    · exact if_neg c1
theorem mm_go (h : IV P G K d md) (hO : OV (P + G + K) o mo) (x : Int32) (c : Int32) : ∀ r i, i + r = P + G + K → ∀ fc fm, r < fc → r < fm → ∀ t mp, ∃ v t' mp', itn (bd_SD_minimal_11 x d (fun z319 => some (1, z319.2.1, z319.2.2))) fc (nI i, o, t) = some (v, o, t') ∧
    itn (bd_Mo_minimal_12 x md (fun z733 => (if z733.1 = 0 ∨ z733.1 = 1 then some (z733.1, z733.2.2.1, z733.2.2.2.1, z733.2.2.2.2) else none))) fm (nI 1, nI i, c, mo, mp) = some (v, c, mo, mp') := by
  obtain ⟨a1, a2, a3⟩ := id h.1.1
  intro r
  induction r with
  | zero =>
    intro i e fc fm hfc hfm t mp
    obtain ⟨fc, rfl⟩ : ∃ n, fc = n + 1 := ⟨fc - 1, by omega⟩
    obtain ⟨fm, rfl⟩ : ∃ n, fm = n + 1 := ⟨fm - 1, by omega⟩
    refine ⟨nI 1, t, mp, ?_, ?_⟩
    · rw [itn_s]
      generalize itn (bd_SD_minimal_11 x d (fun z319 => some (1, z319.2.1, z319.2.2))) fc = rec
      unfold bd_SD_minimal_11 f_Dr_partCount
      dsimp only
      rw [ob1, h.1.2.1, if_pos (nI_le (by omega) (by omega))]
      rfl
    · rw [itn_s]
      generalize itn (bd_Mo_minimal_12 x md (fun z733 => (if z733.1 = 0 ∨ z733.1 = 1 then some (z733.1, z733.2.2.1, z733.2.2.2.1, z733.2.2.2.2) else none))) fm = rec
      unfold bd_Mo_minimal_12
      dsimp only
      rw [h.2.1.1, if_pos (nI_le (by omega) (by omega))]
      exact if_pos (Or.inr rfl)
  | succ r ih =>
    intro i e fc fm hfc hfm t mp
    obtain ⟨fc, rfl⟩ : ∃ n, fc = n + 1 := ⟨fc - 1, by omega⟩
    obtain ⟨fm, rfl⟩ : ∃ n, fm = n + 1 := ⟨fm - 1, by omega⟩
    have hi : i < P + G + K := by omega
    have g := gdl (show i < 40 by omega) (show 40 < 2 ^ 31 by omega)
    obtain ⟨oe, ob'⟩ := hO i hi
    by_cases c1 : mo i = nI 0
    · obtain ⟨v, t1, mp1, hv, e1, e2⟩ := met_so h (ov_up hO i b1_) x t mp
      have hcs : ∀ rec, bd_SD_minimal_11 x d (fun z319 => some (1, z319.2.1, z319.2.2)) rec (nI i, o, t) = if v = 0 then rec (nI (i + 1), o, t1) else some (0, o, t1) := by
        intro rec
        unfold bd_SD_minimal_11 f_Dr_partCount f_SD_verdictIsMetWithout
        dsimp only
        rw [ob1, h.1.2.1, if_neg (nI_ge hi (by omega)), x_left h.1 hi, ob1, if_pos (oe.trans c1), i10, show (1 : Int32) = nI 1 from rfl, x_set h.1 hi b1_, ob1, e1, ob1, show (0 : Int32) = nI 0 from rfl, x_set h.1 hi b0_, ob1, upd_back _ (oe.trans c1)]
        dsimp only
        rw [if_pos hv, ob1, show nI i + nI 1 = nI (i + 1) from nI_add i 1]
      have hms : ∀ rec kx, bd_Mo_minimal_12 x md kx rec (nI 1, nI i, c, mo, mp) = if v = 0 then rec (nI 1, nI (i + 1), c, mo, mp1) else rec (nI 0, nI (i + 1), c, mo, mp1) := by
        intro rec kx
        unfold bd_Mo_minimal_12
        dsimp only
        rw [h.2.1.1, if_neg (nI_ge hi (by omega)), nI_clamp (show i < 2 ^ 31 by omega), if_neg g, if_neg g]
        refine (if_pos c1).trans ?_
        rw [i10, show vp_nar .boolean (1 : Int32) = nI 1 from nar1, e2, ob1]
        unfold jn_Mo_minimal_54 jn_Mo_minimal_55
        dsimp only
        rw [nI_clamp (show i < 2 ^ 31 by omega), if_neg g, if_neg g, show vp_nar .boolean (0 : Int32) = nI 0 from nar0, upd_back _ c1, show nI i + 1 = nI (i + 1) from nI_add i 1]
        rfl
      rcases hv with rfl | rfl
      · obtain ⟨v2, t2, mp2, f1, f2⟩ := ih (i + 1) (by omega) fc fm (by omega) (by omega) t1 mp1
        refine ⟨v2, t2, mp2, ?_, ?_⟩
        · rw [itn_s, hcs, i00, f1]
        · rw [itn_s, hms, i00, f2]
      · refine ⟨nI 0, t1, mp1, ?_, ?_⟩
        · rw [itn_s, hcs, i10]; rfl
        · rw [itn_s, hms, i10, m_min0 h.1.1 h.2.1 c mp1 r (i + 1) (by omega) fm (by omega)]
    · obtain ⟨v2, t2, mp2, f1, f2⟩ := ih (i + 1) (by omega) fc fm (by omega) (by omega) t mp
      refine ⟨v2, t2, mp2, ?_, ?_⟩
      · rw [itn_s, ← f1]
        generalize itn (bd_SD_minimal_11 x d (fun z319 => some (1, z319.2.1, z319.2.2))) fc = rec
        unfold bd_SD_minimal_11 f_Dr_partCount
        dsimp only
        rw [ob1, h.1.2.1, if_neg (nI_ge hi (by omega)), x_left h.1 hi, ob1, if_neg (fun q => c1 (oe.symm.trans q)), i00, show nI i + 1 = nI (i + 1) from nI_add i 1]
      · rw [itn_s, ← f2]
        generalize itn (bd_Mo_minimal_12 x md (fun z733 => (if z733.1 = 0 ∨ z733.1 = 1 then some (z733.1, z733.2.2.1, z733.2.2.2.1, z733.2.2.2.2) else none))) fm = rec
        unfold bd_Mo_minimal_12
        dsimp only
        rw [h.2.1.1, if_neg (nI_ge hi (by omega)), nI_clamp (show i < 2 ^ 31 by omega), if_neg g, show nI i + 1 = nI (i + 1) from nI_add i 1]
        exact if_neg c1
theorem op_minimal (hI : II x s d o mu mz mw mo md) (t : TT) (mp : MP) : ∃ r t' mp', f_SD_minimal x d o t = some (r, o, t') ∧ f_Mo_minimal mw mo md mp = some (r, 0, mo, mp') := by
  obtain ⟨rfl, -, -, P, G, K, h, hO, -⟩ := hI
  obtain ⟨a1, a2, a3⟩ := id h.1.1
  obtain ⟨v, t1, mp1, hv, e1, e2⟩ := met_so h hO x t mp
  unfold f_SD_minimal f_Mo_minimal
  rw [e1, ob1, e2, ob1]
  dsimp only
  rcases hv with rfl | rfl
  · refine ⟨nI 0, t1, mp1, ?_, ?_⟩
    · rw [i00]; rfl
    · exact m_min0 h.1.1 h.2.1 0 mp1 (P + G + K) 0 (by omega) 70 (by omega)
  · obtain ⟨v2, t2, mp2, f1, f2⟩ := mm_go h hO x 0 (P + G + K) 0 (by omega) 70 70 (by omega) (by omega) t1 mp1
    refine ⟨v2, t2, mp2, ?_, ?_⟩
    · rw [i10]; exact f1
    · exact f2
end PN
