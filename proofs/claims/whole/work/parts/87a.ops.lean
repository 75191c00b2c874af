section PO
variable {P G K : Nat} {d : DD} {md : MD} {o mo : Nat → Int32} {x mz mw : Int32} {s mu : Int64}
theorem met_so (h : IV P G K d md) (hO : OV (P + G + K) o mo) (x : Int32) (t : TT) (mp : MP) : ∃ r t' mp', (r = nI 0 ∨ r = nI 1) ∧ f_SD_verdictIsMet x d o t = some (r, t') ∧ f_Mo_isSo x mo md mp = some (r, mp') := by
  obtain ⟨f, t', mp', h1, h2, -⟩ := tell_go h.1 h.2.1 h.2.2 hO t mp
  unfold f_SD_verdictIsMet f_Mo_isSo
  have hk := ask_bits x f
  by_cases c : f &&& x = x
  · refine ⟨nI 1, t', mp', Or.inr rfl, ?_, ?_⟩
    · rw [h1, ob1]; exact if_pos c
    · rw [h2, ob1]; exact if_pos (Eq.mpr hk c)
  · refine ⟨nI 0, t', mp', Or.inl rfl, ?_, ?_⟩
    · rw [h1, ob1]; exact if_neg c
    · rw [h2, ob1]; exact if_neg (fun q => c (Eq.mp hk q))
theorem op_conditions (hI : II x s d o mu mz mw mo md) (t : TT) (mp : MP) : ∃ f t' mp', f_SD_conditions d o t = some (f, t') ∧ f_Mo_conditions mo md mp = some (f, 0, mp') := by
  obtain ⟨-, -, -, P, G, K, h, hO, -⟩ := hI
  obtain ⟨f, t', mp', h1, h2, -⟩ := tell_go h.1 h.2.1 h.2.2 hO t mp
  refine ⟨f, t', mp', ?_, ?_⟩
  · unfold f_SD_conditions; rw [h1, ob1]
  · unfold f_Mo_conditions; rw [h2, ob1]
theorem op_holds (hI : II x s d o mu mz mw mo md) (t : TT) (mp : MP) : ∃ r t' mp', f_SD_holds x d o t = some (r, t') ∧ f_Mo_holds mw mo md mp = some (r, 0, mp') := by
  obtain ⟨rfl, -, -, P, G, K, h, hO, -⟩ := hI
  obtain ⟨r, t', mp', hr, h1, h2⟩ := met_so h hO x t mp
  refine ⟨r, t', mp', ?_, ?_⟩
  · unfold f_SD_holds; rw [h1, ob1]; exact if_pos hr
  · unfold f_Mo_holds; rw [h2, ob1]; exact if_pos hr
/-- a truth, as the law writes it -/
def wz (r : Int32) : Int64 := if r = 0 then 0 else 1
theorem op_verdict (hI : II x s d o mu mz mw mo md) (v : Int32) (t : TT) (w : Nat → Int64) (mk : Int32) (mp : MP) :
    ∃ k x' t' w' b mw' mp', f_La_verdict x d o t w v = some (k, x', t', w') ∧ f_Mo_verdict mk mw mo md mp v = some (b, k, mw', mp') ∧ (k = 0 → w' 0 = wz b) ∧ II x' s d o mu mz mw' mo md := by
  obtain ⟨rfl, h2, h3, P, G, K, h, hO, h4⟩ := id hI
  have bad : v < nI 0 ∨ nI 64 ≤ v → f_Mo_verdict mk x mo md mp v = some (0, 1, x, mp) := by
    intro hv
    unfold f_Mo_verdict
    rw [show (0 : Int32) = nI 0 from rfl, show (63 : Int32) = nI 63 from rfl, m_in5 (by omega), if_pos hv, ob1]
    rfl
  rcases ix3 v (n := 64) (by omega) with hv | hv | ⟨n, hn, rfl⟩
  · refine ⟨1, x, t, w, 0, x, mp, ?_, bad (Or.inl hv), fun q => absurd q (by decide), hI⟩
    unfold f_La_verdict f_SD_verdict
    rw [if_pos (show v < 0 from hv)]
    rfl
  · refine ⟨1, x, t, w, 0, x, mp, ?_, bad (Or.inr hv.2), fun q => absurd q (by decide), hI⟩
    unfold f_La_verdict f_SD_verdict
    rw [if_neg (show ¬ v < 0 from hv.1), if_neg (show ¬ v ≤ 63 from fun q => by
      have h1 := hv.2
      rw [Int32.le_iff_toInt_le] at q h1
      have h2 : (63 : Int32).toInt = 63 := by decide
      have h3 : (nI 64).toInt = 64 := by decide
      omega)]
    rfl
  · obtain ⟨r, t', mp', hr, e1, e2⟩ := met_so h hO (nI n) t mp
    refine ⟨0, nI n, t', vp_updL w (0 : Int32).toNatClampNeg (wz r), r, nI n, mp', ?_, ?_, fun _ => wr0 _ _, rfl, h2, h3, P, G, K, h, hO, h4⟩
    · unfold f_La_verdict f_SD_verdict
      rw [if_neg (show ¬ nI n < 0 from nI_pos (by omega)), if_pos (show nI n ≤ 63 from (nI_leI (by omega) (by omega : 63 < 2 ^ 31)).mpr (by omega)), e1, ob1]
      dsimp only
      rw [if_pos (show r = 0 ∨ r = 1 from hr), ob1]
      rcases hr with rfl | rfl <;> rfl
    · unfold f_Mo_verdict
      rw [show (0 : Int32) = nI 0 from rfl, show (63 : Int32) = nI 63 from rfl, m_in5 (by omega), if_neg (in_f hn (by omega)), ob1]
      refine (if_neg (by decide)).trans ?_
      unfold jn_Mo_verdict_16
      dsimp only
      rw [if_pos (by decide), e2, ob1]
      exact if_pos hr
theorem ov_up (hO : OV (P + G + K) o mo) (i : Nat) {b : Int32} (hb : b = nI 0 ∨ b = nI 1) : OV (P + G + K) (upd o i b) (upd mo i b) := by
  intro j hj
  by_cases c : j = i
  · subst c; rw [pk_us, pk_us]; exact ⟨rfl, hb⟩
  · rw [pk_un c, pk_un c]; exact hO j hj
theorem x_set (h : CD P G K d) {i : Nat} (hi : i < P + G + K) {b : Int32} (hb : b = nI 0 ∨ b = nI 1) : f_Re_setOut d o (nI i) b = some (upd o i b) := by
  obtain ⟨a1, a2, a3⟩ := id h.1
  unfold f_Re_setOut
  rw [x_has1 h hi, ob1, i10, nI_clamp (show i < 2 ^ 31 by omega), if_neg (gdl (by omega) (by omega))]
  rcases hb with rfl | rfl
  · rw [nar0]
  · rw [nar1]
theorem op_leave (hI : II x s d o mu mz mw mo md) (v : Int32) {b : Int32} (hb : b = nI 0 ∨ b = nI 1) (t : TT) (w : Nat → Int64) (mk : Int32) (mp : MP) :
    ∃ k o' t' w' r mo' mp', f_La_leave x d o t w v b = some (k, o', t', w') ∧ f_Mo_leave mk mw mo md mp v b = some (r, k, mo', mp') ∧ (k = 0 → w' 0 = wz r) ∧ II x s d o' mu mz mw mo' md := by
  obtain ⟨rfl, h2, h3, P, G, K, h, hO, h4⟩ := id hI
  obtain ⟨a1, a2, a3⟩ := id h.1.1
  have bad : v < nI 0 ∨ (¬ v < nI 0 ∧ nI (P + G + K) ≤ v) → ∃ k o' t' w' r mo' mp', f_La_leave x d o t w v b = some (k, o', t', w') ∧ f_Mo_leave mk x mo md mp v b = some (r, k, mo', mp') ∧ (k = 0 → w' 0 = wz r) ∧ II x s d o' mu mz x mo' md := by
    intro hv
    refine ⟨1, o, t, w, 0, mo, mp, ?_, ?_, fun q => absurd q (by decide), hI⟩
    · unfold f_La_leave f_SD_leave f_SD_refuseMissingPart
      rw [x_hasx h.1 hv, ob1, i00]
      rfl
    · unfold f_Mo_leave
      rw [m_partx h.1.1 h.2.1 hv, ob1]
      rfl
  rcases ix3 v (n := P + G + K) (by omega) with hv | hv | ⟨i, hi, rfl⟩
  · exact bad (Or.inl hv)
  · exact bad (Or.inr hv)
  · obtain ⟨oe, ob'⟩ := hO i hi
    have gi : ¬ (nI i < 0 ∨ 40 ≤ i) := gdl (by omega) (by omega)
    have hM : f_Mo_leave mk x mo md mp (nI i) b = if mo i = b then some (0, 2, mo, mp) else Option.bind (f_Mo_isSo x (upd mo i b) md mp) (fun q => if q.1 = 0 ∨ q.1 = 1 then some (q.1, 0, upd mo i b, q.2) else none) := by
      have nb : vp_nar .boolean b = b := by rcases hb with rfl | rfl <;> decide
      unfold f_Mo_leave
      rw [m_part1 h.1.1 h.2.1 hi, ob1, i10]
      unfold jn_Mo_leave_14
      dsimp only
      rw [if_pos rfl, nI_clamp (show i < 2 ^ 31 by omega), if_neg gi]
      by_cases c : mo i = b
      · rw [if_pos c, if_pos c]; rfl
      · rw [if_neg c, if_neg c]
        unfold jn_Mo_leave_40 jn_Mo_leave_43
        dsimp only
        rw [if_pos (by decide), nI_clamp (show i < 2 ^ 31 by omega), if_neg gi, nb]
    have hC0 : f_SD_refuseMissingPart d (nI i) = some (Sum.inr ()) := by
      unfold f_SD_refuseMissingPart
      rw [x_has1 h.1 hi, ob1, i10]
    by_cases c : mo i = b
    · refine ⟨2, o, t, w, 0, mo, mp, ?_, by rw [hM, if_pos c], fun q => absurd q (by decide), hI⟩
      unfold f_La_leave f_SD_leave
      rw [hC0, ob1]
      dsimp only [sm]
      rw [x_left h.1 hi, ob1, oe, c]
      rcases hb with rfl | rfl <;> rfl
    · obtain ⟨r, t', mp', hr, e1, e2⟩ := met_so h (ov_up hO i hb) x t mp
      refine ⟨0, upd o i b, t', vp_updL w (0 : Int32).toNatClampNeg (wz r), r, upd mo i b, mp', ?_, ?_, fun _ => wr0 _ _, rfl, h2, h3, P, G, K, h, ov_up hO i hb, h4⟩
      · have hl : (if o i = nI 0 then nI 1 else nI 0) = b := by
          rw [oe]
          rcases hb with rfl | rfl
          · exact if_neg c
          · exact if_pos (ob'.elim id (fun q => absurd q c))
        unfold f_La_leave f_SD_leave
        rw [hC0, ob1]
        dsimp only [sm]
        rw [x_left h.1 hi, ob1, hl, if_pos rfl, x_set h.1 hi hb, ob1, e1, ob1]
        dsimp only
        rw [if_pos (show r = 0 ∨ r = 1 from hr), ob1]
        rcases hr with rfl | rfl <;> rfl
      · rw [hM, if_neg c, e2, ob1]
        exact if_pos hr
end PO
