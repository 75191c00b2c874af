/-- how many -/
def cn (f : Nat → Bool) : Nat → Nat
  | 0 => 0
  | n + 1 => cn f n + (if f n = true then 1 else 0)
theorem cn_le (f : Nat → Bool) : ∀ n, cn f n ≤ n
  | 0 => Nat.le_refl 0
  | n + 1 => by
    have h := cn_le f n
    show cn f n + (if f n = true then 1 else 0) ≤ n + 1
    split <;> omega
theorem cn_cg {f g : Nat → Bool} : ∀ n, (∀ i, i < n → f i = g i) → cn f n = cn g n
  | 0, _ => rfl
  | n + 1, h => by
    show cn f n + (if f n = true then 1 else 0) = cn g n + (if g n = true then 1 else 0)
    rw [cn_cg n (fun i hi => h i (by omega)), h n (by omega)]
theorem cn_t {f : Nat → Bool} {n : Nat} (h : f n = true) : cn f (n + 1) = cn f n + 1 := by
  show cn f n + (if f n = true then 1 else 0) = _
  rw [if_pos h]
theorem cn_f {f : Nat → Bool} {n : Nat} (h : ¬ f n = true) : cn f (n + 1) = cn f n := by
  show cn f n + (if f n = true then 1 else 0) = _
  rw [if_neg h, Nat.add_zero]
theorem cn_none {f : Nat → Bool} : ∀ n, (∀ i, i < n → ¬ f i = true) → cn f n = 0
  | 0, _ => rfl
  | n + 1, h => by rw [cn_f (h n (by omega)), cn_none n (fun i hi => h i (by omega))]
theorem cn_sh {f : Nat → Bool} (m : Nat) (h : cn f m = 0) : ∀ n, cn f (m + n) = cn (fun b => f (m + b)) n
  | 0 => h
  | n + 1 => by
    show cn f (m + n) + (if f (m + n) = true then 1 else 0) = cn (fun b => f (m + b)) n + (if f (m + n) = true then 1 else 0)
    rw [cn_sh m h n]
theorem cn_mono (f : Nat → Bool) : ∀ n m, n ≤ m → cn f n ≤ cn f m
  | n, 0, h => by rw [Nat.le_zero.mp h]; exact Nat.le_refl _
  | n, m + 1, h => by
    by_cases c : n = m + 1
    · rw [c]; exact Nat.le_refl _
    · have h1 := cn_mono f n m (by omega)
      show cn f n ≤ cn f m + (if f m = true then 1 else 0)
      split <;> omega
theorem cn_at {f : Nat → Bool} {j : Nat} : ∀ n, j < cn f n → ∃ q, q < n ∧ f q = true ∧ cn f q = j
  | 0, h => absurd h (Nat.not_lt_zero j)
  | n + 1, h => by
    by_cases c : j < cn f n
    · obtain ⟨q, h1, h2⟩ := cn_at n c
      exact ⟨q, by omega, h2⟩
    · by_cases c2 : f n = true
      · rw [cn_t c2] at h
        exact ⟨n, by omega, c2, by omega⟩
      · rw [cn_f c2] at h
        exact absurd h c
/-- the parts left -/
abbrev lf (o : Nat → Int32) : Nat → Bool := fun i => decide (o i = nI 0)
section PC
variable {P G K : Nat} {d : DD} {md : MD} {o mo : Nat → Int32} {x mz mw : Int32} {s mu : Int64}
theorem lf_cg (hO : OV (P + G + K) o mo) {n : Nat} (hn : n ≤ P + G + K) : cn (lf o) n = cn (lf mo) n := cn_cg n fun i hi => by
  show decide (o i = nI 0) = decide (mo i = nI 0)
  rw [(hO i (by omega)).1]
theorem x_lc (h : CD P G K d) : f_Re_leftCount d o = some (nI (cn (lf o) (P + G + K))) := by
  obtain ⟨a1, a2, a3⟩ := id h.1
  unfold f_Re_leftCount
  refine itn_go (fun i => (nI (cn (lf o) i), nI i)) (P + G + K) (fun rec => ?_) (fun i hi rec => ?_) 70 0 (by omega) (by omega)
  · unfold bd_Re_leftCount_4 f_Dr_partCount
    dsimp only
    rw [ob1, h.2.1, if_pos (nI_le (Nat.le_refl _) (by omega))]
  · unfold bd_Re_leftCount_4 f_Dr_partCount
    dsimp only
    rw [ob1, h.2.1, if_neg (nI_ge hi (by omega)), x_left h hi, ob1, show nI i + 1 = nI (i + 1) from nI_add i 1]
    by_cases c : o i = nI 0
    · rw [if_pos c, i10, cn_t (decide_eq_true c), show nI (cn (lf o) i) + 1 = nI (cn (lf o) i + 1) from nI_add _ 1]
    · rw [if_neg c, i00, cn_f (fun q => c (of_decide_eq_true q))]
theorem m_lc (hb : P ≤ 6 ∧ G ≤ 6 ∧ K ≤ 18) (h : CM P G K md) : f_Mo_leftOnes mo md = some (nI (cn (lf mo) (P + G + K))) := by
  obtain ⟨a1, a2, a3⟩ := id hb
  unfold f_Mo_leftOnes
  refine itn_go (fun i => (nI (cn (lf mo) i), nI i)) (P + G + K) (fun rec => ?_) (fun i hi rec => ?_) 70 0 (by omega) (by omega)
  · unfold bd_Mo_leftOnes_4
    dsimp only
    rw [h.1, if_pos (nI_le (Nat.le_refl _) (by omega))]
  · unfold bd_Mo_leftOnes_4
    dsimp only
    rw [h.1, if_neg (nI_ge hi (by omega)), nI_clamp (show i < 2 ^ 31 by omega), if_neg (gdl (by omega) (by omega)), show nI i + 1 = nI (i + 1) from nI_add i 1, show nI (cn (lf mo) i) + (1 : Int32) = nI (cn (lf mo) i + 1) from nI_add _ 1, show nI (cn (lf mo) i) + (0 : Int32) = nI (cn (lf mo) i + 0) from nI_add _ 0, Nat.add_zero]
    by_cases c : mo i = nI 0
    · rw [cn_t (decide_eq_true c)]; exact if_pos c
    · rw [cn_f (fun q => c (of_decide_eq_true q))]; exact if_neg c
theorem op_whole (hI : II x s d o mu mz mw mo md) : ∃ r o' mo', f_SD_whole d o = some (r, o') ∧ f_Mo_whole mo md = some (r, 0, mo') ∧ II x s d o' mu mz mw mo' md := by
  obtain ⟨h1, h2, h3, P, G, K, h, hO, h4⟩ := id hI
  obtain ⟨a1, a2, a3⟩ := id h.1.1
  refine ⟨nI (P + G + K) - nI (cn (lf mo) (P + G + K)), zf 30 o, zf (P + G + K) mo, ?_, ?_, h1, h2, h3, P, G, K, h, fun i hi => ?_, h4⟩
  · unfold f_SD_whole f_Dr_partCount
    rw [ob1, x_lc h.1, ob1, x_back, ob1, h.1.2.1, lf_cg hO (Nat.le_refl _)]
  · unfold f_Mo_whole
    rw [m_lc h.1.1 h.2.1, ob1, h.2.1.1]
    have e := itn_go (F := bd_Mo_whole_17 md (fun z772 => some (z772.1, z772.2.2.1, z772.2.2.2))) (fun i => (nI (P + G + K) - nI (cn (lf mo) (P + G + K)), nI i, (0 : Int32), zf i mo)) (P + G + K) (out := some (nI (P + G + K) - nI (cn (lf mo) (P + G + K)), 0, zf (P + G + K) mo)) (fun rec => by
      unfold bd_Mo_whole_17
      dsimp only
      rw [h.2.1.1, if_pos (nI_le (Nat.le_refl _) (by omega))]) (fun i hi rec => by
      unfold bd_Mo_whole_17
      dsimp only
      rw [h.2.1.1, if_neg (nI_ge hi (by omega)), nI_clamp (show i < 2 ^ 31 by omega), if_neg (gdl (by omega) (by omega)), show vp_nar .boolean (0 : Int32) = nI 0 from nar0, zf_up, show nI i + 1 = nI (i + 1) from nI_add i 1]) 70 0 (by omega) (by omega)
    simp only [zf_0] at e
    exact e
  · rw [zf_in o (by omega), zf_in mo hi]
    exact ⟨rfl, Or.inl rfl⟩
theorem op_pieces (hI : II x s d o mu mz mw mo md) (v1 v2 : Int32) (t : TT) (w : Nat → Int64) (mk : Int32) (mp : MP) :
    ∃ k t' w' r mp', f_La_pieces d o t w v1 v2 = some (k, t', w') ∧ f_Mo_pieces mk mo md mp v1 v2 = some (r, k, mp') ∧ (k = 0 → w' 0 = r.toInt64) := by
  obtain ⟨-, -, -, P, G, K, h, hO, -⟩ := id hI
  obtain ⟨a1, a2, a3⟩ := id h.1.1
  have badp : v1 < nI 0 ∨ (¬ v1 < nI 0 ∧ nI P ≤ v1) → ∃ k t' w' r mp', f_La_pieces d o t w v1 v2 = some (k, t', w') ∧ f_Mo_pieces mk mo md mp v1 v2 = some (r, k, mp') ∧ (k = 0 → w' 0 = r.toInt64) := by
    intro hv
    refine ⟨1, t, w, 0, mp, ?_, ?_, fun q => absurd q (by decide)⟩
    · unfold f_La_pieces f_SD_pieces f_SD_refuseMissingPlace
      rw [x_hPx h.1 hv, ob1, i00]
      rfl
    · unfold f_Mo_pieces
      rw [h.2.1.2.1, show (0 : Int32) = nI 0 from rfl, show (1 : Int32) = nI 1 from rfl, m_in (by omega), if_pos (in_t hv), ob1]
      rfl
  have badg : ∀ p, p < P → v2 < nI 0 ∨ (¬ v2 < nI 0 ∧ nI G ≤ v2) → ∃ k t' w' r mp', f_La_pieces d o t w (nI p) v2 = some (k, t', w') ∧ f_Mo_pieces mk mo md mp (nI p) v2 = some (r, k, mp') ∧ (k = 0 → w' 0 = r.toInt64) := by
    intro p hp hv
    refine ⟨1, t, w, 0, mp, ?_, ?_, fun q => absurd q (by decide)⟩
    · unfold f_La_pieces f_SD_pieces f_SD_refuseMissingPlace
      rw [x_hP1 h.1 hp, ob1, i10, ob1]
      dsimp only [sm]
      rw [x_hGx h.1 hv, ob1, i00]
      rfl
    · unfold f_Mo_pieces
      rw [h.2.1.2.1, h.2.1.2.2.1, show (0 : Int32) = nI 0 from rfl, show (1 : Int32) = nI 1 from rfl, m_in (by omega), if_neg (in_f hp (by omega)), ob1, m_in (by omega), if_pos (in_t hv), ob1]
      rfl
  rcases ix3 v1 (n := P) (by omega) with hv | hv | ⟨p, hp, rfl⟩
  · exact badp (Or.inl hv)
  · exact badp (Or.inr hv)
  rcases ix3 v2 (n := G) (by omega) with hv | hv | ⟨g, hg, rfl⟩
  · exact badg p hp (Or.inl hv)
  · exact badg p hp (Or.inr hv)
  obtain ⟨f, t', mp', e1, e2, hT⟩ := tell_go h.1 h.2.1 h.2.2 hO t mp
  refine ⟨0, t', vp_updL w (0 : Int32).toNatClampNeg (mp'.1 (8 * p + g)).toInt64, mp'.1 (8 * p + g), mp', ?_, ?_, fun _ => wr0 _ _⟩
  · unfold f_La_pieces f_SD_pieces f_SD_refuseMissingPlace
    rw [x_hP1 h.1 hp, ob1, i10, ob1]
    dsimp only [sm]
    rw [x_hG1 h.1 hg, ob1, i10, e1, ob1]
    dsimp only
    rw [x_stk h.1 hp hg, ob1, ob1, (hT p hp).1 g hg]
    rfl
  · unfold f_Mo_pieces
    rw [h.2.1.2.1, h.2.1.2.2.1, show (0 : Int32) = nI 0 from rfl, show (1 : Int32) = nI 1 from rfl, m_in (by omega), if_neg (in_f hp (by omega)), ob1, m_in (by omega), if_neg (in_f hg (by omega)), ob1]
    refine (if_neg (by decide)).trans ((if_neg (by decide)).trans ?_)
    unfold jn_Mo_pieces_34
    dsimp only
    rw [if_pos (by decide), e2, ob1, show (8 : Int32) * nI p + nI g = nI (8 * p + g) by rw [n_lit, pk_mul, nI_add], nI_clamp (show 8 * p + g < 2 ^ 31 by omega), if_neg (gdl (by omega) (by omega))]
theorem op_most (hI : II x s d o mu mz mw mo md) (v1 : Int32) (t : TT) (w : Nat → Int64) (mk : Int32) (mp : MP) :
    ∃ k t' w' r mp', f_La_most d o t w v1 = some (k, t', w') ∧ f_Mo_most mk mo md mp v1 = some (r, k, mp') ∧ (k = 0 → w' 0 = r.toInt64) := by
  obtain ⟨-, -, -, P, G, K, h, hO, -⟩ := id hI
  obtain ⟨a1, a2, a3⟩ := id h.1.1
  have badp : v1 < nI 0 ∨ (¬ v1 < nI 0 ∧ nI P ≤ v1) → ∃ k t' w' r mp', f_La_most d o t w v1 = some (k, t', w') ∧ f_Mo_most mk mo md mp v1 = some (r, k, mp') ∧ (k = 0 → w' 0 = r.toInt64) := by
    intro hv
    refine ⟨1, t, w, 0, mp, ?_, ?_, fun q => absurd q (by decide)⟩
    · unfold f_La_most f_SD_most f_SD_refuseMissingPlace
      rw [x_hPx h.1 hv, ob1, i00]
      rfl
    · unfold f_Mo_most
      rw [h.2.1.2.1, show (0 : Int32) = nI 0 from rfl, show (1 : Int32) = nI 1 from rfl, m_in (by omega), if_pos (in_t hv), ob1]
      rfl
  rcases ix3 v1 (n := P) (by omega) with hv | hv | ⟨p, hp, rfl⟩
  · exact badp (Or.inl hv)
  · exact badp (Or.inr hv)
  obtain ⟨f, t', mp', e1, e2, hT⟩ := tell_go h.1 h.2.1 h.2.2 hO t mp
  refine ⟨0, t', vp_updL w (0 : Int32).toNatClampNeg (mp'.2 p).toInt64, mp'.2 p, mp', ?_, ?_, fun _ => wr0 _ _⟩
  · unfold f_La_most f_SD_most f_SD_refuseMissingPlace f_St_heaviestAt
    rw [x_hP1 h.1 hp, ob1, i10, ob1]
    dsimp only [sm]
    rw [e1, ob1, ob1, i10, nI_clamp (show p < 2 ^ 31 by omega), if_neg (gdl (by omega) (by omega)), ob1, ob1]
    dsimp only
    rw [(hT p hp).2]
    rfl
  · unfold f_Mo_most
    rw [h.2.1.2.1, show (0 : Int32) = nI 0 from rfl, show (1 : Int32) = nI 1 from rfl, m_in (by omega), if_neg (in_f hp (by omega)), ob1]
    refine (if_neg (by decide)).trans ?_
    unfold jn_Mo_most_20
    dsimp only
    rw [if_pos (by decide), e2, ob1, nI_clamp (show p < 2 ^ 31 by omega), if_neg (gdl (by omega) (by omega))]
end PC
