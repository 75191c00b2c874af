def IV (P G K : Nat) (d : DD) (md : MD) : Prop := CD P G K d ∧ CM P G K md ∧ AR P G K d md
/-- class and reference are in the same state -/
def II (x : Int32) (s : Int64) (d : DD) (o : Nat → Int32) (mu : Int64) (mz mw : Int32) (mo : Nat → Int32) (md : MD) : Prop := x = mw ∧ s = mu ∧ d.1 = mz ∧ ∃ P G K, IV P G K d md ∧ OV (P + G + K) o mo ∧ ((mz = -nI 1 ∧ P = 0 ∧ G = 0 ∧ K = 0) ∨ (¬ mz = -nI 1 ∧ 0 < P))
theorem x_back (o : Nat → Int32) : f_Re_takeAllBack o = some (zf 30 o) := by
  unfold f_Re_takeAllBack
  have h := itn_go (F := bd_Re_takeAllBack_2 (fun z => some z.2)) (fun i => (nI i, zf i o)) 30 (out := some (zf 30 o)) (fun rec => by
    unfold bd_Re_takeAllBack_2
    simp (disch := omega) only [n_lit, n_le0, n_lt0, n_eq0, nI_clamp, nI_add, pk_mul, ob1, false_or, or_false, if_true, if_false, eq_self, nlf, nltf, nlet, nltt, neqf, not_true_eq_false, not_false_eq_true, or_self, and_self, true_and, and_true, true_or, or_true]) (fun i hi rec => by
    unfold bd_Re_takeAllBack_2
    simp (disch := omega) only [n_lit, n_le0, n_lt0, n_eq0, nI_clamp, nI_add, pk_mul, ob1, false_or, or_false, if_true, if_false, eq_self, nlf, nltf, nlet, nltt, neqf, not_true_eq_false, not_false_eq_true, or_self, and_self, true_and, and_true, true_or, or_true, nar0, zf_up]) 70 0 (by omega) (by omega)
  simp only [zf_0] at h
  exact h
/-- the reference reads the row -/
theorem m_read {n P G K : Nat} (hb : P ≤ 6 ∧ G ≤ 6 ∧ K ≤ 18) {d : DD} {mr : MR} (hI : IC (nI n) P G K K d mr) {s s' : Int64} {mr0 : MR} (hR : f_Mo_drawRow s mr0 (nI n) = some (s', mr)) (mk mz : Int32) (mo : Nat → Int32) (md : MD) :
    ∃ md', jn_Mo_draw_15 (nI n, 0, mk, s, mz, mo, md, mr0) = some (nI (P + G + K), 0, s', nI n, zf (P + G + K) mo, md', mr) ∧ CM P G K md' ∧ AR P G K d md' := by
  obtain ⟨a1, a2, a3⟩ := id hb
  obtain ⟨i1, i2, i3, i4, i5, ⟨i6, i7⟩, ⟨i8, i9⟩, i10', i11⟩ := id hI
  unfold jn_Mo_draw_15
  dsimp only
  rw [if_pos (by decide), hR, ob1, if_neg (by decide)]
  dsimp only
  rw [show (0 : Int32).toNatClampNeg = 0 from rfl, i6, l51 (P := P) rfl a1]
  dsimp only
  rw [show nI 1 + nI P = nI (1 + P) from nI_add 1 P, nI_clamp (show 1 + P < 2 ^ 31 by omega), if_neg (gdl (show 1 + P < 200 by omega) (by omega)), show 1 + P = P + 1 by omega, i8, show P + 1 = 1 + P by omega, l98 (P := P) (G := G) rfl a1 a2]
  dsimp only
  rw [show nI G + (1 : Int32) = nI (G + 1) from nI_add G 1, nI_add, nI_clamp (show 1 + P + (G + 1) < 2 ^ 31 by omega), if_neg (gdl (show 1 + P + (G + 1) < 200 by omega) (by omega)), show mr.2 (1 + P + (G + 1)) = nI K by rw [← i10']; exact congrArg mr.2 (by omega), show nI (1 + P + (G + 1)) + 1 = nI (1 + P + (G + 1) + 1) from nI_add _ 1]
  have ix : ∀ b j, 1 + P + (G + 1) + 1 + 5 * b + j = P + G + 3 + 5 * b + j := fun b j => by omega
  rw [l152 (K := K) (B := 1 + P + (G + 1) + 1) rfl a3 (by omega) (fun b hb' => by
    obtain ⟨⟨c1, c2, c3, c4, c5⟩, -, -, c6, c7⟩ := i11 b hb'
    rw [ix b 3, ix b 4, c4, c5]
    exact ⟨c6, c7⟩)]
  dsimp only
  rw [nI_add P G, nI_add (P + G) K, l275 (N := P + G + K) rfl (by omega)]
  dsimp only
  refine ⟨_, rfl, ⟨rfl, rfl, rfl, rfl⟩, fun i hi => ?_, fun g hg => ?_, fun i hi => ?_, fun a ha => ?_⟩
  · dsimp only
    rw [cp_in hi]
    exact (i7 i hi).1.symm
  · dsimp only
    rw [cp_in hg, ← (i9 g hg).1]
    exact congrArg mr.2 (by omega)
  · by_cases c : i < P
    · exact (i7 i c).2
    · have h9 := (i9 (i - P) (by omega)).2
      rw [show P + (i - P) = i by omega] at h9
      exact h9
  · dsimp only
    obtain ⟨⟨c1, c2, c3, c4, c5⟩, c6, c7, c8, c9⟩ := i11 a ha
    rw [cp_in ha, cp_in ha, cp_in ha, cp_in ha, cp_in ha, ix a 0, ix a 1, ix a 2, ix a 3, ix a 4, show mr.2 (P + G + 3 + 5 * a + 0) = d.2.2.2.2.2.1 (P + G + a) from c1, c2, c3, c4, c5]
    exact ⟨⟨rfl, rfl, rfl, rfl, rfl⟩, c6, c7, c8, c9⟩
theorem wr0 (w : Nat → Int64) (x : Int64) : vp_updL w (0 : Int32).toNatClampNeg x 0 = x := pk_uLs
theorem op_draw {x mz mw : Int32} {s mu : Int64} {d : DD} {o mo : Nat → Int32} {md : MD} (hI : II x s d o mu mz mw mo md) (v : Int32) (w : Nat → Int64) (mk : Int32) (mr : MR) :
    ∃ k s' d' o' w' b mu' mz' mo' md' mr', f_La_draw s d o w v = some (k, s', d', o', w') ∧ f_Mo_draw mk mu mz mo md mr v = some (b, k, mu', mz', mo', md', mr') ∧ (k = 0 → w' 0 = b.toInt64) ∧ II x s' d' o' mu' mz' mw mo' md' := by
  obtain ⟨hx, rfl, hz, h4⟩ := id hI
  rcases ix3 v (n := 6) (by omega) with hv | hv | ⟨n, hn, rfl⟩
  · refine ⟨1, s, d, o, w, 0, s, mz, mo, md, mr, ?_, ?_, fun q => absurd q (by decide), hI⟩
    · unfold f_La_draw f_SD_draw f_SD_refuseWrongSize
      rw [if_pos (show v < 0 from hv)]
      rfl
    · unfold f_Mo_draw
      rw [show (0 : Int32) = nI 0 from rfl, show (5 : Int32) = nI 5 from rfl, m_in5 (by omega), if_pos (Or.inl hv), ob1]
      rfl
  · refine ⟨1, s, d, o, w, 0, s, mz, mo, md, mr, ?_, ?_, fun q => absurd q (by decide), hI⟩
    · unfold f_La_draw f_SD_draw f_SD_refuseWrongSize
      rw [if_neg (show ¬ v < 0 from hv.1), if_neg (show ¬ v ≤ 5 from fun q => by
        have h1 := hv.2
        rw [Int32.le_iff_toInt_le] at q h1
        have h2 : (5 : Int32).toInt = 5 := by decide
        have h3 : (nI 6).toInt = 6 := by decide
        omega)]
      rfl
    · unfold f_Mo_draw
      rw [show (0 : Int32) = nI 0 from rfl, show (5 : Int32) = nI 5 from rfl, m_in5 (by omega), if_pos (Or.inr hv.2), ob1]
      rfl
  · obtain ⟨P, G, K, s', d', mr', p0, g0, hb, hIC, hC, hM⟩ := draw_row (show n ≤ 5 by omega) s d mr
    obtain ⟨md', hJ, hCM, hAR⟩ := m_read hb hIC hM mk mz mo md
    obtain ⟨i1, i2, i3, i4, -⟩ := id hIC
    refine ⟨0, s', d', zf 30 o, vp_updL w (0 : Int32).toNatClampNeg (nI (P + G + K)).toInt64, nI (P + G + K), s', nI n, zf (P + G + K) mo, md', mr', ?_, ?_, fun _ => wr0 _ _, hx, rfl, i1, P, G, K, ⟨⟨hb, i2, i3, i4⟩, hCM, hAR⟩, fun i hi => ?_, Or.inr ⟨fun q => Eq.mp (n_m1eq (show n < 2 ^ 31 by omega)) q, p0⟩⟩
    · unfold f_La_draw f_SD_draw f_SD_refuseWrongSize
      rw [if_neg (show ¬ nI n < 0 from nI_pos (by omega)), if_pos (show nI n ≤ 5 from (nI_leI (by omega) (by omega : 5 < 2 ^ 31)).mpr (by omega)), ob1]
      dsimp only [sm]
      rw [hC, ob1, x_back, ob1]
      unfold f_Dr_partCount
      dsimp only
      rw [ob1, ob1, i2]
      rfl
    · unfold f_Mo_draw
      rw [show (0 : Int32) = nI 0 from rfl, show (5 : Int32) = nI 5 from rfl, m_in5 (by omega), if_neg (in_f hn (by omega)), ob1]
      exact (if_neg (by decide)).trans hJ
    · rw [zf_in o (by omega), zf_in mo hi]
      exact ⟨rfl, Or.inl rfl⟩
