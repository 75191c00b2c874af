section PL
variable {P G K : Nat} {d : DD} {md : MD} {o mo : Nat → Int32} {x mz mw : Int32} {s mu : Int64}
theorem x_pln (h : CD P G K d) {v : Int32} (hv : ∀ j, j < cn (lf o) (P + G + K) → ¬ nI j = v) : f_Re_partLeftAt d o v = some (-1) := by
  obtain ⟨a1, a2, a3⟩ := id h.1
  unfold f_Re_partLeftAt
  refine itn_go (fun i => (v, nI (cn (lf o) i), nI i)) (P + G + K) (fun rec => ?_) (fun i hi rec => ?_) 70 0 (by omega) (by omega)
  · unfold bd_Re_partLeftAt_4 f_Dr_partCount
    dsimp only
    rw [ob1, h.2.1, if_pos (nI_le (Nat.le_refl _) (by omega))]
  · unfold bd_Re_partLeftAt_4 f_Dr_partCount
    dsimp only
    rw [ob1, h.2.1, if_neg (nI_ge hi (by omega)), x_left h hi, ob1, show nI i + 1 = nI (i + 1) from nI_add i 1]
    by_cases c : o i = nI 0
    · have h1 := cn_t (f := lf o) (n := i) (decide_eq_true c)
      have h2 := cn_mono (lf o) (i + 1) (P + G + K) (by omega)
      rw [if_pos c, i10, h1, if_neg (hv _ (by omega)), show nI (cn (lf o) i) + 1 = nI (cn (lf o) i + 1) from nI_add _ 1]
    · rw [if_neg c, i00, cn_f (fun q => c (of_decide_eq_true q))]
theorem x_pla (h : CD P G K d) {q : Nat} (hq : q < P + G + K) (ho : o q = nI 0) : f_Re_partLeftAt d o (nI (cn (lf o) q)) = some (nI q) := by
  obtain ⟨a1, a2, a3⟩ := id h.1
  have hle := cn_le (lf o) q
  unfold f_Re_partLeftAt
  refine itn_go (fun i => (nI (cn (lf o) q), nI (cn (lf o) i), nI i)) q (fun rec => ?_) (fun i hi rec => ?_) 70 0 (by omega) (by omega)
  · unfold bd_Re_partLeftAt_4 f_Dr_partCount
    dsimp only
    rw [ob1, h.2.1, if_neg (nI_ge hq (by omega)), x_left h hq, ob1, if_pos ho, i10, if_pos rfl]
  · unfold bd_Re_partLeftAt_4 f_Dr_partCount
    dsimp only
    rw [ob1, h.2.1, if_neg (nI_ge (by omega) (by omega)), x_left h (by omega), ob1, show nI i + 1 = nI (i + 1) from nI_add i 1]
    by_cases c : o i = nI 0
    · have h1 := cn_t (f := lf o) (n := i) (decide_eq_true c)
      have h2 := cn_mono (lf o) (i + 1) q (by omega)
      have h3 := cn_le (lf o) i
      rw [if_pos c, i10, h1, if_neg (fun z => by rw [nI_eq (by omega) (by omega)] at z; omega), show nI (cn (lf o) i) + 1 = nI (cn (lf o) i + 1) from nI_add _ 1]
    · rw [if_neg c, i00, cn_f (fun q => c (of_decide_eq_true q))]
theorem prs (a : Nat) : (nI a - nI 1) + nI 1 = nI (a + 1) - nI 1 := by
  rw [pk_sub (show 1 ≤ a + 1 by omega), Int32.sub_add_cancel, Nat.add_sub_cancel]
theorem m_la (c : Int32) {q : Nat} (hq : q < 40) (ho : mo q = nI 0) : itn (bd_Mo_left_36 mo (fun z756 => some (z756.2.2.1, z756.2.2.2))) 70 (nI (cn (lf mo) q), -nI 1, -nI 1, c) = some (nI q, c) := by
  have hle := cn_le (lf mo) q
  have e : ∀ k, nI 0 - nI 1 = k → itn (bd_Mo_left_36 mo (fun z756 => some (z756.2.2.1, z756.2.2.2))) 70 (nI (cn (lf mo) q), k, k, c) = some (nI q, c) := by
    rintro k rfl
    refine itn_go (fun i => (nI (cn (lf mo) q), nI (cn (lf mo) i) - nI 1, nI i - nI 1, c)) (q + 1) (fun rec => ?_) (fun i hi rec => ?_) 70 0 (by omega) (by omega)
    · unfold bd_Mo_left_36
      dsimp only
      rw [cn_t (f := lf mo) (decide_eq_true ho), pk_sub (show 1 ≤ cn (lf mo) q + 1 by omega), pk_sub (show 1 ≤ q + 1 by omega), Nat.add_sub_cancel, Nat.add_sub_cancel, if_pos (nI_le (Nat.le_refl _) (by omega))]
    · have h2 := cn_mono (lf mo) i q (by omega)
      have h3 : ¬ nI (cn (lf mo) q) ≤ nI (cn (lf mo) i) - nI 1 := by
        rw [Int32.le_iff_toInt_le, nI_toInt (by omega), pk_sub_toInt (by omega) (by omega)]; omega
      unfold bd_Mo_left_36
      dsimp only
      rw [if_neg h3, show nI i - nI 1 + 1 = nI i from (prs i).trans (by rw [pk_sub (show 1 ≤ i + 1 by omega), Nat.add_sub_cancel]), nI_clamp (show i < 2 ^ 31 by omega), if_neg (gdl (by omega) (by omega)), show nI (cn (lf mo) i) - nI 1 + (1 : Int32) = nI (cn (lf mo) i + 1) - nI 1 from prs _, show nI (cn (lf mo) i) - nI 1 + (0 : Int32) = nI (cn (lf mo) i) - nI 1 from Int32.add_zero _, show nI (i + 1) - nI 1 = nI i by rw [pk_sub (show 1 ≤ i + 1 by omega), Nat.add_sub_cancel]]
      by_cases c1 : mo i = nI 0
      · rw [cn_t (f := lf mo) (decide_eq_true c1)]; exact if_pos c1
      · rw [cn_f (fun q => c1 (of_decide_eq_true q))]; exact if_neg c1
  exact e (-nI 1) (by decide)
theorem op_left (hI : II x s d o mu mz mw mo md) (v : Int32) (w : Nat → Int64) (mk : Int32) :
    ∃ k w' r, f_La_left d o w v = some (k, w') ∧ f_Mo_left mk mo md v = some (r, k) ∧ (k = 0 → w' 0 = r.toInt64) := by
  obtain ⟨-, -, -, P, G, K, h, hO, -⟩ := id hI
  obtain ⟨a1, a2, a3⟩ := id h.1.1
  have hle := cn_le (lf mo) (P + G + K)
  have hcg := lf_cg hO (Nat.le_refl _)
  have bad : v < nI 0 ∨ (¬ v < nI 0 ∧ nI (cn (lf mo) (P + G + K)) ≤ v) → ∃ k w' r, f_La_left d o w v = some (k, w') ∧ f_Mo_left mk mo md v = some (r, k) ∧ (k = 0 → w' 0 = r.toInt64) := by
    intro hv
    refine ⟨1, w, 0, ?_, ?_, fun q => absurd q (by decide)⟩
    · unfold f_La_left f_SD_left
      rw [x_pln h.1 (fun j hj e => ?_), ob1]
      · rfl
      · rw [hcg] at hj
        subst e
        rcases hv with hv | hv
        · exact nI_pos (by omega) hv
        · exact nI_ge hj (by omega) hv.2
    · unfold f_Mo_left
      rw [m_lc h.1.1 h.2.1, ob1, show (0 : Int32) = nI 0 from rfl, show (1 : Int32) = nI 1 from rfl, m_in (by omega), if_pos (in_t hv), ob1]
      rfl
  rcases ix3 v (n := cn (lf mo) (P + G + K)) (by omega) with hv | hv | ⟨j, hj, rfl⟩
  · exact bad (Or.inl hv)
  · exact bad (Or.inr hv)
  obtain ⟨q, hq, hf, rfl⟩ := cn_at (P + G + K) hj
  have hm : mo q = nI 0 := of_decide_eq_true hf
  refine ⟨0, vp_updL w (0 : Int32).toNatClampNeg (nI q).toInt64, nI q, ?_, ?_, fun _ => wr0 _ _⟩
  · unfold f_La_left f_SD_left
    rw [← lf_cg hO (n := q) (by omega), x_pla h.1 hq ((hO q hq).1.trans hm), ob1, if_pos (show (0 : Int32) ≤ nI q from nI_pos' (by omega)), ob1]
    rfl
  · unfold f_Mo_left
    rw [m_lc h.1.1 h.2.1, ob1, show (0 : Int32) = nI 0 from rfl, show (1 : Int32) = nI 1 from rfl, m_in (by omega), if_neg (in_f hj (by omega)), ob1]
    refine (if_neg (by decide)).trans ?_
    unfold jn_Mo_left_20
    dsimp only
    rw [if_pos (by decide)]
    exact m_la _ (by omega) hm
/-- an act counts -/
abbrev ctb (mo : Nat → Int32) (P G p g a : Nat) : Bool := decide (mo (P + G + a) = nI 0 ∧ mo p = nI 0 ∧ mo (P + g) = nI 0)
theorem ct3 {mo : Nat → Int32} {P G p g a : Nat} : (if mo (P + G + a) = nI 0 then if mo p = nI 0 then if mo (P + g) = nI 0 then nI 1 else nI 0 else nI 0 else nI 0) = if ctb mo P G p g a = true then nI 1 else nI 0 := by
  by_cases c1 : mo (P + G + a) = nI 0
  · by_cases c2 : mo p = nI 0
    · by_cases c3 : mo (P + g) = nI 0
      · rw [if_pos c1, if_pos c2, if_pos c3, if_pos (decide_eq_true ⟨c1, c2, c3⟩)]
      · rw [if_pos c1, if_pos c2, if_neg c3, if_neg (fun q => c3 (of_decide_eq_true q).2.2)]
    · rw [if_pos c1, if_neg c2, if_neg (fun q => c2 (of_decide_eq_true q).2.1)]
  · rw [if_neg c1, if_neg (fun q => c1 (of_decide_eq_true q).1)]
/-- whether the part i is an act that counts, and whether it lies, as the class sees it -/
def cb1 (d : DD) (o : Nat → Int32) (i : Nat) : Bool := decide (f_Re_isActThatCounts d o (nI i) = some (nI 1))
theorem op_count (hI : II x s d o mu mz mw mo md) (v : Int32) : ∃ r, f_SD_count d o v = some r ∧ f_Mo_count mz mo md v = some (r, 0) := by
  obtain ⟨-, -, hz, P, G, K, h, hO, -⟩ := id hI
  obtain ⟨a1, a2, a3⟩ := id h.1.1
  obtain ⟨b1, b2, b3, b4⟩ := id h.2.1
  have n10 : ∀ {α : Type} {k : Int32} {a b : α}, k = v → ¬ (0 : Int32) = 1 := fun _ => by decide
  unfold f_SD_count f_Mo_count f_Dr_partCount f_Dr_placeCount f_Dr_goodCount f_Dr_actCount f_Dr_drawnSize
  by_cases c0 : v = 0
  · subst c0; exact ⟨nI (P + G + K), by rw [if_pos rfl, ob1, h.1.2.1], by rw [if_pos rfl, b1]⟩
  by_cases c1 : v = 1
  · subst c1; exact ⟨nI P, by rw [if_neg c0, if_pos rfl, ob1, h.1.2.2.1], by rw [if_neg c0, if_pos rfl, b2]⟩
  by_cases c2 : v = 2
  · subst c2; exact ⟨nI G, by rw [if_neg c0, if_neg c1, if_pos rfl, ob1, h.1.2.2.2], by rw [if_neg c0, if_neg c1, if_pos rfl, b3]⟩
  by_cases c3 : v = 3
  · subst c3
    refine ⟨nI K, ?_, by rw [if_neg c0, if_neg c1, if_neg c2, if_pos rfl, b4]⟩
    rw [if_neg c0, if_neg c1, if_neg c2, if_pos rfl, ob1, h.1.2.1, h.1.2.2.1, h.1.2.2.2, pk_sub (show P ≤ P + G + K by omega), pk_sub (show G ≤ P + G + K - P by omega), show P + G + K - P - G = K by omega]
  by_cases c5 : v = 5
  · subst c5
    refine ⟨nI (cn (lf mo) (P + G + K)), ?_, by rw [if_neg c0, if_neg c1, if_neg c2, if_neg c3, if_pos rfl, m_lc h.1.1 h.2.1, ob1]⟩
    rw [if_neg c0, if_neg c1, if_neg c2, if_neg c3, if_neg (by decide), if_pos rfl, x_lc h.1, ob1, lf_cg hO (Nat.le_refl _)]
  by_cases c7 : v = 7
  · subst c7
    refine ⟨mz, ?_, by rw [if_neg c0, if_neg c1, if_neg c2, if_neg c3, if_neg c5, if_pos rfl]⟩
    rw [if_neg c0, if_neg c1, if_neg c2, if_neg c3, if_neg (by decide), if_neg c5, if_neg (by decide), if_pos rfl, ob1, hz]
  rw [if_neg c0, if_neg c1, if_neg c2, if_neg c3, if_neg c5, if_neg c7, if_neg c5, if_neg c7, if_neg c0, if_neg c1, if_neg c2, if_neg c3]
  by_cases c4 : v = 4
  · subst c4
    have ely : ∀ a, a < K → d.2.2.2.2.2.2.2.2 (P + G + a) = md.2.2.2.2.2.2.2.2.2.2 a := fun a ha => (h.2.2.2.2.2 a ha).1.2.2.2.2
    refine ⟨nI (cn (fun a => !decide (md.2.2.2.2.2.2.2.2.2.2 a = nI 0)) K), ?_, ?_⟩
    · rw [if_pos rfl]
      have e : f_Dr_lieCount d = some (nI (cn (fun i => !decide (d.2.2.2.2.2.2.2.2 i = nI 0)) (P + G + K))) := by
        unfold f_Dr_lieCount
        refine itn_go (fun i => (nI (cn (fun i => !decide (d.2.2.2.2.2.2.2.2 i = nI 0)) i), nI i)) (P + G + K) (fun rec => ?_) (fun i hi rec => ?_) 70 0 (by omega) (by omega)
        · unfold bd_Dr_lieCount_4
          dsimp only
          rw [h.1.2.1, if_pos (nI_le (Nat.le_refl _) (by omega))]
        · unfold bd_Dr_lieCount_4
          dsimp only
          rw [h.1.2.1, if_neg (nI_ge hi (by omega)), x_ly h.1 hi, ob1, show nI i + 1 = nI (i + 1) from nI_add i 1]
          by_cases c : d.2.2.2.2.2.2.2.2 i = nI 0
          · rw [if_pos c, i00, cn_f (by rw [decide_eq_true c]; decide)]
          · rw [if_neg c, i10, cn_t (by rw [decide_eq_false c]; rfl), show nI (cn (fun i => !decide (d.2.2.2.2.2.2.2.2 i = nI 0)) i) + 1 = nI (cn (fun i => !decide (d.2.2.2.2.2.2.2.2 i = nI 0)) i + 1) from nI_add _ 1]
      have z0 : cn (fun i => !decide (d.2.2.2.2.2.2.2.2 i = nI 0)) (P + G) = 0 := cn_none _ (fun i hi => by rw [decide_eq_true (h.2.2.2.2.1 i hi).2.2.2]; decide)
      rw [e, ob1, cn_sh (P + G) z0 K]
      exact congrArg (fun q => some (nI q)) (cn_cg K (fun a ha => by rw [ely a ha]))
    · refine itn_go (fun a => ((4 : Int32), nI (cn (fun a => !decide (md.2.2.2.2.2.2.2.2.2.2 a = nI 0)) a), nI a, (0 : Int32))) K (fun rec => ?_) (fun a ha rec => ?_) 70 0 (by omega) (by omega)
      · unfold bd_Mo_count_69
        dsimp only
        rw [b4, if_pos (nI_le (Nat.le_refl _) (by omega)), if_pos rfl]
      · unfold bd_Mo_count_69
        dsimp only
        rw [b4, if_neg (nI_ge ha (by omega)), if_pos rfl, nI_clamp (show a < 2 ^ 31 by omega), if_neg (gdl (by omega) (by omega)), show nI a + 1 = nI (a + 1) from nI_add a 1, show nI (cn (fun a => !decide (md.2.2.2.2.2.2.2.2.2.2 a = nI 0)) a) + (1 : Int32) = nI (cn (fun a => !decide (md.2.2.2.2.2.2.2.2.2.2 a = nI 0)) a + 1) from nI_add _ 1, show nI (cn (fun a => !decide (md.2.2.2.2.2.2.2.2.2.2 a = nI 0)) a) + (0 : Int32) = nI (cn (fun a => !decide (md.2.2.2.2.2.2.2.2.2.2 a = nI 0)) a) from Int32.add_zero _]
        by_cases c : md.2.2.2.2.2.2.2.2.2.2 a = nI 0
        · rw [cn_f (by rw [decide_eq_true c]; decide)]; exact if_pos c
        · rw [cn_t (by rw [decide_eq_false c]; rfl)]; exact if_neg c
  · -- the acts that count
    have ecb : ∀ a, a < K → ∃ b : Bool, f_Re_isActThatCounts d o (nI (P + G + a)) = some (if b = true then nI 1 else nI 0) ∧ f_Mo_counts mo md (nI a) = some (if b = true then nI 1 else nI 0) := by
      intro a ha
      obtain ⟨⟨r1, r2, r3, r4, r5⟩, ⟨p, hp, e1⟩, ⟨g, hg, e2⟩, -, -⟩ := h.2.2.2.2.2 a ha
      refine ⟨ctb mo P G p g a, ?_, ?_⟩
      · rw [x_cnt h.1 ha hp hg (r2.trans e1) (r3.trans e2), (hO (P + G + a) (by omega)).1, (hO p (by omega)).1, (hO (P + g) (by omega)).1, ct3]
      · rw [m_cnt h.1.1 h.2.1 ha hp hg e1 e2, ct3]
    have e01 : ∀ b : Bool, decide ((some (if b = true then nI 1 else nI 0) : Option Int32) = some (nI 1)) = b := by decide
    have emc : ∀ a, a < K → f_Mo_counts mo md (nI a) = some (if cb1 d o (P + G + a) = true then nI 1 else nI 0) := by
      intro a ha
      obtain ⟨b, q1, q2⟩ := ecb a ha
      unfold cb1
      rw [q2, q1, e01]
    have hM : itn (bd_Mo_count_69 mo md (fun z925 => (if z925.1 = 4 then some (z925.2.1, z925.2.2.2) else (if z925.1 = 6 then some (z925.2.1, z925.2.2.2) else some ((-1), z925.2.2.2))))) 70 (v, 0, 0, 0) = if v = 6 then some (nI (cn (fun a => cb1 d o (P + G + a)) K), 0) else some (-1, 0) := by
      refine itn_go (fun a => (v, nI (cn (fun a => cb1 d o (P + G + a)) a), nI a, (0 : Int32))) K (fun rec => ?_) (fun a ha rec => ?_) 70 0 (by omega) (by omega)
      · unfold bd_Mo_count_69
        dsimp only
        rw [b4, if_pos (nI_le (Nat.le_refl _) (by omega)), if_neg c4]
      · unfold bd_Mo_count_69
        dsimp only
        rw [b4, if_neg (nI_ge ha (by omega)), if_neg c4, emc a ha, ob1, show nI a + 1 = nI (a + 1) from nI_add a 1, show nI (cn (fun a => cb1 d o (P + G + a)) a) + (1 : Int32) = nI (cn (fun a => cb1 d o (P + G + a)) a + 1) from nI_add _ 1, show nI (cn (fun a => cb1 d o (P + G + a)) a) + (0 : Int32) = nI (cn (fun a => cb1 d o (P + G + a)) a) from Int32.add_zero _]
        by_cases c : cb1 d o (P + G + a) = true
        · rw [if_pos c, i10, cn_t (f := fun a => cb1 d o (P + G + a)) c]
        · rw [if_neg c, i00, cn_f (f := fun a => cb1 d o (P + G + a)) c]
    rw [hM, if_neg c4]
    by_cases c6 : v = 6
    · rw [if_pos c6, if_pos c6]
      refine ⟨_, ?_, rfl⟩
      have e : f_Re_countingActs d o = some (nI (cn (cb1 d o) (P + G + K))) := by
        unfold f_Re_countingActs
        refine itn_go (fun i => (nI (cn (cb1 d o) i), nI i)) (P + G + K) (fun rec => ?_) (fun i hi rec => ?_) 70 0 (by omega) (by omega)
        · unfold bd_Re_countingActs_4 f_Dr_partCount
          dsimp only
          rw [ob1, h.1.2.1, if_pos (nI_le (Nat.le_refl _) (by omega))]
        · have hc : f_Re_isActThatCounts d o (nI i) = some (if cb1 d o i = true then nI 1 else nI 0) := by
            unfold cb1
            by_cases c : i < P + G
            · rw [x_cnt0 h.1 c]; rfl
            · obtain ⟨a, rfl⟩ : ∃ a, i = P + G + a := ⟨i - (P + G), by omega⟩
              obtain ⟨b, q1, -⟩ := ecb a (by omega)
              rw [q1, e01]
          unfold bd_Re_countingActs_4 f_Dr_partCount
          dsimp only
          rw [ob1, h.1.2.1, if_neg (nI_ge hi (by omega)), hc, ob1, show nI i + 1 = nI (i + 1) from nI_add i 1]
          by_cases c : cb1 d o i = true
          · rw [if_pos c, i10, cn_t c, show nI (cn (cb1 d o) i) + 1 = nI (cn (cb1 d o) i + 1) from nI_add _ 1]
          · rw [if_neg c, i00, cn_f c]
      have z0 : cn (cb1 d o) (P + G) = 0 := cn_none _ (fun i hi q => by
        have q2 := of_decide_eq_true q
        rw [x_cnt0 h.1 hi] at q2
        exact absurd q2 (by decide))
      rw [e, ob1, cn_sh (P + G) z0 K]
    · rw [if_neg c6, if_neg c6]
      exact ⟨_, rfl, rfl⟩
end PL
