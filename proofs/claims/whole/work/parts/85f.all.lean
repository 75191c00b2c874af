def fi (cb : Nat → Bool) (f : Int32) : Nat → Int32
  | 0 => f
  | k + 1 => orr (cb k = true) (nI 32) (fi cb f k)
theorem fi_cg {cb cb' : Nat → Bool} (f : Int32) : ∀ n, (∀ k, k < n → cb k = cb' k) → fi cb f n = fi cb' f n
  | 0, _ => rfl
  | n + 1, h => by
    show orr (cb n = true) (nI 32) (fi cb f n) = orr (cb' n = true) (nI 32) (fi cb' f n)
    rw [fi_cg f n (fun k hk => h k (by omega))]
    exact orr_cg (by rw [h n (by omega)]) _ _
theorem fi_orr (cb : Nat → Bool) (c : Prop) [Decidable c] (k x : Int32) : ∀ n, fi cb (orr c k x) n = orr c k (fi cb x n)
  | 0 => rfl
  | n + 1 => by
    show orr (cb n = true) (nI 32) (fi cb (orr c k x) n) = orr c k (orr (cb n = true) (nI 32) (fi cb x n))
    rw [fi_orr cb c k x n, orr_sw]
section PA
variable {P G K : Nat} {d : DD} {md : MD} {o mo : Nat → Int32}
theorem x_busy {t : TT} (h : CD P G K d) {p : Nat} (hp : p < P) : f_St_isBusy d t (nI p) = some (if t.2.2.1 p = nI 0 then nI 0 else nI 1) := by
  obtain ⟨a1, a2, a3⟩ := h.1
  unfold f_St_isBusy
  rw [x_hP1 h hp, ob1, i10, nI_clamp (show p < 2 ^ 31 by omega), if_neg (gdl (by omega) (by omega))]
  by_cases c : t.2.2.1 p = nI 0
  · rw [if_pos c]; exact if_pos c
  · rw [if_neg c]; exact if_neg c
theorem x_e17 (h : CD P G K d) {t : TT} {p : Nat} (hp : p < P) (acc : Int32) (kx : Int32 × Int32 × Int32 × TT → Option TT) : itn (bd_St_lookAtTheEnd_17 d kx) 70 (acc, nI p, 0, t) = kx (acc + sg (fun g => t.1 (p * 6 + g)) G, nI p, nI G, t) := by
  obtain ⟨a1, a2, a3⟩ := h.1
  refine Eq.trans (congrArg (fun x => itn (bd_St_lookAtTheEnd_17 d kx) 70 (x, nI p, 0, t)) (Int32.add_zero acc).symm) (itn_go (fun g => (acc + sg (fun g => t.1 (p * 6 + g)) g, nI p, nI g, t)) G (fun rec => ?_) (fun g hg rec => ?_) 70 0 (by omega) (by omega))
  · unfold bd_St_lookAtTheEnd_17 f_Dr_goodCount
    dsimp only
    rw [ob1, h.2.2.2, if_pos (nI_le (Nat.le_refl G) (by omega))]
  · unfold bd_St_lookAtTheEnd_17 f_Dr_goodCount
    dsimp only
    rw [ob1, h.2.2.2, if_neg (nI_ge hg (by omega)), x_stk h hp hg, ob1, Int32.add_assoc, show nI g + 1 = nI (g + 1) from nI_add g 1]
    rfl
theorem x_end (h : CD P G K d) (t : TT) : f_St_lookAtTheEnd d o t = some (t.1, t.2.1, t.2.2.1, orr (tot P G t &&& nI 1 = nI 1) (nI 16) (fi (fun p => decide (o p = nI 0 ∧ t.2.2.1 p = nI 0)) t.2.2.2 P)) := by
  obtain ⟨a1, a2, a3⟩ := h.1
  unfold f_St_lookAtTheEnd
  refine itn_go (fun p => (sg (fun p => sg (fun g => t.1 (p * 6 + g)) G) p, nI p, (t.1, t.2.1, t.2.2.1, fi (fun p => decide (o p = nI 0 ∧ t.2.2.1 p = nI 0)) t.2.2.2 p))) P (fun rec => ?_) (fun p hp rec => ?_) 70 0 (by omega) (by omega)
  · unfold bd_St_lookAtTheEnd_4 f_Dr_placeCount
    dsimp only
    rw [ob1, h.2.2.1, if_pos (nI_le (Nat.le_refl P) (by omega))]
    by_cases c : tot P G t &&& nI 1 = nI 1
    · rw [orr_t c]; exact if_pos c
    · rw [orr_f c]; exact if_neg c
  · unfold bd_St_lookAtTheEnd_4 f_Dr_placeCount
    dsimp only
    rw [ob1, h.2.2.1, if_neg (nI_ge hp (by omega)), x_e17 h hp, x_left h (by omega), ob1, show nI p + 1 = nI (p + 1) from nI_add p 1]
    dsimp only
    by_cases c1 : o p = nI 0
    · rw [if_pos c1, i10, x_busy h hp, ob1]
      dsimp only
      by_cases c2 : t.2.2.1 p = nI 0
      · rw [if_pos c2, i00]
        show _ = rec (_, _, (_, _, _, orr (decide (o p = nI 0 ∧ t.2.2.1 p = nI 0) = true) (nI 32) _))
        rw [orr_t (decide_eq_true ⟨c1, c2⟩)]; rfl
      · rw [if_neg c2, i10]
        show _ = rec (_, _, (_, _, _, orr (decide (o p = nI 0 ∧ t.2.2.1 p = nI 0) = true) (nI 32) _))
        rw [orr_f (fun q => c2 (of_decide_eq_true q).2)]; rfl
    · rw [if_neg c1, i00]
      show _ = rec (_, _, (_, _, _, orr (decide (o p = nI 0 ∧ t.2.2.1 p = nI 0) = true) (nI 32) _))
      rw [orr_f (fun q => c1 (of_decide_eq_true q).1)]; rfl
theorem m_end (hb : P ≤ 6 ∧ G ≤ 6 ∧ K ≤ 18) (h : CM P G K md) (st bm sm sn : Int32) (mp : MP) : jn_Mo_goThrough_358 mo md (st, bm, sm, sn, mp) = some (fi (fun p => decide (mo p = nI 0 ∧ (sn >>> (nI p &&& nI 31)) &&& nI 1 = nI 0)) st P, mp) := by
  obtain ⟨a1, a2, a3⟩ := hb
  unfold jn_Mo_goThrough_358
  dsimp only
  refine itn_go (fun p => (fi (fun p => decide (mo p = nI 0 ∧ (sn >>> (nI p &&& nI 31)) &&& nI 1 = nI 0)) st p, bm, sm, sn, nI p, mp)) P (fun rec => ?_) (fun p hp rec => ?_) 70 0 (by omega) (by omega)
  · unfold bd_Mo_goThrough_361
    dsimp only
    rw [h.2.1, if_pos (nI_le (Nat.le_refl P) (by omega))]
  · unfold bd_Mo_goThrough_361
    dsimp only
    rw [h.2.1, if_neg (nI_ge hp (by omega)), nI_clamp (show p < 2 ^ 31 by omega), if_neg (gdl (by omega) (by omega)), show nI p + 1 = nI (p + 1) from nI_add p 1]
    show _ = rec (orr (decide (mo p = nI 0 ∧ (sn >>> (nI p &&& nI 31)) &&& nI 1 = nI 0) = true) (nI 32) _, _)
    by_cases c1 : mo p = nI 0
    · by_cases c2 : (sn >>> (nI p &&& nI 31)) &&& nI 1 = nI 0
      · rw [orr_t (decide_eq_true ⟨c1, c2⟩)]; exact (if_pos c1).trans (if_pos c2)
      · rw [orr_f (fun q => c2 (of_decide_eq_true q).2)]; exact (if_pos c1).trans (if_neg c2)
    · rw [orr_f (fun q => c1 (of_decide_eq_true q).1)]; exact if_neg c1
theorem m_z1 (k : Int32 × MP → Option (Int32 × MP)) (mp : MP) : itn (bd_Mo_goThrough_2 k) 70 (0, mp) = k (nI 64, (zf 64 mp.1, mp.2)) := by
  have h := itn_go (F := bd_Mo_goThrough_2 k) (fun i => (nI i, (zf i mp.1, mp.2))) 64 (out := k (nI 64, (zf 64 mp.1, mp.2))) (fun rec => by
    unfold bd_Mo_goThrough_2
    simp (disch := omega) only [n_lit, n_le0, n_lt0, n_eq0, nI_clamp, nI_add, pk_mul, ob1, false_or, or_false, if_true, if_false, eq_self, nlf, nltf, nlet, nltt, neqf, not_true_eq_false, not_false_eq_true, or_self, and_self, true_and, and_true, true_or, or_true]) (fun i hi rec => by
    unfold bd_Mo_goThrough_2
    simp (disch := omega) only [n_lit, n_le0, n_lt0, n_eq0, nI_clamp, nI_add, pk_mul, ob1, false_or, or_false, if_true, if_false, eq_self, nlf, nltf, nlet, nltt, neqf, not_true_eq_false, not_false_eq_true, or_self, and_self, true_and, and_true, true_or, or_true, zf_up]) 70 0 (by omega) (by omega)
  simp only [zf_0] at h
  exact h
theorem m_z2 (k : Int32 × MP → Option (Int32 × MP)) (mp : MP) : itn (bd_Mo_goThrough_23 k) 70 (0, mp) = k (nI 8, (mp.1, zf 8 mp.2)) := by
  have h := itn_go (F := bd_Mo_goThrough_23 k) (fun i => (nI i, (mp.1, zf i mp.2))) 8 (out := k (nI 8, (mp.1, zf 8 mp.2))) (fun rec => by
    unfold bd_Mo_goThrough_23
    simp (disch := omega) only [n_lit, n_le0, n_lt0, n_eq0, nI_clamp, nI_add, pk_mul, ob1, false_or, or_false, if_true, if_false, eq_self, nlf, nltf, nlet, nltt, neqf, not_true_eq_false, not_false_eq_true, or_self, and_self, true_and, and_true, true_or, or_true]) (fun i hi rec => by
    unfold bd_Mo_goThrough_23
    simp (disch := omega) only [n_lit, n_le0, n_lt0, n_eq0, nI_clamp, nI_add, pk_mul, ob1, false_or, or_false, if_true, if_false, eq_self, nlf, nltf, nlet, nltt, neqf, not_true_eq_false, not_false_eq_true, or_self, and_self, true_and, and_true, true_or, or_true, zf_up]) 70 0 (by omega) (by omega)
  simp only [zf_0] at h
  exact h
theorem x_skip (h : CD P G K d) {i : Nat} (hi : i < P + G + K) {bc : Int32} {t : TT} (hc : f_Re_isActThatCounts d o (nI i) = some (nI 0)) (kx rec : Int32 × Int32 × TT → Option (Int32 × TT)) : bd_St_tell_8 d o kx rec (bc, nI i, t) = rec (bc, nI (i + 1), t) := by
  obtain ⟨a1, a2, a3⟩ := h.1
  unfold bd_St_tell_8 f_Dr_partCount
  dsimp only
  rw [ob1, h.2.1, if_neg (nI_ge hi (by omega)), hc, ob1, i00, show nI i + 1 = nI (i + 1) from nI_add i 1]
theorem x_pre (h : CD P G K d) {bc : Int32} {t : TT} (kx : Int32 × Int32 × TT → Option (Int32 × TT)) : ∀ r i, i + r = P + G → ∀ f, itn (bd_St_tell_8 d o kx) (f + r) (bc, nI i, t) = itn (bd_St_tell_8 d o kx) f (bc, nI (P + G), t)
  | 0, i, e, f => by rw [show i = P + G by omega]; rfl
  | r + 1, i, e, f => by
    show itn (bd_St_tell_8 d o kx) ((f + r) + 1) _ = _
    rw [itn_s, x_skip h (by omega) (x_cnt0 h (by omega))]
    exact x_pre h kx r (i + 1) (by omega) f
theorem sim (h : CD P G K d) (hm : CM P G K md) (hA : AR P G K d md) (hO : OV (P + G + K) o mo) : ∀ r a, a + r = K → ∀ fc fm, r < fc → r < fm → ∀ bc t st bm sm sn mp, SR P G a bc t st bm sm sn mp →
    ∃ bc' t' st' bm' sm' sn' mp', SR P G K bc' t' st' bm' sm' sn' mp' ∧ (∀ kx, itn (bd_St_tell_8 d o kx) fc (bc, nI (P + G + a), t) = kx (bc', nI (P + G + K), t')) ∧ ∀ kx, itn (bd_Mo_goThrough_54 mo md kx) fm (st, bm, sm, sn, nI a, mp) = kx (st', bm', sm', sn', nI K, mp') := by
  obtain ⟨q1, q2, q3⟩ := id h.1
  intro r
  induction r with
  | zero =>
    intro a e fc fm hfc hfm bc t st bm sm sn mp hS
    obtain ⟨fc, rfl⟩ : ∃ n, fc = n + 1 := ⟨fc - 1, by omega⟩
    obtain ⟨fm, rfl⟩ : ∃ n, fm = n + 1 := ⟨fm - 1, by omega⟩
    obtain rfl : a = K := by omega
    refine ⟨bc, t, st, bm, sm, sn, mp, hS, fun kx => ?_, fun kx => ?_⟩
    · rw [itn_s]
      unfold bd_St_tell_8 f_Dr_partCount
      dsimp only
      rw [ob1, h.2.1, if_pos (nI_le (Nat.le_refl _) (by omega))]
    · rw [itn_s]
      unfold bd_Mo_goThrough_54
      dsimp only
      rw [hm.2.2.2, if_pos (nI_le (Nat.le_refl _) (by omega))]
  | succ r ih =>
    intro a e fc fm hfc hfm bc t st bm sm sn mp hS
    obtain ⟨fc, rfl⟩ : ∃ n, fc = n + 1 := ⟨fc - 1, by omega⟩
    obtain ⟨fm, rfl⟩ : ∃ n, fm = n + 1 := ⟨fm - 1, by omega⟩
    have ha : a < K := by omega
    obtain ⟨⟨r1, r2, r3, r4, r5⟩, ⟨p, hp, e1⟩, ⟨g, hg, e2⟩, -, -⟩ := hA.2.2.2 a ha
    by_cases c : mo (P + G + a) = nI 0 ∧ mo p = nI 0 ∧ mo (P + g) = nI 0
    · obtain ⟨t', st', sm', sn', mp', hS', hC, hM⟩ := s_act h hm hA hO ha hp hg e1 e2 c.1 c.2.1 c.2.2 hS
      obtain ⟨bc2, t2, st2, bm2, sm2, sn2, mp2, hS2, hC2, hM2⟩ := ih (a + 1) (by omega) fc fm (by omega) (by omega) _ _ _ _ _ _ _ hS'
      refine ⟨bc2, t2, st2, bm2, sm2, sn2, mp2, hS2, fun kx => ?_, fun kx => ?_⟩
      · rw [itn_s, hC, hC2]
      · rw [itn_s, hM, hM2]
    · have hc : f_Re_isActThatCounts d o (nI (P + G + a)) = some (nI 0) := by
        rw [x_cnt h ha hp hg (r2.trans e1) (r3.trans e2), (hO (P + G + a) (by omega)).1, (hO p (by omega)).1, (hO (P + g) (by omega)).1]
        by_cases c1 : mo (P + G + a) = nI 0
        · rw [if_pos c1]
          by_cases c2 : mo p = nI 0
          · rw [if_pos c2, if_neg (fun c3 => c ⟨c1, c2, c3⟩)]
          · rw [if_neg c2]
        · rw [if_neg c1]
      have hS' : SR P G (a + 1) bc t st bm sm sn mp := by
        obtain ⟨s1, s2, s3, s4, s5⟩ := hS
        refine ⟨s1, s2, s3, s4, ?_⟩
        rcases s5 with s5 | ⟨b, hb, s5⟩
        · exact Or.inl s5
        · exact Or.inr ⟨b, by omega, s5⟩
      obtain ⟨bc2, t2, st2, bm2, sm2, sn2, mp2, hS2, hC2, hM2⟩ := ih (a + 1) (by omega) fc fm (by omega) (by omega) _ _ _ _ _ _ _ hS'
      refine ⟨bc2, t2, st2, bm2, sm2, sn2, mp2, hS2, fun kx => ?_, fun kx => ?_⟩
      · rw [itn_s, x_skip h (by omega) hc]
        exact hC2 kx
      · rw [itn_s, m_skip h.1 hm ha hp hg e1 e2 c, hM2]
/-- both tell the same -/
theorem tell_go (h : CD P G K d) (hm : CM P G K md) (hA : AR P G K d md) (hO : OV (P + G + K) o mo) (t : TT) (mp : MP) :
    ∃ f t' mp', f_St_tell d o t = some (f, t') ∧ f_Mo_goThrough mo md mp = some (f, mp') ∧ TR P G t' mp' := by
  obtain ⟨q1, q2, q3⟩ := id h.1
  have hS0 : SR P G 0 (-nI 1) (zf 36 t.1, zf 6 t.2.1, zf 6 t.2.2.1, nI 0) (nI 0) (-nI 1) (nI 0) (nI 0) (zf 64 mp.1, zf 8 mp.2) := by
    refine ⟨fun p hp => ⟨fun g hg => ?_, ?_⟩, fun p hp => ⟨Or.inl (zf_in _ (by omega)), ?_⟩, ?_, rfl, Or.inl ⟨rfl, rfl⟩⟩
    · exact (zf_in _ (by omega)).trans (zf_in _ (by omega)).symm
    · exact (zf_in _ (by omega)).trans (zf_in _ (by omega)).symm
    · rw [shr1 _ (by omega)]
      exact ⟨fun _ => b_0 p, fun _ => zf_in _ (by omega)⟩
    · unfold tot
      refine Eq.trans (sg_cg (g := fun _ => nI 0) P (fun p hp => ?_)) (sg_zero P)
      exact Eq.trans (sg_cg (g := fun _ => nI 0) G (fun g hg => zf_in _ (by omega))) (sg_zero G)
  obtain ⟨bc, t', st, bm, sm, sn, mp', ⟨s1, s2, s3, s4, s5⟩, hC, hM⟩ := sim h hm hA hO K 0 (by omega) (70 - (P + G)) 70 (by omega) (by omega) _ _ _ _ _ _ _ hS0
  have hcb : fi (fun p => decide (o p = nI 0 ∧ t'.2.2.1 p = nI 0)) t'.2.2.2 P = fi (fun p => decide (mo p = nI 0 ∧ (sn >>> (nI p &&& nI 31)) &&& nI 1 = nI 0)) st P := by
    rw [s4]
    refine fi_cg st P (fun p hp => ?_)
    rw [(hO p (by omega)).1]
    exact decide_eq_decide.mpr ⟨fun q => ⟨q.1, (s2 p hp).2.mp q.2⟩, fun q => ⟨q.1, (s2 p hp).2.mpr q.2⟩⟩
  refine ⟨orr (tot P G t' &&& nI 1 = nI 1) (nI 16) (fi (fun p => decide (o p = nI 0 ∧ t'.2.2.1 p = nI 0)) t'.2.2.2 P), (t'.1, t'.2.1, t'.2.2.1, orr (tot P G t' &&& nI 1 = nI 1) (nI 16) (fi (fun p => decide (o p = nI 0 ∧ t'.2.2.1 p = nI 0)) t'.2.2.2 P)), mp', ?_, ?_, ?_⟩
  · unfold f_St_tell
    rw [x_forget, ob1]
    have e := x_pre (o := o) (bc := -nI 1) (t := (zf 36 t.1, zf 6 t.2.1, zf 6 t.2.2.1, nI 0)) h (fun z271 => Option.bind (f_St_lookAtTheEnd d o z271.2.2) (fun q272 => some (q272.2.2.2, q272))) (P + G) 0 (by omega) (70 - (P + G))
    rw [show 70 - (P + G) + (P + G) = 70 by omega] at e
    refine Eq.trans e ?_
    rw [show nI (P + G) = nI (P + G + 0) from rfl, hC]
    dsimp only
    rw [x_end h, ob1]
  · unfold f_Mo_goThrough
    rw [m_z1]
    dsimp only
    rw [m_z2]
    dsimp only
    refine Eq.trans (hM _) ?_
    dsimp only
    rw [if_neg (by decide)]
    have od := odd_bits sm
    by_cases c : sm &&& nI 1 = nI 1
    · refine (if_neg (fun q => (Eq.mp od q) c)).trans ?_
      rw [m_end h.1 hm, hcb, s3, orr_t c, show st ||| (16 : Int32) = orr (sm &&& nI 1 = nI 1) (nI 16) st from (orr_t c _ _).symm, fi_orr, orr_t c]
    · refine (if_pos (Eq.mpr od c)).trans ?_
      rw [m_end h.1 hm, hcb, s3, orr_f c]
  · exact s1
end PA
