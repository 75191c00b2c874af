section PS
variable {P G K : Nat} {d : DD} {md : MD} {o mo : Nat → Int32}
/-- all the stock there is -/
def tot (P G : Nat) (t : TT) : Int32 := sg (fun p => sg (fun g => t.1 (p * 6 + g)) G) P
def BR (P : Nat) (t : TT) (sn : Int32) : Prop := ∀ p, p < P → (t.2.2.1 p = nI 0 ∨ t.2.2.1 p = nI 1) ∧ ((t.2.2.1 p = nI 0) ↔ ((sn >>> (nI p &&& nI 31)) &&& nI 1 = nI 0))
/-- the act before, in both -/
def BF (P G a : Nat) (bc bm : Int32) : Prop := (bc = -nI 1 ∧ bm = -nI 1) ∨ ∃ b, b < a ∧ bc = nI (P + G + b) ∧ bm = nI b
def SR (P G a : Nat) (bc : Int32) (t : TT) (st bm sm sn : Int32) (mp : MP) : Prop := TR P G t mp ∧ BR P t sn ∧ tot P G t = sm ∧ t.2.2.2 = st ∧ BF P G a bc bm
theorem un_iff (hA : AR P G K d md) {a b : Nat} (ha : a < K) (hb : b < K) : UN d (P + G + b) (P + G + a) ↔ UM md b a := by
  obtain ⟨⟨a1, a2, a3, a4, a5⟩, -, -, a6, -⟩ := hA.2.2.2 a ha
  obtain ⟨⟨b1, b2, b3, b4, b5⟩, -, -, b6, -⟩ := hA.2.2.2 b hb
  unfold UN UM
  rw [a1, a2, a3, a4, b1, b2, b3, b4]
  have k : (if md.2.2.2.2.2.2.2.2.2.1 b = nI 0 then nI 0 else nI 1) = (if md.2.2.2.2.2.2.2.2.2.1 a = nI 0 then nI 0 else nI 1) ↔ md.2.2.2.2.2.2.2.2.2.1 b = md.2.2.2.2.2.2.2.2.2.1 a := by
    rcases a6 with a6 | a6 <;> rcases b6 with b6 | b6 <;> rw [a6, b6] <;> decide
  rw [k]
theorem tot_up {t : TT} {p g : Nat} {v x y : Int32} {h2 h3 : Nat → Int32} (hp : p < P) (hg : g < G) (hG : G ≤ 6) : tot P G (upd t.1 (p * 6 + g) (t.1 (p * 6 + g) + v), h2, h3, x) = tot P G t + v := by
  unfold tot
  have _ := y
  refine sg_up (j := p) ?_ (fun i hi => ?_) P hp
  · refine sg_up (j := g) ?_ (fun i hi => ?_) G hg
    · exact pk_us
    · exact pk_un (by omega)
  · refine sg_cg G (fun k hk => ?_)
    exact pk_un (by omega)
/-- one act that counts, in both -/
theorem s_act (h : CD P G K d) (hm : CM P G K md) (hA : AR P G K d md) (hO : OV (P + G + K) o mo) {a p g : Nat} (ha : a < K) (hp : p < P) (hg : g < G) (e1 : md.2.2.2.2.2.2.1 a = nI p) (e2 : md.2.2.2.2.2.2.2.1 a = nI g) (c1 : mo (P + G + a) = nI 0) (c2 : mo p = nI 0) (c3 : mo (P + g) = nI 0)
    {bc st bm sm sn : Int32} {t : TT} {mp : MP} (hS : SR P G a bc t st bm sm sn mp) :
    ∃ t' st' sm' sn' mp', SR P G (a + 1) (nI (P + G + a)) t' st' (nI a) sm' sn' mp' ∧ (∀ kx rec, bd_St_tell_8 d o kx rec (bc, nI (P + G + a), t) = rec (nI (P + G + a), nI (P + G + (a + 1)), t')) ∧
      ∀ kx rec, bd_Mo_goThrough_54 mo md kx rec (st, bm, sm, sn, nI a, mp) = rec (st', nI a, sm', sn', nI (a + 1), mp') := by
  obtain ⟨q1, q2, q3⟩ := h.1
  obtain ⟨⟨r1, r2, r3, r4, r5⟩, -, -, r6, r7⟩ := hA.2.2.2 a ha
  obtain ⟨hT, hB, hs, hf, hb⟩ := hS
  have f1 : d.2.2.2.2.2.1 (P + G + a) = nI p := r2.trans e1
  have f2 : d.2.2.2.2.2.2.1 (P + G + a) = nI g := r3.trans e2
  have hv : vof d (P + G + a) = vom md a := by
    unfold vof vom
    rw [r4, r1]
  have hcell : t.1 (p * 6 + g) = mp.1 (8 * p + g) := (hT p hp).1 g hg
  generalize hV : vom md a = v at hv
  have hw : wsm P G d (upd t.1 (p * 6 + g) (t.1 (p * 6 + g) + v), t.2.1, upd t.2.2.1 p (nI 1), orr (¬ d.2.2.2.2.2.2.2.2 (P + G + a) = nI 0) (nI 8) (orr (¬ nI 0 ≤ t.1 (p * 6 + g) + v) (nI 2) t.2.2.2)) p = gsm G md (upd mp.1 (8 * p + g) (mp.1 (8 * p + g) + v)) p := by
    unfold wsm gsm
    refine sg_cg G (fun k hk => ?_)
    rw [w_term, hA.2.1 k hk]
    by_cases e : k = g
    · subst e
      simp only [pk_us, hcell]
    · simp only [pk_un (show p * 6 + k ≠ p * 6 + g by omega), pk_un (show 8 * p + k ≠ 8 * p + g by omega), (hT p hp).1 k hk]
  generalize hW : gsm G md (upd mp.1 (8 * p + g) (mp.1 (8 * p + g) + v)) p = w at hw
  have hmx : (if t.2.1 p < w then w else t.2.1 p) = if w ≤ mp.2 p then mp.2 p else w := by
    rw [(hT p hp).2]
    by_cases c : w ≤ mp.2 p
    · rw [if_pos c, if_neg (fun q => by rw [Int32.le_iff_toInt_le] at c; rw [Int32.lt_iff_toInt_lt] at q; omega)]
    · rw [if_neg c, if_pos (by rw [Int32.le_iff_toInt_le] at c; rw [Int32.lt_iff_toInt_lt]; omega)]
  -- the class's step, before it compares
  have hC : ∀ kx rec, bd_St_tell_8 d o kx rec (bc, nI (P + G + a), t) = Option.bind (f_St_compare d (upd t.1 (p * 6 + g) (t.1 (p * 6 + g) + v), upd t.2.1 p (if w ≤ mp.2 p then mp.2 p else w), upd t.2.2.1 p (nI 1), orr (¬ w ≤ md.2.2.2.2.1 p) (nI 1) (orr (¬ md.2.2.2.2.2.2.2.2.2.2 a = nI 0) (nI 8) (orr (¬ nI 0 ≤ t.1 (p * 6 + g) + v) (nI 2) t.2.2.2))) bc (nI (P + G + a))) (fun q => rec (nI (P + G + a), nI (P + G + (a + 1)), q)) := by
    intro kx rec
    unfold bd_St_tell_8 f_Dr_partCount
    dsimp only
    rw [ob1, h.2.1, if_neg (nI_ge (by omega) (by omega)), x_cnt h ha hp hg f1 f2, ob1, (hO (P + G + a) (by omega)).1, (hO p (by omega)).1, (hO (P + g) (by omega)).1, if_pos c1, if_pos c2, if_pos c3, i10, x_carry h ha hp hg f1 f2, ob1, x_ap h (by omega), ob1, f1, hv, x_weigh h hp, ob1, hw]
    dsimp only
    rw [hmx, hA.1 p hp, r5, show nI (P + G + a) + 1 = nI (P + G + (a + 1)) from nI_add (P + G + a) 1]
  have hM : ∀ kx rec, bd_Mo_goThrough_54 mo md kx rec (st, bm, sm, sn, nI a, mp) = jn_Mo_goThrough_250 md kx rec (orr (¬ nI 0 ≤ t.1 (p * 6 + g) + v) (nI 2) (orr (¬ w ≤ md.2.2.2.2.1 p) (nI 1) st), bm, sm + v, sn ||| (nI 1 <<< (nI p &&& nI 31)), nI a, v, nI (8 * p + g), w, (upd mp.1 (8 * p + g) (mp.1 (8 * p + g) + v), upd mp.2 p (if w ≤ mp.2 p then mp.2 p else w))) := by
    intro kx rec
    rw [m_act h.1 hm ha hp hg e1 e2 c1 c2 c3, hV, j103 h.1 hm ha hp hg e1 e2, hW, j214 (by omega) (by omega) e1, j236 (by omega)]
    simp only [pk_us, hcell]
  have hTR : ∀ x y : Int32, TR P G (upd t.1 (p * 6 + g) (t.1 (p * 6 + g) + v), upd t.2.1 p (if w ≤ mp.2 p then mp.2 p else w), upd t.2.2.1 p (nI 1), x) (upd mp.1 (8 * p + g) (mp.1 (8 * p + g) + v), upd mp.2 p (if w ≤ mp.2 p then mp.2 p else w)) := by
    intro x _ p' hp'
    refine ⟨fun g' hg' => ?_, ?_⟩
    · by_cases e : p' = p ∧ g' = g
      · obtain ⟨rfl, rfl⟩ := e
        dsimp only
        rw [pk_us, pk_us, hcell]
      · dsimp only
        rw [pk_un (by omega), pk_un (by omega), (hT p' hp').1 g' hg']
    · dsimp only
      by_cases e : p' = p
      · subst e; rw [pk_us, pk_us]
      · rw [pk_un e, pk_un e, (hT p' hp').2]
  have hBR : ∀ x : Int32, BR P (upd t.1 (p * 6 + g) (t.1 (p * 6 + g) + v), upd t.2.1 p (if w ≤ mp.2 p then mp.2 p else w), upd t.2.2.1 p (nI 1), x) (sn ||| (nI 1 <<< (nI p &&& nI 31))) := by
    intro x p' hp'
    dsimp only
    rw [seen_or sn (by omega) (by omega)]
    by_cases e : p' = p
    · subst e
      rw [pk_us]
      exact ⟨Or.inr rfl, fun q => absurd q (by decide), fun q => absurd rfl q.2⟩
    · rw [pk_un e]
      refine ⟨(hB p' hp').1, fun q => ⟨(hB p' hp').2.mp q, fun z => e z.symm⟩, fun q => (hB p' hp').2.mpr q.1⟩
  have hto : ∀ (h2 h3 : Nat → Int32) (x : Int32), tot P G (upd t.1 (p * 6 + g) (t.1 (p * 6 + g) + v), h2, h3, x) = sm + v := by
    intro h2 h3 x
    rw [tot_up (y := x) hp hg (by omega), hs]
  rcases hb with ⟨rfl, rfl⟩ | ⟨b, hb, rfl, rfl⟩
  · refine ⟨_, _, _, _, _, ⟨hTR (orr (¬ w ≤ md.2.2.2.2.1 p) (nI 1) (orr (¬ md.2.2.2.2.2.2.2.2.2.2 a = nI 0) (nI 8) (orr (¬ nI 0 ≤ t.1 (p * 6 + g) + v) (nI 2) t.2.2.2))) 0, hBR _, hto _ _ _, rfl, Or.inr ⟨a, by omega, rfl, rfl⟩⟩, fun kx rec => ?_, fun kx rec => ?_⟩
    · rw [hC, x_cmp0 h, ob1]
    · rw [hM, j250a (by omega), hf, orr_sw (¬ w ≤ md.2.2.2.2.1 p), orr_sw (¬ w ≤ md.2.2.2.2.1 p)]
  · refine ⟨_, _, _, _, _, ⟨hTR (orr (UN d (P + G + b) (P + G + a)) (nI 4) (orr (¬ w ≤ md.2.2.2.2.1 p) (nI 1) (orr (¬ md.2.2.2.2.2.2.2.2.2.2 a = nI 0) (nI 8) (orr (¬ nI 0 ≤ t.1 (p * 6 + g) + v) (nI 2) t.2.2.2)))) 0, hBR _, hto _ _ _, rfl, Or.inr ⟨a, by omega, rfl, rfl⟩⟩, fun kx rec => ?_, fun kx rec => ?_⟩
    · rw [hC, x_cmp h (by omega) (by omega), ob1]
    · rw [hM, j250b (by omega) (by omega), hf, orr_cg (un_iff hA ha (by omega)), orr_sw (¬ w ≤ md.2.2.2.2.1 p), orr_sw (¬ w ≤ md.2.2.2.2.1 p), orr_sw (UM md b a) (¬ md.2.2.2.2.2.2.2.2.2.2 a = nI 0)]
end PS
