theorem nlf {a b : Nat} (h : b < a) : (a ≤ b) = False := eq_false (by omega)
theorem nltf {a b : Nat} (h : b ≤ a) : (a < b) = False := eq_false (by omega)
theorem nlet {a b : Nat} (h : a ≤ b) : (a ≤ b) = True := eq_true h
theorem nltt {a b : Nat} (h : a < b) : (a < b) = True := eq_true h
theorem neqf {a b : Nat} (h : a < b ∨ b < a) : (a = b) = False := eq_false (by omega)
theorem gdl {a n : Nat} (h : a < n) (hn : n < 2 ^ 31) : ¬ (nI a < 0 ∨ n ≤ a) := by
  rintro (q | q)
  · exact nI_pos (by omega) q
  · omega
/-- the first e cells are 0 -/
def zf (e : Nat) (f : Nat → Int32) : Nat → Int32 := fun k => if k < e then nI 0 else f k
theorem zf_up (e : Nat) (f : Nat → Int32) : upd (zf e f) e (nI 0) = zf (e + 1) f := by
  funext k
  unfold upd zf
  by_cases h : k = e
  · rw [if_pos h, if_pos (by omega)]
  · rw [if_neg h]
    by_cases h2 : k < e
    · rw [if_pos h2, if_pos (by omega)]
    · rw [if_neg h2, if_neg (by omega)]
theorem zf_0 (f : Nat → Int32) : zf 0 f = f := funext fun k => if_neg (Nat.not_lt_zero k)
theorem zf_in {e k : Nat} (f : Nat → Int32) (h : k < e) : zf e f k = nI 0 := if_pos h
theorem x_forget (t : TT) : f_St_forget t = some (zf 36 t.1, zf 6 t.2.1, zf 6 t.2.2.1, nI 0) := by
  unfold f_St_forget
  have h1 : ∀ t' : TT, itn (bd_St_forget_28 (fun z24 => some z24.2)) 70 (0, t') = some (t'.1, zf 6 t'.2.1, zf 6 t'.2.2.1, t'.2.2.2) := by
    intro t'
    have h := itn_go (F := bd_St_forget_28 (fun z24 => some z24.2)) (fun i => (nI i, (t'.1, zf i t'.2.1, zf i t'.2.2.1, t'.2.2.2))) 6 (out := some (t'.1, zf 6 t'.2.1, zf 6 t'.2.2.1, t'.2.2.2)) (fun rec => by
      unfold bd_St_forget_28
      simp (disch := omega) only [n_lit, n_le0, n_lt0, n_eq0, nI_clamp, nI_add, pk_mul, ob1, false_or, or_false, if_true, if_false, eq_self, nlf, nltf, nlet, nltt, neqf, not_true_eq_false, not_false_eq_true, or_self, and_self, true_and, and_true, true_or, or_true]) (fun i hi rec => by
      unfold bd_St_forget_28
      simp (disch := omega) only [n_lit, n_le0, n_lt0, n_eq0, nI_clamp, nI_add, pk_mul, ob1, false_or, or_false, if_true, if_false, eq_self, nlf, nltf, nlet, nltt, neqf, not_true_eq_false, not_false_eq_true, or_self, and_self, true_and, and_true, true_or, or_true, nar0, zf_up]) 70 0 (by omega) (by omega)
    simp only [zf_0] at h
    exact h
  simp only [h1]
  have h := itn_go (F := bd_St_forget_7 (fun z17 => some (z17.2.1, zf 6 z17.2.2.1, zf 6 z17.2.2.2.1, z17.2.2.2.2))) (fun i => (nI i, (zf i t.1, t.2.1, t.2.2.1, nI 0))) 36 (out := some (zf 36 t.1, zf 6 t.2.1, zf 6 t.2.2.1, nI 0)) (fun rec => by
    unfold bd_St_forget_7
    simp (disch := omega) only [n_lit, n_le0, n_lt0, n_eq0, nI_clamp, nI_add, pk_mul, ob1, false_or, or_false, if_true, if_false, eq_self, nlf, nltf, nlet, nltt, neqf, not_true_eq_false, not_false_eq_true, or_self, and_self, true_and, and_true, true_or, or_true]) (fun i hi rec => by
    unfold bd_St_forget_7
    simp (disch := omega) only [n_lit, n_le0, n_lt0, n_eq0, nI_clamp, nI_add, pk_mul, ob1, false_or, or_false, if_true, if_false, eq_self, nlf, nltf, nlet, nltt, neqf, not_true_eq_false, not_false_eq_true, or_self, and_self, true_and, and_true, true_or, or_true, zf_up]) 70 0 (by omega) (by omega)
  simp only [zf_0] at h
  exact h
section PT
variable {P G K : Nat} {d : DD} {md : MD} {o mo : Nat → Int32} {t : TT} {mp : MP}
theorem x_stk (h : CD P G K d) {p g : Nat} (hp : p < P) (hg : g < G) : f_St_stockAt d t (nI p) (nI g) = some (t.1 (p * 6 + g)) := by
  obtain ⟨a1, a2, a3⟩ := h.1
  unfold f_St_stockAt
  simp (disch := omega) only [n_lit, n_le0, n_lt0, n_eq0, nI_clamp, nI_add, pk_mul, ob1, false_or, or_false, if_true, if_false, eq_self, nlf, nltf, nlet, nltt, neqf, not_true_eq_false, not_false_eq_true, or_self, and_self, true_and, and_true, true_or, or_true, x_hP1 h hp, x_hG1 h hg]
/-- what lies at a place weighs -/
def wsm (P G : Nat) (d : DD) (t : TT) (p : Nat) : Int32 := sg (fun k => (if nI 0 < t.1 (p * 6 + k) then t.1 (p * 6 + k) else nI 0) * d.2.2.2.2.1 (P + k)) G
theorem x_weigh (h : CD P G K d) {p : Nat} (hp : p < P) : f_St_weigh d t (nI p) = some (t.1, upd t.2.1 p (if t.2.1 p < wsm P G d t p then wsm P G d t p else t.2.1 p), t.2.2.1, orr (¬ wsm P G d t p ≤ d.2.2.2.2.1 p) (nI 1) t.2.2.2) := by
  obtain ⟨a1, a2, a3⟩ := h.1
  unfold f_St_weigh
  rw [x_hP1 h hp, ob1, i10]
  refine itn_go (fun g => (nI p, sg (fun k => (if nI 0 < t.1 (p * 6 + k) then t.1 (p * 6 + k) else nI 0) * d.2.2.2.2.1 (P + k)) g, nI g, t)) G (fun rec => ?_) (fun g hg rec => ?_) 70 0 (by omega) (by omega)
  · unfold bd_St_weigh_16 f_Dr_goodCount
    simp (disch := omega) only [n_lit, n_le0, n_lt0, n_eq0, nI_clamp, nI_add, pk_mul, ob1, false_or, or_false, if_true, if_false, eq_self, nlf, nltf, nlet, nltt, neqf, not_true_eq_false, not_false_eq_true, or_self, and_self, true_and, and_true, true_or, or_true, h.2.2.2, x_am h]
    show (if wsm P G d t p ≤ d.2.2.2.2.1 p then _ else _) = _
    by_cases c : wsm P G d t p ≤ d.2.2.2.2.1 p
    · rw [if_pos c, orr_f (fun q => q c)]; rfl
    · rw [if_neg c, orr_t c]; rfl
  · unfold bd_St_weigh_16 f_Dr_goodCount f_Dr_partOfGood
    simp (disch := omega) only [n_lit, n_le0, n_lt0, n_eq0, nI_clamp, nI_add, pk_mul, ob1, false_or, or_false, if_true, if_false, eq_self, nlf, nltf, nlet, nltt, neqf, not_true_eq_false, not_false_eq_true, or_self, and_self, true_and, and_true, true_or, or_true, h.2.2.2, h.2.2.1, x_stk h hp hg, x_am h]
    rfl
theorem m_grams (hb : P ≤ 6 ∧ G ≤ 6 ∧ K ≤ 18) (h : CM P G K md) {p : Nat} (hp : p < P) : f_Mo_gramsAt md mp (nI p) = some (sg (fun k => if mp.1 (8 * p + k) ≤ nI 0 then nI 0 else mp.1 (8 * p + k) * md.2.2.2.2.2.1 k) G) := by
  obtain ⟨a1, a2, a3⟩ := hb
  obtain ⟨b1, b2, b3, b4⟩ := h
  unfold f_Mo_gramsAt
  refine itn_go (fun g => (nI p, sg (fun k => if mp.1 (8 * p + k) ≤ nI 0 then nI 0 else mp.1 (8 * p + k) * md.2.2.2.2.2.1 k) g, nI g)) G (fun rec => ?_) (fun g hg rec => ?_) 70 0 (by omega) (by omega)
  · unfold bd_Mo_gramsAt_4
    simp (disch := omega) only [n_lit, n_le0, n_lt0, n_eq0, nI_clamp, nI_add, pk_mul, ob1, false_or, or_false, if_true, if_false, eq_self, nlf, nltf, nlet, nltt, neqf, not_true_eq_false, not_false_eq_true, or_self, and_self, true_and, and_true, true_or, or_true, b3]
  · unfold bd_Mo_gramsAt_4
    simp (disch := omega) only [n_lit, n_le0, n_lt0, n_eq0, nI_clamp, nI_add, pk_mul, ob1, false_or, or_false, if_true, if_false, eq_self, nlf, nltf, nlet, nltt, neqf, not_true_eq_false, not_false_eq_true, or_self, and_self, true_and, and_true, true_or, or_true, b3]
    by_cases c : mp.1 (8 * p + g) ≤ nI 0
    · rw [if_pos c]
      show rec (_, _ + nI 0, _) = rec (_, _ + (if mp.1 (8 * p + g) ≤ nI 0 then nI 0 else mp.1 (8 * p + g) * md.2.2.2.2.2.1 g), _)
      rw [if_pos c]
    · rw [if_neg c]
      show rec (_, _ + _, _) = rec (_, _ + (if mp.1 (8 * p + g) ≤ nI 0 then nI 0 else mp.1 (8 * p + g) * md.2.2.2.2.2.1 g), _)
      rw [if_neg c]
/-- the stocks are the same -/
def TR (P G : Nat) (t : TT) (mp : MP) : Prop := ∀ p, p < P → (∀ g, g < G → t.1 (p * 6 + g) = mp.1 (8 * p + g)) ∧ t.2.1 p = mp.2 p
theorem w_term (x w : Int32) : (if nI 0 < x then x else nI 0) * w = if x ≤ nI 0 then nI 0 else x * w := by
  by_cases c : x ≤ nI 0
  · rw [if_pos c, if_neg (fun q => by rw [Int32.le_iff_toInt_le] at c; rw [Int32.lt_iff_toInt_lt] at q; omega)]
    exact Int32.zero_mul
  · rw [if_neg c, if_pos (by rw [Int32.le_iff_toInt_le] at c; rw [Int32.lt_iff_toInt_lt]; omega)]
theorem w_same {p : Nat} (hA : AR P G K d md) (hT : ∀ g, g < G → t.1 (p * 6 + g) = mp.1 (8 * p + g)) : wsm P G d t p = sg (fun k => if mp.1 (8 * p + k) ≤ nI 0 then nI 0 else mp.1 (8 * p + k) * md.2.2.2.2.2.1 k) G := by
  unfold wsm
  refine sg_cg G (fun k hk => ?_)
  rw [w_term, hT k hk, hA.2.1 k hk]
/-- an act done -/
def vof (d : DD) (i : Nat) : Int32 := if d.2.2.2.2.2.2.2.1 i = nI 0 then d.2.2.2.2.1 i else -(d.2.2.2.2.1 i)
theorem x_carry (h : CD P G K d) {a p g : Nat} (ha : a < K) (hp : p < P) (hg : g < G) (e1 : d.2.2.2.2.2.1 (P + G + a) = nI p) (e2 : d.2.2.2.2.2.2.1 (P + G + a) = nI g) :
    f_St_carryOut d t (nI (P + G + a)) = some (upd t.1 (p * 6 + g) (t.1 (p * 6 + g) + vof d (P + G + a)), t.2.1, upd t.2.2.1 p (nI 1), orr (¬ d.2.2.2.2.2.2.2.2 (P + G + a) = nI 0) (nI 8) (orr (¬ nI 0 ≤ t.1 (p * 6 + g) + vof d (P + G + a)) (nI 2) t.2.2.2)) := by
  obtain ⟨a1, a2, a3⟩ := h.1
  have hk : p * 6 + g < 36 := by omega
  have gk : ¬ (nI (p * 6 + g) < 0 ∨ 36 ≤ p * 6 + g) := gdl hk (by omega)
  have gp : ¬ (nI p < 0 ∨ 6 ≤ p) := gdl (by omega) (by omega)
  have hix : nI p * (6 : Int32) + nI g = nI (p * 6 + g) := by rw [n_lit, pk_mul, nI_add]
  unfold f_St_carryOut
  rw [x_ap h (by omega), ob1, x_ag h (by omega), ob1, e1, e2, x_hP1 h hp, ob1, i10, x_hG1 h hg, ob1, i10, x_am h (by omega), ob1, hix, nI_clamp (show p * 6 + g < 2 ^ 31 by omega), nI_clamp (show p < 2 ^ 31 by omega), if_neg gk, x_tk h (by omega), ob1]
  by_cases c1 : d.2.2.2.2.2.2.2.1 (P + G + a) = nI 0
  · have hv : vof d (P + G + a) = d.2.2.2.2.1 (P + G + a) := if_pos c1
    rw [hv]
    rw [if_pos c1, i00, if_neg gk, if_neg gp, if_neg gk, pk_us]
    by_cases c2 : (0 : Int32) ≤ t.1 (p * 6 + g) + d.2.2.2.2.1 (P + G + a)
    · rw [if_pos c2, x_ly h (by omega), ob1]
      by_cases c3 : d.2.2.2.2.2.2.2.2 (P + G + a) = nI 0
      · rw [if_pos c3, i00, orr_f (fun q => q c3), orr_f (fun q => q c2)]; rfl
      · rw [if_neg c3, i10, orr_t c3, orr_f (fun q => q c2)]; rfl
    · rw [if_neg c2, x_ly h (by omega), ob1]
      by_cases c3 : d.2.2.2.2.2.2.2.2 (P + G + a) = nI 0
      · rw [if_pos c3, i00, orr_f (fun q => q c3), orr_t (show ¬ nI 0 ≤ _ from c2)]; rfl
      · rw [if_neg c3, i10, orr_t c3, orr_t (show ¬ nI 0 ≤ _ from c2)]; rfl
  · have hv : vof d (P + G + a) = -(d.2.2.2.2.1 (P + G + a)) := if_neg c1
    rw [hv]
    rw [if_neg c1, i10, if_neg gk, if_neg gp, if_neg gk, pk_us]
    by_cases c2 : (0 : Int32) ≤ t.1 (p * 6 + g) + -(d.2.2.2.2.1 (P + G + a))
    · rw [if_pos c2, x_ly h (by omega), ob1]
      by_cases c3 : d.2.2.2.2.2.2.2.2 (P + G + a) = nI 0
      · rw [if_pos c3, i00, orr_f (fun q => q c3), orr_f (fun q => q c2)]; rfl
      · rw [if_neg c3, i10, orr_t c3, orr_f (fun q => q c2)]; rfl
    · rw [if_neg c2, x_ly h (by omega), ob1]
      by_cases c3 : d.2.2.2.2.2.2.2.2 (P + G + a) = nI 0
      · rw [if_pos c3, i00, orr_f (fun q => q c3), orr_t (show ¬ nI 0 ≤ _ from c2)]; rfl
      · rw [if_neg c3, i10, orr_t c3, orr_t (show ¬ nI 0 ≤ _ from c2)]; rfl
/-- an act undoes the one before -/
abbrev UN (d : DD) (i j : Nat) : Prop := d.2.2.2.2.2.1 i = d.2.2.2.2.2.1 j ∧ d.2.2.2.2.2.2.1 i = d.2.2.2.2.2.2.1 j ∧ d.2.2.2.2.1 i = d.2.2.2.2.1 j ∧ ¬ (if d.2.2.2.2.2.2.2.1 i = nI 0 then nI 0 else nI 1) = (if d.2.2.2.2.2.2.2.1 j = nI 0 then nI 0 else nI 1)
theorem x_cmp0 (h : CD P G K d) (i : Int32) : f_St_compare d t (-nI 1) i = some t := by
  unfold f_St_compare
  rw [x_hasx h (Or.inl (by rw [n_m1lt]; trivial)), ob1, i00]
theorem x_cmp (h : CD P G K d) {i j : Nat} (hi : i < P + G + K) (hj : j < P + G + K) : f_St_compare d t (nI i) (nI j) = some (t.1, t.2.1, t.2.2.1, orr (UN d i j) (nI 4) t.2.2.2) := by
  unfold f_St_compare
  rw [x_has1 h hi, ob1, i10, x_ap h hi, ob1, x_ap h hj, ob1]
  by_cases c1 : d.2.2.2.2.2.1 i = d.2.2.2.2.2.1 j
  · rw [if_pos c1, x_ag h hi, ob1, x_ag h hj, ob1]
    by_cases c2 : d.2.2.2.2.2.2.1 i = d.2.2.2.2.2.2.1 j
    · rw [if_pos c2, x_am h hi, ob1, x_am h hj, ob1]
      by_cases c3 : d.2.2.2.2.1 i = d.2.2.2.2.1 j
      · rw [if_pos c3, x_tk h hi, ob1, x_tk h hj, ob1]
        by_cases c4 : (if d.2.2.2.2.2.2.2.1 i = nI 0 then nI 0 else nI 1) = (if d.2.2.2.2.2.2.2.1 j = nI 0 then nI 0 else nI 1)
        · rw [if_pos c4, orr_f (fun q => q.2.2.2 c4)]
        · rw [if_neg c4, orr_t ⟨c1, c2, c3, c4⟩]; rfl
      · rw [if_neg c3, orr_f (fun q => c3 q.2.2.1)]
    · rw [if_neg c2, orr_f (fun q => c2 q.2.1)]
  · rw [if_neg c1, orr_f (fun q => c1 q.1)]
end PT
