section PP
variable {P G K : Nat} {d : DD} {md : MD} {o mo : Nat → Int32} {x mz mw : Int32} {s mu : Int64}
theorem x_nbP (h : CD P G K d) {i : Nat} (hi : i < P) : f_Dr_numberOf d (nI i) = some (nI i) := by
  unfold f_Dr_numberOf
  rw [x_kdP h hi, ob1, i00]
theorem x_nbG (h : CD P G K d) {g : Nat} (hg : g < G) : f_Dr_numberOf d (nI (P + g)) = some (nI g) := by
  unfold f_Dr_numberOf
  rw [x_kdG h hg, ob1, i10, if_pos (show nI 1 = (1 : Int32) from rfl), h.2.2.1, pk_sub (show P ≤ P + g by omega), show P + g - P = g by omega]
theorem x_nbA (h : CD P G K d) {a : Nat} (ha : a < K) : f_Dr_numberOf d (nI (P + G + a)) = some (nI a) := by
  unfold f_Dr_numberOf
  rw [x_kdA h ha, ob1, if_neg (show ¬ nI 2 = (0 : Int32) by decide), if_neg (show ¬ nI 2 = (1 : Int32) by decide), h.2.2.1, h.2.2.2, pk_sub (show P ≤ P + G + a by omega), pk_sub (show G ≤ P + G + a - P by omega), show P + G + a - P - G = a by omega]
theorem m_kbP (hb : P ≤ 6 ∧ G ≤ 6 ∧ K ≤ 18) (h : CM P G K md) {i : Nat} (hi : i < P) : f_Mo_kindOf md (nI i) = some (nI 0) ∧ f_Mo_numberOf md (nI i) = some (nI i) := by
  unfold f_Mo_kindOf f_Mo_numberOf
  rw [h.2.1, h.2.2.1, nI_add]
  exact ⟨if_neg (nI_ge hi (by omega)), if_neg (nI_ge hi (by omega))⟩
theorem m_kbG (hb : P ≤ 6 ∧ G ≤ 6 ∧ K ≤ 18) (h : CM P G K md) {g : Nat} (hg : g < G) : f_Mo_kindOf md (nI (P + g)) = some (nI 1) ∧ f_Mo_numberOf md (nI (P + g)) = some (nI g) := by
  unfold f_Mo_kindOf f_Mo_numberOf
  rw [h.2.1, h.2.2.1, nI_add]
  have c1 : nI P ≤ nI (P + g) := nI_le (by omega) (by omega)
  have c2 : ¬ nI (P + G) ≤ nI (P + g) := nI_ge (by omega) (by omega)
  exact ⟨(if_pos c1).trans (if_neg c2), (if_pos c1).trans ((if_neg c2).trans (by rw [pk_sub (show P ≤ P + g by omega), show P + g - P = g by omega]))⟩
theorem m_kbA (hb : P ≤ 6 ∧ G ≤ 6 ∧ K ≤ 18) (h : CM P G K md) {a : Nat} (ha : a < K) : f_Mo_kindOf md (nI (P + G + a)) = some (nI 2) ∧ f_Mo_numberOf md (nI (P + G + a)) = some (nI a) := by
  unfold f_Mo_kindOf f_Mo_numberOf
  rw [h.2.1, h.2.2.1, nI_add]
  have c1 : nI P ≤ nI (P + G + a) := nI_le (by omega) (by omega)
  have c2 : nI (P + G) ≤ nI (P + G + a) := nI_le (by omega) (by omega)
  exact ⟨(if_pos c1).trans (if_pos c2), (if_pos c1).trans ((if_pos c2).trans (by rw [pk_sub (show P ≤ P + G + a by omega), pk_sub (show G ≤ P + G + a - P by omega), show P + G + a - P - G = a by omega]))⟩
theorem x_rm (h : CD P G K d) {i : Nat} (hi : i < P + G + K) : f_SD_refuseMissingPart d (nI i) = some (Sum.inr ()) := by
  unfold f_SD_refuseMissingPart
  rw [x_has1 h hi, ob1, i10]
theorem bz2 {c : Prop} [Decidable c] {α : Type} (f : Int32 → α) : (if (if c then nI 1 else nI 0) = nI 0 then f (nI 0) else f (nI 1)) = f (if c then nI 1 else nI 0) := by
  by_cases h : c
  · rw [if_pos h]; rfl
  · rw [if_neg h]; rfl
theorem bz3 {c : Prop} [Decidable c] {α : Type} (f : Int32 → α) : (if (if c then nI 0 else nI 1) = nI 0 then f (nI 0) else f (nI 1)) = f (if c then nI 0 else nI 1) := by
  by_cases h : c
  · rw [if_pos h]; rfl
  · rw [if_neg h]; rfl
theorem bz4 {c : Prop} [Decidable c] {α : Type} (f : Int32 → α) : (if c then f (nI 1) else f (nI 0)) = f (if c then nI 1 else nI 0) := by
  by_cases h : c
  · rw [if_pos h, if_pos h]
  · rw [if_neg h, if_neg h]
theorem bz5 {c : Prop} [Decidable c] {α : Type} (f : Int32 → α) : (if c then f (nI 0) else f (nI 1)) = f (if c then nI 0 else nI 1) := by
  by_cases h : c
  · rw [if_pos h, if_pos h]
  · rw [if_neg h, if_neg h]
theorem pt_P0 (h : IV P G K d md) (hO : OV (P + G + K) o mo) {i : Nat} (hi : i < P) (mk : Int32) : f_SD_part d o (nI (i)) (nI 0) = some (Sum.inr (nI 0)) ∧ jn_Mo_part_28 mo md (nI (i), nI 0, 0, mk) = some (nI 0, 0) := by
  obtain ⟨a1, a2, a3⟩ := id h.1.1
  have hi9 : i < P + G + K := by omega
  have e1 := h.2.2.1 i hi
  obtain ⟨e2, e3, e4, e5⟩ := h.2.2.2.2.1 i (by omega)
  refine ⟨?_, ?_⟩
  · unfold f_SD_part
    rw [x_rm h.1 hi9, ob1]
    dsimp only [sm]
    simp (disch := omega) only [n_lit, n_le0, n_lt0, n_eq0, nI_clamp, nI_add, pk_mul, ob1, false_or, or_false, if_true, if_false, eq_self, nlf, nltf, nlet, nltt, neqf, not_true_eq_false, not_false_eq_true, or_self, and_self, true_and, and_true, true_or, or_true]
    rw [x_kdP h.1 hi, ob1]
  · unfold jn_Mo_part_28 jn_Mo_part_87 jn_Mo_part_129 jn_Mo_part_145
    dsimp only
    rw [if_pos (by decide), (m_kbP h.1.1 h.2.1 hi).1, ob1, (m_kbP h.1.1 h.2.1 hi).2, ob1]
    simp (disch := omega) only [n_lit, n_le0, n_lt0, n_eq0, nI_clamp, nI_add, pk_mul, ob1, false_or, or_false, if_true, if_false, eq_self, nlf, nltf, nlet, nltt, neqf, not_true_eq_false, not_false_eq_true, or_self, and_self, true_and, and_true, true_or, or_true]
theorem pt_P1 (h : IV P G K d md) (hO : OV (P + G + K) o mo) {i : Nat} (hi : i < P) (mk : Int32) : f_SD_part d o (nI (i)) (nI 1) = some (Sum.inr (nI i)) ∧ jn_Mo_part_28 mo md (nI (i), nI 1, 0, mk) = some (nI i, 0) := by
  obtain ⟨a1, a2, a3⟩ := id h.1.1
  have hi9 : i < P + G + K := by omega
  have e1 := h.2.2.1 i hi
  obtain ⟨e2, e3, e4, e5⟩ := h.2.2.2.2.1 i (by omega)
  refine ⟨?_, ?_⟩
  · unfold f_SD_part
    rw [x_rm h.1 hi9, ob1]
    dsimp only [sm]
    simp (disch := omega) only [n_lit, n_le0, n_lt0, n_eq0, nI_clamp, nI_add, pk_mul, ob1, false_or, or_false, if_true, if_false, eq_self, nlf, nltf, nlet, nltt, neqf, not_true_eq_false, not_false_eq_true, or_self, and_self, true_and, and_true, true_or, or_true]
    rw [x_nbP h.1 hi, ob1]
  · unfold jn_Mo_part_28 jn_Mo_part_87 jn_Mo_part_129 jn_Mo_part_145
    dsimp only
    rw [if_pos (by decide), (m_kbP h.1.1 h.2.1 hi).1, ob1, (m_kbP h.1.1 h.2.1 hi).2, ob1]
    simp (disch := omega) only [n_lit, n_le0, n_lt0, n_eq0, nI_clamp, nI_add, pk_mul, ob1, false_or, or_false, if_true, if_false, eq_self, nlf, nltf, nlet, nltt, neqf, not_true_eq_false, not_false_eq_true, or_self, and_self, true_and, and_true, true_or, or_true]
theorem pt_P2 (h : IV P G K d md) (hO : OV (P + G + K) o mo) {i : Nat} (hi : i < P) (mk : Int32) : f_SD_part d o (nI (i)) (nI 2) = some (Sum.inr (md.2.2.2.2.1 i)) ∧ jn_Mo_part_28 mo md (nI (i), nI 2, 0, mk) = some (md.2.2.2.2.1 i, 0) := by
  obtain ⟨a1, a2, a3⟩ := id h.1.1
  have hi9 : i < P + G + K := by omega
  have e1 := h.2.2.1 i hi
  obtain ⟨e2, e3, e4, e5⟩ := h.2.2.2.2.1 i (by omega)
  refine ⟨?_, ?_⟩
  · unfold f_SD_part
    rw [x_rm h.1 hi9, ob1]
    dsimp only [sm]
    simp (disch := omega) only [n_lit, n_le0, n_lt0, n_eq0, nI_clamp, nI_add, pk_mul, ob1, false_or, or_false, if_true, if_false, eq_self, nlf, nltf, nlet, nltt, neqf, not_true_eq_false, not_false_eq_true, or_self, and_self, true_and, and_true, true_or, or_true]
    rw [x_am h.1 hi9, ob1, e1]
  · unfold jn_Mo_part_28 jn_Mo_part_87 jn_Mo_part_129 jn_Mo_part_145
    dsimp only
    rw [if_pos (by decide), (m_kbP h.1.1 h.2.1 hi).1, ob1, (m_kbP h.1.1 h.2.1 hi).2, ob1]
    simp (disch := omega) only [n_lit, n_le0, n_lt0, n_eq0, nI_clamp, nI_add, pk_mul, ob1, false_or, or_false, if_true, if_false, eq_self, nlf, nltf, nlet, nltt, neqf, not_true_eq_false, not_false_eq_true, or_self, and_self, true_and, and_true, true_or, or_true]
theorem pt_P3 (h : IV P G K d md) (hO : OV (P + G + K) o mo) {i : Nat} (hi : i < P) (mk : Int32) : f_SD_part d o (nI (i)) (nI 3) = some (Sum.inr (-nI 1)) ∧ jn_Mo_part_28 mo md (nI (i), nI 3, 0, mk) = some (-nI 1, 0) := by
  obtain ⟨a1, a2, a3⟩ := id h.1.1
  have hi9 : i < P + G + K := by omega
  have e1 := h.2.2.1 i hi
  obtain ⟨e2, e3, e4, e5⟩ := h.2.2.2.2.1 i (by omega)
  refine ⟨?_, ?_⟩
  · unfold f_SD_part
    rw [x_rm h.1 hi9, ob1]
    dsimp only [sm]
    simp (disch := omega) only [n_lit, n_le0, n_lt0, n_eq0, nI_clamp, nI_add, pk_mul, ob1, false_or, or_false, if_true, if_false, eq_self, nlf, nltf, nlet, nltt, neqf, not_true_eq_false, not_false_eq_true, or_self, and_self, true_and, and_true, true_or, or_true]
    rw [x_ap h.1 hi9, ob1, e2]
  · unfold jn_Mo_part_28 jn_Mo_part_87 jn_Mo_part_129 jn_Mo_part_145
    dsimp only
    rw [if_pos (by decide), (m_kbP h.1.1 h.2.1 hi).1, ob1, (m_kbP h.1.1 h.2.1 hi).2, ob1]
    simp (disch := omega) only [n_lit, n_le0, n_lt0, n_eq0, nI_clamp, nI_add, pk_mul, ob1, false_or, or_false, if_true, if_false, eq_self, nlf, nltf, nlet, nltt, neqf, not_true_eq_false, not_false_eq_true, or_self, and_self, true_and, and_true, true_or, or_true]
theorem pt_P4 (h : IV P G K d md) (hO : OV (P + G + K) o mo) {i : Nat} (hi : i < P) (mk : Int32) : f_SD_part d o (nI (i)) (nI 4) = some (Sum.inr (-nI 1)) ∧ jn_Mo_part_28 mo md (nI (i), nI 4, 0, mk) = some (-nI 1, 0) := by
  obtain ⟨a1, a2, a3⟩ := id h.1.1
  have hi9 : i < P + G + K := by omega
  have e1 := h.2.2.1 i hi
  obtain ⟨e2, e3, e4, e5⟩ := h.2.2.2.2.1 i (by omega)
  refine ⟨?_, ?_⟩
  · unfold f_SD_part
    rw [x_rm h.1 hi9, ob1]
    dsimp only [sm]
    simp (disch := omega) only [n_lit, n_le0, n_lt0, n_eq0, nI_clamp, nI_add, pk_mul, ob1, false_or, or_false, if_true, if_false, eq_self, nlf, nltf, nlet, nltt, neqf, not_true_eq_false, not_false_eq_true, or_self, and_self, true_and, and_true, true_or, or_true]
    rw [x_ag h.1 hi9, ob1, e3]
  · unfold jn_Mo_part_28 jn_Mo_part_87 jn_Mo_part_129 jn_Mo_part_145
    dsimp only
    rw [if_pos (by decide), (m_kbP h.1.1 h.2.1 hi).1, ob1, (m_kbP h.1.1 h.2.1 hi).2, ob1]
    simp (disch := omega) only [n_lit, n_le0, n_lt0, n_eq0, nI_clamp, nI_add, pk_mul, ob1, false_or, or_false, if_true, if_false, eq_self, nlf, nltf, nlet, nltt, neqf, not_true_eq_false, not_false_eq_true, or_self, and_self, true_and, and_true, true_or, or_true]
theorem pt_P5 (h : IV P G K d md) (hO : OV (P + G + K) o mo) {i : Nat} (hi : i < P) (mk : Int32) : f_SD_part d o (nI (i)) (nI 5) = some (Sum.inr (nI 0)) ∧ jn_Mo_part_28 mo md (nI (i), nI 5, 0, mk) = some (nI 0, 0) := by
  obtain ⟨a1, a2, a3⟩ := id h.1.1
  have hi9 : i < P + G + K := by omega
  have e1 := h.2.2.1 i hi
  obtain ⟨e2, e3, e4, e5⟩ := h.2.2.2.2.1 i (by omega)
  refine ⟨?_, ?_⟩
  · unfold f_SD_part
    rw [x_rm h.1 hi9, ob1]
    dsimp only [sm]
    simp (disch := omega) only [n_lit, n_le0, n_lt0, n_eq0, nI_clamp, nI_add, pk_mul, ob1, false_or, or_false, if_true, if_false, eq_self, nlf, nltf, nlet, nltt, neqf, not_true_eq_false, not_false_eq_true, or_self, and_self, true_and, and_true, true_or, or_true]
    rw [x_tk h.1 hi9, ob1, e4]
    rfl
  · unfold jn_Mo_part_28 jn_Mo_part_87 jn_Mo_part_129 jn_Mo_part_145
    dsimp only
    rw [if_pos (by decide), (m_kbP h.1.1 h.2.1 hi).1, ob1, (m_kbP h.1.1 h.2.1 hi).2, ob1]
    simp (disch := omega) only [n_lit, n_le0, n_lt0, n_eq0, nI_clamp, nI_add, pk_mul, ob1, false_or, or_false, if_true, if_false, eq_self, nlf, nltf, nlet, nltt, neqf, not_true_eq_false, not_false_eq_true, or_self, and_self, true_and, and_true, true_or, or_true]
theorem pt_P6 (h : IV P G K d md) (hO : OV (P + G + K) o mo) {i : Nat} (hi : i < P) (mk : Int32) : f_SD_part d o (nI (i)) (nI 6) = some (Sum.inr (nI 0)) ∧ jn_Mo_part_28 mo md (nI (i), nI 6, 0, mk) = some (nI 0, 0) := by
  obtain ⟨a1, a2, a3⟩ := id h.1.1
  have hi9 : i < P + G + K := by omega
  have e1 := h.2.2.1 i hi
  obtain ⟨e2, e3, e4, e5⟩ := h.2.2.2.2.1 i (by omega)
  refine ⟨?_, ?_⟩
  · unfold f_SD_part
    rw [x_rm h.1 hi9, ob1]
    dsimp only [sm]
    simp (disch := omega) only [n_lit, n_le0, n_lt0, n_eq0, nI_clamp, nI_add, pk_mul, ob1, false_or, or_false, if_true, if_false, eq_self, nlf, nltf, nlet, nltt, neqf, not_true_eq_false, not_false_eq_true, or_self, and_self, true_and, and_true, true_or, or_true]
    rw [x_ly h.1 hi9, ob1, e5]
    rfl
  · unfold jn_Mo_part_28 jn_Mo_part_87 jn_Mo_part_129 jn_Mo_part_145
    dsimp only
    rw [if_pos (by decide), (m_kbP h.1.1 h.2.1 hi).1, ob1, (m_kbP h.1.1 h.2.1 hi).2, ob1]
    simp (disch := omega) only [n_lit, n_le0, n_lt0, n_eq0, nI_clamp, nI_add, pk_mul, ob1, false_or, or_false, if_true, if_false, eq_self, nlf, nltf, nlet, nltt, neqf, not_true_eq_false, not_false_eq_true, or_self, and_self, true_and, and_true, true_or, or_true]
theorem pt_P7 (h : IV P G K d md) (hO : OV (P + G + K) o mo) {i : Nat} (hi : i < P) (mk : Int32) : f_SD_part d o (nI (i)) (nI 7) = some (Sum.inr ((if mo (i) = nI 0 then nI 1 else nI 0))) ∧ jn_Mo_part_28 mo md (nI (i), nI 7, 0, mk) = some ((if mo (i) = nI 0 then nI 1 else nI 0), 0) := by
  obtain ⟨a1, a2, a3⟩ := id h.1.1
  have hi9 : i < P + G + K := by omega
  have e1 := h.2.2.1 i hi
  obtain ⟨e2, e3, e4, e5⟩ := h.2.2.2.2.1 i (by omega)
  refine ⟨?_, ?_⟩
  · unfold f_SD_part
    rw [x_rm h.1 hi9, ob1]
    dsimp only [sm]
    simp (disch := omega) only [n_lit, n_le0, n_lt0, n_eq0, nI_clamp, nI_add, pk_mul, ob1, false_or, or_false, if_true, if_false, eq_self, nlf, nltf, nlet, nltt, neqf, not_true_eq_false, not_false_eq_true, or_self, and_self, true_and, and_true, true_or, or_true]
    rw [x_left h.1 hi9, ob1, (hO _ hi9).1]
    exact bz2 (fun q => some (Sum.inr q))
  · unfold jn_Mo_part_28 jn_Mo_part_87 jn_Mo_part_129 jn_Mo_part_145
    dsimp only
    rw [if_pos (by decide), (m_kbP h.1.1 h.2.1 hi).1, ob1, (m_kbP h.1.1 h.2.1 hi).2, ob1]
    simp (disch := omega) only [n_lit, n_le0, n_lt0, n_eq0, nI_clamp, nI_add, pk_mul, ob1, false_or, or_false, if_true, if_false, eq_self, nlf, nltf, nlet, nltt, neqf, not_true_eq_false, not_false_eq_true, or_self, and_self, true_and, and_true, true_or, or_true]
    exact bz4 (fun q => some (q, nI 0))
theorem pt_G0 (h : IV P G K d md) (hO : OV (P + G + K) o mo) {g : Nat} (hg : g < G) (mk : Int32) : f_SD_part d o (nI (P + g)) (nI 0) = some (Sum.inr (nI 1)) ∧ jn_Mo_part_28 mo md (nI (P + g), nI 0, 0, mk) = some (nI 1, 0) := by
  obtain ⟨a1, a2, a3⟩ := id h.1.1
  have hi9 : P + g < P + G + K := by omega
  have e1 := h.2.2.2.1 g hg
  obtain ⟨e2, e3, e4, e5⟩ := h.2.2.2.2.1 (P + g) (by omega)
  refine ⟨?_, ?_⟩
  · unfold f_SD_part
    rw [x_rm h.1 hi9, ob1]
    dsimp only [sm]
    simp (disch := omega) only [n_lit, n_le0, n_lt0, n_eq0, nI_clamp, nI_add, pk_mul, ob1, false_or, or_false, if_true, if_false, eq_self, nlf, nltf, nlet, nltt, neqf, not_true_eq_false, not_false_eq_true, or_self, and_self, true_and, and_true, true_or, or_true]
    rw [x_kdG h.1 hg, ob1]
  · unfold jn_Mo_part_28 jn_Mo_part_87 jn_Mo_part_129 jn_Mo_part_145
    dsimp only
    rw [if_pos (by decide), (m_kbG h.1.1 h.2.1 hg).1, ob1, (m_kbG h.1.1 h.2.1 hg).2, ob1]
    simp (disch := omega) only [n_lit, n_le0, n_lt0, n_eq0, nI_clamp, nI_add, pk_mul, ob1, false_or, or_false, if_true, if_false, eq_self, nlf, nltf, nlet, nltt, neqf, not_true_eq_false, not_false_eq_true, or_self, and_self, true_and, and_true, true_or, or_true]
theorem pt_G1 (h : IV P G K d md) (hO : OV (P + G + K) o mo) {g : Nat} (hg : g < G) (mk : Int32) : f_SD_part d o (nI (P + g)) (nI 1) = some (Sum.inr (nI g)) ∧ jn_Mo_part_28 mo md (nI (P + g), nI 1, 0, mk) = some (nI g, 0) := by
  obtain ⟨a1, a2, a3⟩ := id h.1.1
  have hi9 : P + g < P + G + K := by omega
  have e1 := h.2.2.2.1 g hg
  obtain ⟨e2, e3, e4, e5⟩ := h.2.2.2.2.1 (P + g) (by omega)
  refine ⟨?_, ?_⟩
  · unfold f_SD_part
    rw [x_rm h.1 hi9, ob1]
    dsimp only [sm]
    simp (disch := omega) only [n_lit, n_le0, n_lt0, n_eq0, nI_clamp, nI_add, pk_mul, ob1, false_or, or_false, if_true, if_false, eq_self, nlf, nltf, nlet, nltt, neqf, not_true_eq_false, not_false_eq_true, or_self, and_self, true_and, and_true, true_or, or_true]
    rw [x_nbG h.1 hg, ob1]
  · unfold jn_Mo_part_28 jn_Mo_part_87 jn_Mo_part_129 jn_Mo_part_145
    dsimp only
    rw [if_pos (by decide), (m_kbG h.1.1 h.2.1 hg).1, ob1, (m_kbG h.1.1 h.2.1 hg).2, ob1]
    simp (disch := omega) only [n_lit, n_le0, n_lt0, n_eq0, nI_clamp, nI_add, pk_mul, ob1, false_or, or_false, if_true, if_false, eq_self, nlf, nltf, nlet, nltt, neqf, not_true_eq_false, not_false_eq_true, or_self, and_self, true_and, and_true, true_or, or_true]
theorem pt_G2 (h : IV P G K d md) (hO : OV (P + G + K) o mo) {g : Nat} (hg : g < G) (mk : Int32) : f_SD_part d o (nI (P + g)) (nI 2) = some (Sum.inr (md.2.2.2.2.2.1 g)) ∧ jn_Mo_part_28 mo md (nI (P + g), nI 2, 0, mk) = some (md.2.2.2.2.2.1 g, 0) := by
  obtain ⟨a1, a2, a3⟩ := id h.1.1
  have hi9 : P + g < P + G + K := by omega
  have e1 := h.2.2.2.1 g hg
  obtain ⟨e2, e3, e4, e5⟩ := h.2.2.2.2.1 (P + g) (by omega)
  refine ⟨?_, ?_⟩
  · unfold f_SD_part
    rw [x_rm h.1 hi9, ob1]
    dsimp only [sm]
    simp (disch := omega) only [n_lit, n_le0, n_lt0, n_eq0, nI_clamp, nI_add, pk_mul, ob1, false_or, or_false, if_true, if_false, eq_self, nlf, nltf, nlet, nltt, neqf, not_true_eq_false, not_false_eq_true, or_self, and_self, true_and, and_true, true_or, or_true]
    rw [x_am h.1 hi9, ob1, e1]
  · unfold jn_Mo_part_28 jn_Mo_part_87 jn_Mo_part_129 jn_Mo_part_145
    dsimp only
    rw [if_pos (by decide), (m_kbG h.1.1 h.2.1 hg).1, ob1, (m_kbG h.1.1 h.2.1 hg).2, ob1]
    simp (disch := omega) only [n_lit, n_le0, n_lt0, n_eq0, nI_clamp, nI_add, pk_mul, ob1, false_or, or_false, if_true, if_false, eq_self, nlf, nltf, nlet, nltt, neqf, not_true_eq_false, not_false_eq_true, or_self, and_self, true_and, and_true, true_or, or_true]
theorem pt_G3 (h : IV P G K d md) (hO : OV (P + G + K) o mo) {g : Nat} (hg : g < G) (mk : Int32) : f_SD_part d o (nI (P + g)) (nI 3) = some (Sum.inr (-nI 1)) ∧ jn_Mo_part_28 mo md (nI (P + g), nI 3, 0, mk) = some (-nI 1, 0) := by
  obtain ⟨a1, a2, a3⟩ := id h.1.1
  have hi9 : P + g < P + G + K := by omega
  have e1 := h.2.2.2.1 g hg
  obtain ⟨e2, e3, e4, e5⟩ := h.2.2.2.2.1 (P + g) (by omega)
  refine ⟨?_, ?_⟩
  · unfold f_SD_part
    rw [x_rm h.1 hi9, ob1]
    dsimp only [sm]
    simp (disch := omega) only [n_lit, n_le0, n_lt0, n_eq0, nI_clamp, nI_add, pk_mul, ob1, false_or, or_false, if_true, if_false, eq_self, nlf, nltf, nlet, nltt, neqf, not_true_eq_false, not_false_eq_true, or_self, and_self, true_and, and_true, true_or, or_true]
    rw [x_ap h.1 hi9, ob1, e2]
  · unfold jn_Mo_part_28 jn_Mo_part_87 jn_Mo_part_129 jn_Mo_part_145
    dsimp only
    rw [if_pos (by decide), (m_kbG h.1.1 h.2.1 hg).1, ob1, (m_kbG h.1.1 h.2.1 hg).2, ob1]
    simp (disch := omega) only [n_lit, n_le0, n_lt0, n_eq0, nI_clamp, nI_add, pk_mul, ob1, false_or, or_false, if_true, if_false, eq_self, nlf, nltf, nlet, nltt, neqf, not_true_eq_false, not_false_eq_true, or_self, and_self, true_and, and_true, true_or, or_true]
theorem pt_G4 (h : IV P G K d md) (hO : OV (P + G + K) o mo) {g : Nat} (hg : g < G) (mk : Int32) : f_SD_part d o (nI (P + g)) (nI 4) = some (Sum.inr (-nI 1)) ∧ jn_Mo_part_28 mo md (nI (P + g), nI 4, 0, mk) = some (-nI 1, 0) := by
  obtain ⟨a1, a2, a3⟩ := id h.1.1
  have hi9 : P + g < P + G + K := by omega
  have e1 := h.2.2.2.1 g hg
  obtain ⟨e2, e3, e4, e5⟩ := h.2.2.2.2.1 (P + g) (by omega)
  refine ⟨?_, ?_⟩
  · unfold f_SD_part
    rw [x_rm h.1 hi9, ob1]
    dsimp only [sm]
    simp (disch := omega) only [n_lit, n_le0, n_lt0, n_eq0, nI_clamp, nI_add, pk_mul, ob1, false_or, or_false, if_true, if_false, eq_self, nlf, nltf, nlet, nltt, neqf, not_true_eq_false, not_false_eq_true, or_self, and_self, true_and, and_true, true_or, or_true]
    rw [x_ag h.1 hi9, ob1, e3]
  · unfold jn_Mo_part_28 jn_Mo_part_87 jn_Mo_part_129 jn_Mo_part_145
    dsimp only
    rw [if_pos (by decide), (m_kbG h.1.1 h.2.1 hg).1, ob1, (m_kbG h.1.1 h.2.1 hg).2, ob1]
    simp (disch := omega) only [n_lit, n_le0, n_lt0, n_eq0, nI_clamp, nI_add, pk_mul, ob1, false_or, or_false, if_true, if_false, eq_self, nlf, nltf, nlet, nltt, neqf, not_true_eq_false, not_false_eq_true, or_self, and_self, true_and, and_true, true_or, or_true]
theorem pt_G5 (h : IV P G K d md) (hO : OV (P + G + K) o mo) {g : Nat} (hg : g < G) (mk : Int32) : f_SD_part d o (nI (P + g)) (nI 5) = some (Sum.inr (nI 0)) ∧ jn_Mo_part_28 mo md (nI (P + g), nI 5, 0, mk) = some (nI 0, 0) := by
  obtain ⟨a1, a2, a3⟩ := id h.1.1
  have hi9 : P + g < P + G + K := by omega
  have e1 := h.2.2.2.1 g hg
  obtain ⟨e2, e3, e4, e5⟩ := h.2.2.2.2.1 (P + g) (by omega)
  refine ⟨?_, ?_⟩
  · unfold f_SD_part
    rw [x_rm h.1 hi9, ob1]
    dsimp only [sm]
    simp (disch := omega) only [n_lit, n_le0, n_lt0, n_eq0, nI_clamp, nI_add, pk_mul, ob1, false_or, or_false, if_true, if_false, eq_self, nlf, nltf, nlet, nltt, neqf, not_true_eq_false, not_false_eq_true, or_self, and_self, true_and, and_true, true_or, or_true]
    rw [x_tk h.1 hi9, ob1, e4]
    rfl
  · unfold jn_Mo_part_28 jn_Mo_part_87 jn_Mo_part_129 jn_Mo_part_145
    dsimp only
    rw [if_pos (by decide), (m_kbG h.1.1 h.2.1 hg).1, ob1, (m_kbG h.1.1 h.2.1 hg).2, ob1]
    simp (disch := omega) only [n_lit, n_le0, n_lt0, n_eq0, nI_clamp, nI_add, pk_mul, ob1, false_or, or_false, if_true, if_false, eq_self, nlf, nltf, nlet, nltt, neqf, not_true_eq_false, not_false_eq_true, or_self, and_self, true_and, and_true, true_or, or_true]
theorem pt_G6 (h : IV P G K d md) (hO : OV (P + G + K) o mo) {g : Nat} (hg : g < G) (mk : Int32) : f_SD_part d o (nI (P + g)) (nI 6) = some (Sum.inr (nI 0)) ∧ jn_Mo_part_28 mo md (nI (P + g), nI 6, 0, mk) = some (nI 0, 0) := by
  obtain ⟨a1, a2, a3⟩ := id h.1.1
  have hi9 : P + g < P + G + K := by omega
  have e1 := h.2.2.2.1 g hg
  obtain ⟨e2, e3, e4, e5⟩ := h.2.2.2.2.1 (P + g) (by omega)
  refine ⟨?_, ?_⟩
  · unfold f_SD_part
    rw [x_rm h.1 hi9, ob1]
    dsimp only [sm]
    simp (disch := omega) only [n_lit, n_le0, n_lt0, n_eq0, nI_clamp, nI_add, pk_mul, ob1, false_or, or_false, if_true, if_false, eq_self, nlf, nltf, nlet, nltt, neqf, not_true_eq_false, not_false_eq_true, or_self, and_self, true_and, and_true, true_or, or_true]
    rw [x_ly h.1 hi9, ob1, e5]
    rfl
  · unfold jn_Mo_part_28 jn_Mo_part_87 jn_Mo_part_129 jn_Mo_part_145
    dsimp only
    rw [if_pos (by decide), (m_kbG h.1.1 h.2.1 hg).1, ob1, (m_kbG h.1.1 h.2.1 hg).2, ob1]
    simp (disch := omega) only [n_lit, n_le0, n_lt0, n_eq0, nI_clamp, nI_add, pk_mul, ob1, false_or, or_false, if_true, if_false, eq_self, nlf, nltf, nlet, nltt, neqf, not_true_eq_false, not_false_eq_true, or_self, and_self, true_and, and_true, true_or, or_true]
theorem pt_G7 (h : IV P G K d md) (hO : OV (P + G + K) o mo) {g : Nat} (hg : g < G) (mk : Int32) : f_SD_part d o (nI (P + g)) (nI 7) = some (Sum.inr ((if mo (P + g) = nI 0 then nI 1 else nI 0))) ∧ jn_Mo_part_28 mo md (nI (P + g), nI 7, 0, mk) = some ((if mo (P + g) = nI 0 then nI 1 else nI 0), 0) := by
  obtain ⟨a1, a2, a3⟩ := id h.1.1
  have hi9 : P + g < P + G + K := by omega
  have e1 := h.2.2.2.1 g hg
  obtain ⟨e2, e3, e4, e5⟩ := h.2.2.2.2.1 (P + g) (by omega)
  refine ⟨?_, ?_⟩
  · unfold f_SD_part
    rw [x_rm h.1 hi9, ob1]
    dsimp only [sm]
    simp (disch := omega) only [n_lit, n_le0, n_lt0, n_eq0, nI_clamp, nI_add, pk_mul, ob1, false_or, or_false, if_true, if_false, eq_self, nlf, nltf, nlet, nltt, neqf, not_true_eq_false, not_false_eq_true, or_self, and_self, true_and, and_true, true_or, or_true]
    rw [x_left h.1 hi9, ob1, (hO _ hi9).1]
    exact bz2 (fun q => some (Sum.inr q))
  · unfold jn_Mo_part_28 jn_Mo_part_87 jn_Mo_part_129 jn_Mo_part_145
    dsimp only
    rw [if_pos (by decide), (m_kbG h.1.1 h.2.1 hg).1, ob1, (m_kbG h.1.1 h.2.1 hg).2, ob1]
    simp (disch := omega) only [n_lit, n_le0, n_lt0, n_eq0, nI_clamp, nI_add, pk_mul, ob1, false_or, or_false, if_true, if_false, eq_self, nlf, nltf, nlet, nltt, neqf, not_true_eq_false, not_false_eq_true, or_self, and_self, true_and, and_true, true_or, or_true]
    exact bz4 (fun q => some (q, nI 0))
theorem pt_A0 (h : IV P G K d md) (hO : OV (P + G + K) o mo) {a : Nat} (ha : a < K) (mk : Int32) : f_SD_part d o (nI (P + G + a)) (nI 0) = some (Sum.inr (nI 2)) ∧ jn_Mo_part_28 mo md (nI (P + G + a), nI 0, 0, mk) = some (nI 2, 0) := by
  obtain ⟨a1, a2, a3⟩ := id h.1.1
  have hi9 : P + G + a < P + G + K := by omega
  obtain ⟨e1, e2, e3, e4, e5⟩ := (h.2.2.2.2.2 a ha).1
  refine ⟨?_, ?_⟩
  · unfold f_SD_part
    rw [x_rm h.1 hi9, ob1]
    dsimp only [sm]
    simp (disch := omega) only [n_lit, n_le0, n_lt0, n_eq0, nI_clamp, nI_add, pk_mul, ob1, false_or, or_false, if_true, if_false, eq_self, nlf, nltf, nlet, nltt, neqf, not_true_eq_false, not_false_eq_true, or_self, and_self, true_and, and_true, true_or, or_true]
    rw [x_kdA h.1 ha, ob1]
  · unfold jn_Mo_part_28 jn_Mo_part_87 jn_Mo_part_129 jn_Mo_part_145
    dsimp only
    rw [if_pos (by decide), (m_kbA h.1.1 h.2.1 ha).1, ob1, (m_kbA h.1.1 h.2.1 ha).2, ob1]
    simp (disch := omega) only [n_lit, n_le0, n_lt0, n_eq0, nI_clamp, nI_add, pk_mul, ob1, false_or, or_false, if_true, if_false, eq_self, nlf, nltf, nlet, nltt, neqf, not_true_eq_false, not_false_eq_true, or_self, and_self, true_and, and_true, true_or, or_true]
theorem pt_A1 (h : IV P G K d md) (hO : OV (P + G + K) o mo) {a : Nat} (ha : a < K) (mk : Int32) : f_SD_part d o (nI (P + G + a)) (nI 1) = some (Sum.inr (nI a)) ∧ jn_Mo_part_28 mo md (nI (P + G + a), nI 1, 0, mk) = some (nI a, 0) := by
  obtain ⟨a1, a2, a3⟩ := id h.1.1
  have hi9 : P + G + a < P + G + K := by omega
  obtain ⟨e1, e2, e3, e4, e5⟩ := (h.2.2.2.2.2 a ha).1
  refine ⟨?_, ?_⟩
  · unfold f_SD_part
    rw [x_rm h.1 hi9, ob1]
    dsimp only [sm]
    simp (disch := omega) only [n_lit, n_le0, n_lt0, n_eq0, nI_clamp, nI_add, pk_mul, ob1, false_or, or_false, if_true, if_false, eq_self, nlf, nltf, nlet, nltt, neqf, not_true_eq_false, not_false_eq_true, or_self, and_self, true_and, and_true, true_or, or_true]
    rw [x_nbA h.1 ha, ob1]
  · unfold jn_Mo_part_28 jn_Mo_part_87 jn_Mo_part_129 jn_Mo_part_145
    dsimp only
    rw [if_pos (by decide), (m_kbA h.1.1 h.2.1 ha).1, ob1, (m_kbA h.1.1 h.2.1 ha).2, ob1]
    simp (disch := omega) only [n_lit, n_le0, n_lt0, n_eq0, nI_clamp, nI_add, pk_mul, ob1, false_or, or_false, if_true, if_false, eq_self, nlf, nltf, nlet, nltt, neqf, not_true_eq_false, not_false_eq_true, or_self, and_self, true_and, and_true, true_or, or_true]
theorem pt_A2 (h : IV P G K d md) (hO : OV (P + G + K) o mo) {a : Nat} (ha : a < K) (mk : Int32) : f_SD_part d o (nI (P + G + a)) (nI 2) = some (Sum.inr (md.2.2.2.2.2.2.2.2.1 a)) ∧ jn_Mo_part_28 mo md (nI (P + G + a), nI 2, 0, mk) = some (md.2.2.2.2.2.2.2.2.1 a, 0) := by
  obtain ⟨a1, a2, a3⟩ := id h.1.1
  have hi9 : P + G + a < P + G + K := by omega
  obtain ⟨e1, e2, e3, e4, e5⟩ := (h.2.2.2.2.2 a ha).1
  refine ⟨?_, ?_⟩
  · unfold f_SD_part
    rw [x_rm h.1 hi9, ob1]
    dsimp only [sm]
    simp (disch := omega) only [n_lit, n_le0, n_lt0, n_eq0, nI_clamp, nI_add, pk_mul, ob1, false_or, or_false, if_true, if_false, eq_self, nlf, nltf, nlet, nltt, neqf, not_true_eq_false, not_false_eq_true, or_self, and_self, true_and, and_true, true_or, or_true]
    rw [x_am h.1 hi9, ob1, e1]
  · unfold jn_Mo_part_28 jn_Mo_part_87 jn_Mo_part_129 jn_Mo_part_145
    dsimp only
    rw [if_pos (by decide), (m_kbA h.1.1 h.2.1 ha).1, ob1, (m_kbA h.1.1 h.2.1 ha).2, ob1]
    simp (disch := omega) only [n_lit, n_le0, n_lt0, n_eq0, nI_clamp, nI_add, pk_mul, ob1, false_or, or_false, if_true, if_false, eq_self, nlf, nltf, nlet, nltt, neqf, not_true_eq_false, not_false_eq_true, or_self, and_self, true_and, and_true, true_or, or_true]
theorem pt_A3 (h : IV P G K d md) (hO : OV (P + G + K) o mo) {a : Nat} (ha : a < K) (mk : Int32) : f_SD_part d o (nI (P + G + a)) (nI 3) = some (Sum.inr (md.2.2.2.2.2.2.1 a)) ∧ jn_Mo_part_28 mo md (nI (P + G + a), nI 3, 0, mk) = some (md.2.2.2.2.2.2.1 a, 0) := by
  obtain ⟨a1, a2, a3⟩ := id h.1.1
  have hi9 : P + G + a < P + G + K := by omega
  obtain ⟨e1, e2, e3, e4, e5⟩ := (h.2.2.2.2.2 a ha).1
  refine ⟨?_, ?_⟩
  · unfold f_SD_part
    rw [x_rm h.1 hi9, ob1]
    dsimp only [sm]
    simp (disch := omega) only [n_lit, n_le0, n_lt0, n_eq0, nI_clamp, nI_add, pk_mul, ob1, false_or, or_false, if_true, if_false, eq_self, nlf, nltf, nlet, nltt, neqf, not_true_eq_false, not_false_eq_true, or_self, and_self, true_and, and_true, true_or, or_true]
    rw [x_ap h.1 hi9, ob1, e2]
  · unfold jn_Mo_part_28 jn_Mo_part_87 jn_Mo_part_129 jn_Mo_part_145
    dsimp only
    rw [if_pos (by decide), (m_kbA h.1.1 h.2.1 ha).1, ob1, (m_kbA h.1.1 h.2.1 ha).2, ob1]
    simp (disch := omega) only [n_lit, n_le0, n_lt0, n_eq0, nI_clamp, nI_add, pk_mul, ob1, false_or, or_false, if_true, if_false, eq_self, nlf, nltf, nlet, nltt, neqf, not_true_eq_false, not_false_eq_true, or_self, and_self, true_and, and_true, true_or, or_true]
theorem pt_A4 (h : IV P G K d md) (hO : OV (P + G + K) o mo) {a : Nat} (ha : a < K) (mk : Int32) : f_SD_part d o (nI (P + G + a)) (nI 4) = some (Sum.inr (md.2.2.2.2.2.2.2.1 a)) ∧ jn_Mo_part_28 mo md (nI (P + G + a), nI 4, 0, mk) = some (md.2.2.2.2.2.2.2.1 a, 0) := by
  obtain ⟨a1, a2, a3⟩ := id h.1.1
  have hi9 : P + G + a < P + G + K := by omega
  obtain ⟨e1, e2, e3, e4, e5⟩ := (h.2.2.2.2.2 a ha).1
  refine ⟨?_, ?_⟩
  · unfold f_SD_part
    rw [x_rm h.1 hi9, ob1]
    dsimp only [sm]
    simp (disch := omega) only [n_lit, n_le0, n_lt0, n_eq0, nI_clamp, nI_add, pk_mul, ob1, false_or, or_false, if_true, if_false, eq_self, nlf, nltf, nlet, nltt, neqf, not_true_eq_false, not_false_eq_true, or_self, and_self, true_and, and_true, true_or, or_true]
    rw [x_ag h.1 hi9, ob1, e3]
  · unfold jn_Mo_part_28 jn_Mo_part_87 jn_Mo_part_129 jn_Mo_part_145
    dsimp only
    rw [if_pos (by decide), (m_kbA h.1.1 h.2.1 ha).1, ob1, (m_kbA h.1.1 h.2.1 ha).2, ob1]
    simp (disch := omega) only [n_lit, n_le0, n_lt0, n_eq0, nI_clamp, nI_add, pk_mul, ob1, false_or, or_false, if_true, if_false, eq_self, nlf, nltf, nlet, nltt, neqf, not_true_eq_false, not_false_eq_true, or_self, and_self, true_and, and_true, true_or, or_true]
theorem pt_A5 (h : IV P G K d md) (hO : OV (P + G + K) o mo) {a : Nat} (ha : a < K) (mk : Int32) : f_SD_part d o (nI (P + G + a)) (nI 5) = some (Sum.inr ((if md.2.2.2.2.2.2.2.2.2.1 a = nI 0 then nI 0 else nI 1))) ∧ jn_Mo_part_28 mo md (nI (P + G + a), nI 5, 0, mk) = some ((if md.2.2.2.2.2.2.2.2.2.1 a = nI 0 then nI 0 else nI 1), 0) := by
  obtain ⟨a1, a2, a3⟩ := id h.1.1
  have hi9 : P + G + a < P + G + K := by omega
  obtain ⟨e1, e2, e3, e4, e5⟩ := (h.2.2.2.2.2 a ha).1
  refine ⟨?_, ?_⟩
  · unfold f_SD_part
    rw [x_rm h.1 hi9, ob1]
    dsimp only [sm]
    simp (disch := omega) only [n_lit, n_le0, n_lt0, n_eq0, nI_clamp, nI_add, pk_mul, ob1, false_or, or_false, if_true, if_false, eq_self, nlf, nltf, nlet, nltt, neqf, not_true_eq_false, not_false_eq_true, or_self, and_self, true_and, and_true, true_or, or_true]
    rw [x_tk h.1 hi9, ob1, e4]
    exact bz3 (fun q => some (Sum.inr q))
  · unfold jn_Mo_part_28 jn_Mo_part_87 jn_Mo_part_129 jn_Mo_part_145
    dsimp only
    rw [if_pos (by decide), (m_kbA h.1.1 h.2.1 ha).1, ob1, (m_kbA h.1.1 h.2.1 ha).2, ob1]
    simp (disch := omega) only [n_lit, n_le0, n_lt0, n_eq0, nI_clamp, nI_add, pk_mul, ob1, false_or, or_false, if_true, if_false, eq_self, nlf, nltf, nlet, nltt, neqf, not_true_eq_false, not_false_eq_true, or_self, and_self, true_and, and_true, true_or, or_true]
    exact bz5 (fun q => some (q, nI 0))
theorem pt_A6 (h : IV P G K d md) (hO : OV (P + G + K) o mo) {a : Nat} (ha : a < K) (mk : Int32) : f_SD_part d o (nI (P + G + a)) (nI 6) = some (Sum.inr ((if md.2.2.2.2.2.2.2.2.2.2 a = nI 0 then nI 0 else nI 1))) ∧ jn_Mo_part_28 mo md (nI (P + G + a), nI 6, 0, mk) = some ((if md.2.2.2.2.2.2.2.2.2.2 a = nI 0 then nI 0 else nI 1), 0) := by
  obtain ⟨a1, a2, a3⟩ := id h.1.1
  have hi9 : P + G + a < P + G + K := by omega
  obtain ⟨e1, e2, e3, e4, e5⟩ := (h.2.2.2.2.2 a ha).1
  refine ⟨?_, ?_⟩
  · unfold f_SD_part
    rw [x_rm h.1 hi9, ob1]
    dsimp only [sm]
    simp (disch := omega) only [n_lit, n_le0, n_lt0, n_eq0, nI_clamp, nI_add, pk_mul, ob1, false_or, or_false, if_true, if_false, eq_self, nlf, nltf, nlet, nltt, neqf, not_true_eq_false, not_false_eq_true, or_self, and_self, true_and, and_true, true_or, or_true]
    rw [x_ly h.1 hi9, ob1, e5]
    exact bz3 (fun q => some (Sum.inr q))
  · unfold jn_Mo_part_28 jn_Mo_part_87 jn_Mo_part_129 jn_Mo_part_145
    dsimp only
    rw [if_pos (by decide), (m_kbA h.1.1 h.2.1 ha).1, ob1, (m_kbA h.1.1 h.2.1 ha).2, ob1]
    simp (disch := omega) only [n_lit, n_le0, n_lt0, n_eq0, nI_clamp, nI_add, pk_mul, ob1, false_or, or_false, if_true, if_false, eq_self, nlf, nltf, nlet, nltt, neqf, not_true_eq_false, not_false_eq_true, or_self, and_self, true_and, and_true, true_or, or_true]
    exact bz5 (fun q => some (q, nI 0))
theorem pt_A7 (h : IV P G K d md) (hO : OV (P + G + K) o mo) {a : Nat} (ha : a < K) (mk : Int32) : f_SD_part d o (nI (P + G + a)) (nI 7) = some (Sum.inr ((if mo (P + G + a) = nI 0 then nI 1 else nI 0))) ∧ jn_Mo_part_28 mo md (nI (P + G + a), nI 7, 0, mk) = some ((if mo (P + G + a) = nI 0 then nI 1 else nI 0), 0) := by
  obtain ⟨a1, a2, a3⟩ := id h.1.1
  have hi9 : P + G + a < P + G + K := by omega
  obtain ⟨e1, e2, e3, e4, e5⟩ := (h.2.2.2.2.2 a ha).1
  refine ⟨?_, ?_⟩
  · unfold f_SD_part
    rw [x_rm h.1 hi9, ob1]
    dsimp only [sm]
    simp (disch := omega) only [n_lit, n_le0, n_lt0, n_eq0, nI_clamp, nI_add, pk_mul, ob1, false_or, or_false, if_true, if_false, eq_self, nlf, nltf, nlet, nltt, neqf, not_true_eq_false, not_false_eq_true, or_self, and_self, true_and, and_true, true_or, or_true]
    rw [x_left h.1 hi9, ob1, (hO _ hi9).1]
    exact bz2 (fun q => some (Sum.inr q))
  · unfold jn_Mo_part_28 jn_Mo_part_87 jn_Mo_part_129 jn_Mo_part_145
    dsimp only
    rw [if_pos (by decide), (m_kbA h.1.1 h.2.1 ha).1, ob1, (m_kbA h.1.1 h.2.1 ha).2, ob1]
    simp (disch := omega) only [n_lit, n_le0, n_lt0, n_eq0, nI_clamp, nI_add, pk_mul, ob1, false_or, or_false, if_true, if_false, eq_self, nlf, nltf, nlet, nltt, neqf, not_true_eq_false, not_false_eq_true, or_self, and_self, true_and, and_true, true_or, or_true]
    exact bz4 (fun q => some (q, nI 0))
theorem op_part (hI : II x s d o mu mz mw mo md) (v1 v2 : Int32) (w : Nat → Int64) (mk : Int32) :
    ∃ k w' r, f_La_part d o w v1 v2 = some (k, w') ∧ f_Mo_part mk mo md v1 v2 = some (r, k) ∧ (k = 0 → w' 0 = r.toInt64) := by
  obtain ⟨-, -, -, P, G, K, h, hO, -⟩ := id hI
  obtain ⟨a1, a2, a3⟩ := id h.1.1
  have bad1 : v1 < nI 0 ∨ (¬ v1 < nI 0 ∧ nI (P + G + K) ≤ v1) → ∃ k w' r, f_La_part d o w v1 v2 = some (k, w') ∧ f_Mo_part mk mo md v1 v2 = some (r, k) ∧ (k = 0 → w' 0 = r.toInt64) := by
    intro hv
    refine ⟨1, w, 0, ?_, ?_, fun q => absurd q (by decide)⟩
    · unfold f_La_part f_SD_part f_SD_refuseMissingPart
      rw [x_hasx h.1 hv, ob1, i00]
      rfl
    · unfold f_Mo_part
      rw [m_partx h.1.1 h.2.1 hv, ob1]
      rfl
  rcases ix3 v1 (n := P + G + K) (by omega) with hv | hv | ⟨i, hi, rfl⟩
  · exact bad1 (Or.inl hv)
  · exact bad1 (Or.inr hv)
  have mb : v2 < nI 0 ∨ nI 8 ≤ v2 → f_Mo_part mk mo md (nI i) v2 = some (0, 2) := by
    intro hv
    unfold f_Mo_part
    rw [m_part1 h.1.1 h.2.1 hi, ob1, i10, show (0 : Int32) = nI 0 from rfl, show (7 : Int32) = nI 7 from rfl, m_in5 (by omega), if_pos hv, ob1]
    rfl
  rcases ix3 v2 (n := 8) (by omega) with hv | hv | ⟨j, hj, rfl⟩
  · refine ⟨2, w, 0, ?_, mb (Or.inl hv), fun q => absurd q (by decide)⟩
    unfold f_La_part f_SD_part
    rw [x_rm h.1 hi, ob1]
    dsimp only [sm]
    rw [if_pos (show v2 < 0 from hv)]
    rfl
  · refine ⟨2, w, 0, ?_, mb (Or.inr hv.2), fun q => absurd q (by decide)⟩
    unfold f_La_part f_SD_part
    rw [x_rm h.1 hi, ob1]
    dsimp only [sm]
    rw [if_neg (show ¬ v2 < 0 from hv.1), if_neg (show ¬ v2 ≤ 7 from fun q => by
      have h1 := hv.2
      rw [Int32.le_iff_toInt_le] at q h1
      have h2 : (7 : Int32).toInt = 7 := by decide
      have h3 : (nI 8).toInt = 8 := by decide
      omega)]
    rfl
  have fin : ∀ r, f_SD_part d o (nI i) (nI j) = some (Sum.inr r) ∧ jn_Mo_part_28 mo md (nI i, nI j, 0, mk) = some (r, 0) → ∃ k w' r, f_La_part d o w (nI i) (nI j) = some (k, w') ∧ f_Mo_part mk mo md (nI i) (nI j) = some (r, k) ∧ (k = 0 → w' 0 = r.toInt64) := by
    rintro r ⟨e1, e2⟩
    refine ⟨0, vp_updL w (0 : Int32).toNatClampNeg r.toInt64, r, ?_, ?_, fun _ => wr0 _ _⟩
    · unfold f_La_part
      rw [e1, ob1]
      rfl
    · unfold f_Mo_part
      rw [m_part1 h.1.1 h.2.1 hi, ob1, i10, show (0 : Int32) = nI 0 from rfl, show (7 : Int32) = nI 7 from rfl, m_in5 (by omega), if_neg (in_f hj (by omega)), ob1]
      exact (if_neg (by decide)).trans e2
  have h8 : j = 0 ∨ j = 1 ∨ j = 2 ∨ j = 3 ∨ j = 4 ∨ j = 5 ∨ j = 6 ∨ j = 7 := by omega
  by_cases c1 : i < P
  · rcases h8 with rfl | rfl | rfl | rfl | rfl | rfl | rfl | rfl
    · exact fin _ (pt_P0 h hO c1 mk)
    · exact fin _ (pt_P1 h hO c1 mk)
    · exact fin _ (pt_P2 h hO c1 mk)
    · exact fin _ (pt_P3 h hO c1 mk)
    · exact fin _ (pt_P4 h hO c1 mk)
    · exact fin _ (pt_P5 h hO c1 mk)
    · exact fin _ (pt_P6 h hO c1 mk)
    · exact fin _ (pt_P7 h hO c1 mk)
  by_cases c2 : i < P + G
  · obtain ⟨g, rfl⟩ : ∃ g, i = P + g := ⟨i - P, by omega⟩
    have hg : g < G := by omega
    rcases h8 with rfl | rfl | rfl | rfl | rfl | rfl | rfl | rfl
    · exact fin _ (pt_G0 h hO hg mk)
    · exact fin _ (pt_G1 h hO hg mk)
    · exact fin _ (pt_G2 h hO hg mk)
    · exact fin _ (pt_G3 h hO hg mk)
    · exact fin _ (pt_G4 h hO hg mk)
    · exact fin _ (pt_G5 h hO hg mk)
    · exact fin _ (pt_G6 h hO hg mk)
    · exact fin _ (pt_G7 h hO hg mk)
  · obtain ⟨a, rfl⟩ : ∃ a, i = P + G + a := ⟨i - (P + G), by omega⟩
    have ha : a < K := by omega
    rcases h8 with rfl | rfl | rfl | rfl | rfl | rfl | rfl | rfl
    · exact fin _ (pt_A0 h hO ha mk)
    · exact fin _ (pt_A1 h hO ha mk)
    · exact fin _ (pt_A2 h hO ha mk)
    · exact fin _ (pt_A3 h hO ha mk)
    · exact fin _ (pt_A4 h hO ha mk)
    · exact fin _ (pt_A5 h hO ha mk)
    · exact fin _ (pt_A6 h hO ha mk)
    · exact fin _ (pt_A7 h hO ha mk)
end PP
