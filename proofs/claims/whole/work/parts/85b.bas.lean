theorem ob1 {α β : Type} {a : α} {f : α → Option β} : Option.bind (some a) f = f a := rfl
theorem ob0 {α β : Type} {f : α → Option β} : Option.bind none f = none := rfl
/-- the class's numbers, the reference's -/
def CD (P G K : Nat) (d : DD) : Prop := (P ≤ 6 ∧ G ≤ 6 ∧ K ≤ 18) ∧ d.2.1 = nI (P + G + K) ∧ d.2.2.1 = nI P ∧ d.2.2.2.1 = nI G
def CM (P G K : Nat) (md : MD) : Prop := md.1 = nI (P + G + K) ∧ md.2.1 = nI P ∧ md.2.2.1 = nI G ∧ md.2.2.2.1 = nI K
/-- the parts are the same -/
def AR (P G K : Nat) (d : DD) (md : MD) : Prop :=
  (∀ i, i < P → d.2.2.2.2.1 i = md.2.2.2.2.1 i) ∧ (∀ g, g < G → d.2.2.2.2.1 (P + g) = md.2.2.2.2.2.1 g) ∧ (∀ i, i < P + G → d.2.2.2.2.2.1 i = -nI 1 ∧ d.2.2.2.2.2.2.1 i = -nI 1 ∧ d.2.2.2.2.2.2.2.1 i = nI 0 ∧ d.2.2.2.2.2.2.2.2 i = nI 0) ∧
  ∀ a, a < K → (d.2.2.2.2.1 (P + G + a) = md.2.2.2.2.2.2.2.2.1 a ∧ d.2.2.2.2.2.1 (P + G + a) = md.2.2.2.2.2.2.1 a ∧ d.2.2.2.2.2.2.1 (P + G + a) = md.2.2.2.2.2.2.2.1 a ∧ d.2.2.2.2.2.2.2.1 (P + G + a) = md.2.2.2.2.2.2.2.2.2.1 a ∧ d.2.2.2.2.2.2.2.2 (P + G + a) = md.2.2.2.2.2.2.2.2.2.2 a) ∧
    (∃ p, p < P ∧ md.2.2.2.2.2.2.1 a = nI p) ∧ (∃ g, g < G ∧ md.2.2.2.2.2.2.2.1 a = nI g) ∧ (md.2.2.2.2.2.2.2.2.2.1 a = nI 0 ∨ md.2.2.2.2.2.2.2.2.2.1 a = nI 1) ∧ (md.2.2.2.2.2.2.2.2.2.2 a = nI 0 ∨ md.2.2.2.2.2.2.2.2.2.2 a = nI 1)
/-- the same are left out -/
def OV (n : Nat) (o mo : Nat → Int32) : Prop := ∀ i, i < n → o i = mo i ∧ (mo i = nI 0 ∨ mo i = nI 1)
theorem i10 {α : Type} {a b : α} : (if nI 1 = (0 : Int32) then a else b) = b := if_neg (by decide)
theorem i00 {α : Type} {a b : α} : (if nI 0 = (0 : Int32) then a else b) = a := if_pos rfl
theorem i22 {α : Type} {a b : α} : (if nI 2 = (2 : Int32) then a else b) = a := if_pos rfl
theorem i02 {α : Type} {a b : α} : (if nI 0 = (2 : Int32) then a else b) = b := if_neg (by decide)
theorem i12 {α : Type} {a b : α} : (if nI 1 = (2 : Int32) then a else b) = b := if_neg (by decide)
section PB
variable {P G K : Nat} {d : DD} {md : MD} {o mo : Nat → Int32}
theorem x_has1 (h : CD P G K d) {i : Nat} (hi : i < P + G + K) : f_Dr_has d (nI i) = some (nI 1) := by
  obtain ⟨⟨a1, a2, a3⟩, e1, e2, e3⟩ := h
  unfold f_Dr_has
  simp (disch := omega) only [n_lit, n_le0, n_lt0, n_eq0, nI_clamp, nI_add, pk_mul, ob1, false_or, or_false, if_true, if_false, e1]
  rw [if_neg (by omega), if_neg (by omega), if_neg (by omega)]
theorem x_has0 (h : CD P G K d) {i : Nat} (hi : P + G + K ≤ i) (hi2 : i < 2 ^ 31) : f_Dr_has d (nI i) = some (nI 0) := by
  obtain ⟨⟨a1, a2, a3⟩, e1, e2, e3⟩ := h
  unfold f_Dr_has
  simp (disch := omega) only [n_lit, n_le0, n_lt0, n_eq0, nI_clamp, nI_add, pk_mul, ob1, false_or, or_false, if_true, if_false, e1]
  rw [if_neg (by omega), if_pos (by omega)]
theorem x_hasx (h : CD P G K d) {p : Int32} (hp : p < nI 0 ∨ (¬ p < nI 0 ∧ nI (P + G + K) ≤ p)) : f_Dr_has d p = some (nI 0) := by
  obtain ⟨⟨a1, a2, a3⟩, e1, e2, e3⟩ := h
  unfold f_Dr_has
  simp (disch := omega) only [n_lit, e1]
  rcases hp with hp | ⟨hp, hq⟩
  · rw [if_pos hp]
  · rw [if_neg hp, if_pos hq]
theorem x_hP1 (h : CD P G K d) {i : Nat} (hi : i < P) : f_Dr_hasPlace d (nI i) = some (nI 1) := by
  obtain ⟨⟨a1, a2, a3⟩, e1, e2, e3⟩ := h
  unfold f_Dr_hasPlace
  simp (disch := omega) only [n_lit, n_le0, n_lt0, n_eq0, nI_clamp, nI_add, pk_mul, ob1, false_or, or_false, if_true, if_false, e2]
  rw [if_neg (by omega), if_neg (by omega), if_neg (by omega)]
theorem x_hPx (h : CD P G K d) {p : Int32} (hp : p < nI 0 ∨ (¬ p < nI 0 ∧ nI P ≤ p)) : f_Dr_hasPlace d p = some (nI 0) := by
  obtain ⟨⟨a1, a2, a3⟩, e1, e2, e3⟩ := h
  unfold f_Dr_hasPlace
  simp (disch := omega) only [n_lit, e2]
  rcases hp with hp | ⟨hp, hq⟩
  · rw [if_pos hp]
  · rw [if_neg hp, if_pos hq]
theorem x_hG1 (h : CD P G K d) {i : Nat} (hi : i < G) : f_Dr_hasGood d (nI i) = some (nI 1) := by
  obtain ⟨⟨a1, a2, a3⟩, e1, e2, e3⟩ := h
  unfold f_Dr_hasGood
  simp (disch := omega) only [n_lit, n_le0, n_lt0, n_eq0, nI_clamp, nI_add, pk_mul, ob1, false_or, or_false, if_true, if_false, e3]
  rw [if_neg (by omega), if_neg (by omega), if_neg (by omega)]
theorem x_hGx (h : CD P G K d) {p : Int32} (hp : p < nI 0 ∨ (¬ p < nI 0 ∧ nI G ≤ p)) : f_Dr_hasGood d p = some (nI 0) := by
  obtain ⟨⟨a1, a2, a3⟩, e1, e2, e3⟩ := h
  unfold f_Dr_hasGood
  simp (disch := omega) only [n_lit, e3]
  rcases hp with hp | ⟨hp, hq⟩
  · rw [if_pos hp]
  · rw [if_neg hp, if_pos hq]
theorem x_left (h : CD P G K d) {i : Nat} (hi : i < P + G + K) : f_Re_isLeft d o (nI i) = some (if o i = nI 0 then nI 1 else nI 0) := by
  obtain ⟨a1, a2, a3⟩ := h.1
  unfold f_Re_isLeft
  rw [x_has1 h hi]
  simp (disch := omega) only [n_lit, n_le0, n_lt0, n_eq0, nI_clamp, nI_add, pk_mul, ob1, false_or, or_false, if_true, if_false]
  rw [if_neg (by omega), if_neg (by omega)]
  split <;> rfl
theorem x_leftx (h : CD P G K d) {p : Int32} (hp : p < nI 0 ∨ (¬ p < nI 0 ∧ nI (P + G + K) ≤ p)) : f_Re_isLeft d o p = some (nI 0) := by
  unfold f_Re_isLeft
  rw [x_hasx h hp]
  rfl
theorem x_am (h : CD P G K d) {i : Nat} (hi : i < P + G + K) : f_Dr_amountOf d (nI i) = some (d.2.2.2.2.1 i) := by
  obtain ⟨a1, a2, a3⟩ := h.1
  unfold f_Dr_amountOf
  rw [x_has1 h hi]
  simp (disch := omega) only [n_lit, n_le0, n_lt0, n_eq0, nI_clamp, nI_add, pk_mul, ob1, false_or, or_false, if_true, if_false]
  rw [if_neg (by omega), if_neg (by omega)]
theorem x_ap (h : CD P G K d) {i : Nat} (hi : i < P + G + K) : f_Dr_placeOf d (nI i) = some (d.2.2.2.2.2.1 i) := by
  obtain ⟨a1, a2, a3⟩ := h.1
  unfold f_Dr_placeOf
  rw [x_has1 h hi]
  simp (disch := omega) only [n_lit, n_le0, n_lt0, n_eq0, nI_clamp, nI_add, pk_mul, ob1, false_or, or_false, if_true, if_false]
  rw [if_neg (by omega), if_neg (by omega)]
theorem x_ag (h : CD P G K d) {i : Nat} (hi : i < P + G + K) : f_Dr_goodOf d (nI i) = some (d.2.2.2.2.2.2.1 i) := by
  obtain ⟨a1, a2, a3⟩ := h.1
  unfold f_Dr_goodOf
  rw [x_has1 h hi]
  simp (disch := omega) only [n_lit, n_le0, n_lt0, n_eq0, nI_clamp, nI_add, pk_mul, ob1, false_or, or_false, if_true, if_false]
  rw [if_neg (by omega), if_neg (by omega)]
theorem x_tk (h : CD P G K d) {i : Nat} (hi : i < P + G + K) : f_Dr_takes d (nI i) = some (if d.2.2.2.2.2.2.2.1 i = nI 0 then nI 0 else nI 1) := by
  obtain ⟨a1, a2, a3⟩ := h.1
  unfold f_Dr_takes
  rw [x_has1 h hi]
  simp (disch := omega) only [n_lit, n_le0, n_lt0, n_eq0, nI_clamp, nI_add, pk_mul, ob1, false_or, or_false, if_true, if_false]
  rw [if_neg (by omega), if_neg (by omega)]
  split <;> rfl
theorem x_ly (h : CD P G K d) {i : Nat} (hi : i < P + G + K) : f_Dr_lies d (nI i) = some (if d.2.2.2.2.2.2.2.2 i = nI 0 then nI 0 else nI 1) := by
  obtain ⟨a1, a2, a3⟩ := h.1
  unfold f_Dr_lies
  rw [x_has1 h hi]
  simp (disch := omega) only [n_lit, n_le0, n_lt0, n_eq0, nI_clamp, nI_add, pk_mul, ob1, false_or, or_false, if_true, if_false]
  rw [if_neg (by omega), if_neg (by omega)]
  split <;> rfl
theorem x_kd (h : CD P G K d) {i : Nat} (hi : i < P + G + K) : f_Dr_kindOf d (nI i) = some (if i < P then nI 0 else if i < P + G then nI 1 else nI 2) := by
  obtain ⟨⟨a1, a2, a3⟩, e1, e2, e3⟩ := h
  unfold f_Dr_kindOf
  simp (disch := omega) only [n_lit, n_le0, n_lt0, n_eq0, nI_clamp, nI_add, pk_mul, ob1, false_or, or_false, if_true, if_false, e2, e3]
  by_cases h1 : i < P
  · rw [if_neg (by omega), if_pos h1]
  · rw [if_pos (by omega), if_neg h1]
    by_cases h2 : i < P + G
    · rw [if_neg (by omega), if_pos h2]
    · rw [if_pos (by omega), if_neg h2]
theorem x_kdP (h : CD P G K d) {i : Nat} (hi : i < P) : f_Dr_kindOf d (nI i) = some (nI 0) := by rw [x_kd h (by omega), if_pos hi]
theorem x_kdG (h : CD P G K d) {g : Nat} (hi : g < G) : f_Dr_kindOf d (nI (P + g)) = some (nI 1) := by rw [x_kd h (by omega), if_neg (by omega), if_pos (by omega)]
theorem x_kdA (h : CD P G K d) {a : Nat} (hi : a < K) : f_Dr_kindOf d (nI (P + G + a)) = some (nI 2) := by rw [x_kd h (by omega), if_neg (by omega), if_neg (by omega)]
/-- a part that is no act doesn't count -/
theorem x_cnt0 (h : CD P G K d) {i : Nat} (hi : i < P + G) : f_Re_isActThatCounts d o (nI i) = some (nI 0) := by
  unfold f_Re_isActThatCounts
  rw [x_left h (by omega), ob1]
  by_cases c : o i = nI 0
  · rw [if_pos c, i10]
    by_cases c2 : i < P
    · rw [x_kdP h c2, ob1, i02]; rfl
    · obtain ⟨g, rfl⟩ : ∃ g, i = P + g := ⟨i - P, by omega⟩
      rw [x_kdG h (by omega), ob1, i12]; rfl
  · rw [if_neg c, i00]; rfl
theorem x_cnt (h : CD P G K d) {a p g : Nat} (ha : a < K) (hp : p < P) (hg : g < G) (e1 : d.2.2.2.2.2.1 (P + G + a) = nI p) (e2 : d.2.2.2.2.2.2.1 (P + G + a) = nI g) : f_Re_isActThatCounts d o (nI (P + G + a)) = some (if o (P + G + a) = nI 0 then if o p = nI 0 then if o (P + g) = nI 0 then nI 1 else nI 0 else nI 0 else nI 0) := by
  unfold f_Re_isActThatCounts
  rw [x_left h (by omega), ob1]
  by_cases c1 : o (P + G + a) = nI 0
  · rw [if_pos c1, if_pos c1, i10, x_kdA h ha, ob1, i22, x_ap h (by omega), ob1, e1, x_left h (by omega), ob1]
    by_cases c2 : o p = nI 0
    · rw [if_pos c2, if_pos c2, i10, x_ag h (by omega), ob1, e2]
      unfold f_Dr_partOfGood
      rw [ob1, h.2.2.1, nI_add, x_left h (by omega), ob1]
      by_cases c3 : o (P + g) = nI 0
      · rw [if_pos c3, i10]; rfl
      · rw [if_neg c3, i00]; rfl
    · rw [if_neg c2, if_neg c2, i00]; rfl
  · rw [if_neg c1, if_neg c1, i00]; rfl
theorem m_cnt (hb : P ≤ 6 ∧ G ≤ 6 ∧ K ≤ 18) (h : CM P G K md) {a p g : Nat} (ha : a < K) (hp : p < P) (hg : g < G) (e1 : md.2.2.2.2.2.2.1 a = nI p) (e2 : md.2.2.2.2.2.2.2.1 a = nI g) : f_Mo_counts mo md (nI a) = some (if mo (P + G + a) = nI 0 then if mo p = nI 0 then if mo (P + g) = nI 0 then nI 1 else nI 0 else nI 0 else nI 0) := by
  obtain ⟨a1, a2, a3⟩ := hb
  obtain ⟨b1, b2, b3, b4⟩ := h
  unfold f_Mo_counts
  simp (disch := omega) only [n_lit, n_le0, n_lt0, n_eq0, nI_clamp, nI_add, pk_mul, ob1, false_or, or_false, if_true, if_false, b1, b2, b3, b4, e1, e2]
  rw [if_neg (by omega)]
  by_cases c1 : mo (P + G + a) = nI 0
  · rw [if_pos c1, if_pos c1, if_neg (by omega), if_neg (by omega)]
    by_cases c2 : mo p = nI 0
    · rw [if_pos c2, if_pos c2, if_neg (by omega), if_neg (by omega)]
      split <;> rfl
    · rw [if_neg c2, if_neg c2]
  · rw [if_neg c1, if_neg c1]
theorem m_in {n : Nat} (hn : n < 2 ^ 30) (p : Int32) : f_Mo_in p (nI 0) (nI n - nI 1) = some (if p < nI 0 ∨ nI n ≤ p then nI 0 else nI 1) := by
  unfold f_Mo_in
  simp only [n_predlt hn]
  by_cases c1 : p < nI 0
  · rw [if_pos c1, if_pos (Or.inl c1)]; rfl
  · rw [if_neg c1]
    by_cases c2 : nI n ≤ p
    · rw [if_pos c2, if_pos (Or.inr c2)]; rfl
    · rw [if_neg c2, if_neg (by rintro (h | h); exact c1 h; exact c2 h)]; rfl
theorem m_in5 {n : Nat} (hn : n + 1 < 2 ^ 30) (p : Int32) : f_Mo_in p (nI 0) (nI n) = some (if p < nI 0 ∨ nI (n + 1) ≤ p then nI 0 else nI 1) := by
  have h := m_in (n := n + 1) (by omega) p
  rw [pk_sub (show 1 ≤ n + 1 by omega)] at h
  exact h
theorem in_t {p : Int32} {n : Nat} (hp : p < nI 0 ∨ (¬ p < nI 0 ∧ nI n ≤ p)) : p < nI 0 ∨ nI n ≤ p := hp.elim Or.inl (fun h => Or.inr h.2)
theorem in_f {j n : Nat} (h : j < n) (hn : n < 2 ^ 31) : ¬ (nI j < nI 0 ∨ nI n ≤ nI j) := by
  rw [nI_ltI (by omega) (by omega), nI_leI (by omega) (by omega)]; omega
theorem m_part1 (hb : P ≤ 6 ∧ G ≤ 6 ∧ K ≤ 18) (h : CM P G K md) {i : Nat} (hi : i < P + G + K) : f_Mo_isPart md (nI i) = some (nI 1) := by
  unfold f_Mo_isPart
  simp only [n_lit]
  rw [h.1, m_in (by omega), if_neg (in_f hi (by omega)), ob1]
  rfl
theorem m_partx (hb : P ≤ 6 ∧ G ≤ 6 ∧ K ≤ 18) (h : CM P G K md) {p : Int32} (hp : p < nI 0 ∨ (¬ p < nI 0 ∧ nI (P + G + K) ≤ p)) : f_Mo_isPart md p = some (nI 0) := by
  unfold f_Mo_isPart
  simp only [n_lit]
  rw [h.1, m_in (by omega), if_pos (in_t hp), ob1]
  rfl
end PB
