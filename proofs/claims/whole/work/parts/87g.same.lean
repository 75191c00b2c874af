theorem itn_all {S R : Type} {F : (S → Option R) → S → Option R} (st : Nat → S) (e : Nat) {out bad : Option R} (c : Nat → Prop) (hx : ∀ rec, F rec (st e) = out) (ht : ∀ i, i < e → c i → ∀ rec, F rec (st i) = rec (st (i + 1))) (hf : ∀ i, i < e → ¬ c i → ∀ rec, F rec (st i) = bad) :
    ∀ n i, i ≤ e → e - i < n → ((∀ j, i ≤ j → j < e → c j) → itn F n (st i) = out) ∧ ((¬ ∀ j, i ≤ j → j < e → c j) → itn F n (st i) = bad) := by
  intro n
  induction n with
  | zero => intro i _ h; omega
  | succ n ih =>
    intro i hi hn
    by_cases h : i = e
    · subst h
      exact ⟨fun _ => hx _, fun q => absurd (fun j h1 h2 => absurd h1 (by omega)) q⟩
    · have ih1 := ih (i + 1) (by omega) (by omega)
      by_cases c1 : c i
      · rw [itn_s, ht i (by omega) c1]
        refine ⟨fun q => ih1.1 (fun j h1 h2 => q j (by omega) h2), fun q => ih1.2 (fun q2 => q (fun j h1 h2 => ?_))⟩
        by_cases e2 : j = i
        · rw [e2]; exact c1
        · exact q2 j (by omega) h2
      · exact ⟨fun q => absurd (q i (Nat.le_refl _) (by omega)) c1, fun _ => by rw [itn_s, hf i (by omega) c1]⟩
section PQ
variable {P G K P2 G2 K2 : Nat} {d d2 : DD} {md : MD} {mr : MR} {mz sz : Int32}
abbrev LK (d d2 : DD) (i : Nat) : Prop := d.2.2.2.2.1 i = d2.2.2.2.2.1 i ∧ d.2.2.2.2.2.1 i = d2.2.2.2.2.2.1 i ∧ d.2.2.2.2.2.2.1 i = d2.2.2.2.2.2.2.1 i ∧ (if d.2.2.2.2.2.2.2.1 i = nI 0 then nI 0 else nI 1) = (if d2.2.2.2.2.2.2.2.1 i = nI 0 then nI 0 else nI 1) ∧ (if d.2.2.2.2.2.2.2.2 i = nI 0 then nI 0 else nI 1) = (if d2.2.2.2.2.2.2.2.2 i = nI 0 then nI 0 else nI 1)
theorem x_like (h : CD P G K d) (h2 : CD P G K d2) {i : Nat} (hi : i < P + G + K) : f_Dr_isPartLike d d2 (nI i) = some (if LK d d2 i then nI 1 else nI 0) := by
  unfold f_Dr_isPartLike
  rw [x_am h hi, ob1, x_am h2 hi, ob1, x_ap h hi, ob1, x_ap h2 hi, ob1, x_ag h hi, ob1, x_ag h2 hi, ob1, x_tk h hi, ob1, x_tk h2 hi, ob1, x_ly h hi, ob1, x_ly h2 hi, ob1]
  by_cases c1 : d.2.2.2.2.1 i = d2.2.2.2.2.1 i
  · by_cases c2 : d.2.2.2.2.2.1 i = d2.2.2.2.2.2.1 i
    · by_cases c3 : d.2.2.2.2.2.2.1 i = d2.2.2.2.2.2.2.1 i
      · by_cases c4 : (if d.2.2.2.2.2.2.2.1 i = nI 0 then nI 0 else nI 1) = (if d2.2.2.2.2.2.2.2.1 i = nI 0 then nI 0 else nI 1)
        · by_cases c5 : (if d.2.2.2.2.2.2.2.2 i = nI 0 then nI 0 else nI 1) = (if d2.2.2.2.2.2.2.2.2 i = nI 0 then nI 0 else nI 1)
          · rw [if_pos c1, if_pos c2, if_pos c3, if_pos c4, if_pos c5, if_pos ⟨c1, c2, c3, c4, c5⟩]; rfl
          · rw [if_pos c1, if_pos c2, if_pos c3, if_pos c4, if_neg c5, if_neg (fun q => c5 q.2.2.2.2)]; rfl
        · rw [if_pos c1, if_pos c2, if_pos c3, if_neg c4, if_neg (fun q => c4 q.2.2.2.1)]; rfl
      · rw [if_pos c1, if_pos c2, if_neg c3, if_neg (fun q => c3 q.2.2.1)]; rfl
    · rw [if_pos c1, if_neg c2, if_neg (fun q => c2 q.2.1)]; rfl
  · rw [if_neg c1, if_neg (fun q => c1 q.1)]; rfl
/-- the drawings have the same parts -/
def EQ (P G K P2 G2 K2 : Nat) (d d2 : DD) : Prop := P2 = P ∧ G2 = G ∧ K2 = K ∧ ∀ i, 0 ≤ i → i < P + G + K → LK d d2 i
theorem x_same (h : CD P G K d) (h2 : CD P2 G2 K2 d2) : (EQ P G K P2 G2 K2 d d2 → f_Dr_hasThePartsOf d d2 = some (nI 1)) ∧ (¬ EQ P G K P2 G2 K2 d d2 → f_Dr_hasThePartsOf d d2 = some (nI 0)) := by
  obtain ⟨a1, a2, a3⟩ := id h.1
  obtain ⟨b1, b2, b3⟩ := id h2.1
  unfold f_Dr_hasThePartsOf
  rw [h.2.1, h2.2.1, h.2.2.1, h2.2.2.1, h.2.2.2, h2.2.2.2]
  by_cases c : P2 = P ∧ G2 = G ∧ K2 = K
  · obtain ⟨rfl, rfl, rfl⟩ := c
    rw [if_pos rfl, if_pos rfl, if_pos rfl]
    have e := itn_all (F := bd_Dr_hasThePartsOf_37 d d2 (fun _ => some (1))) (fun i => nI i) (P2 + G2 + K2) (out := some (nI 1)) (bad := some (nI 0)) (LK d d2) (fun rec => by
      unfold bd_Dr_hasThePartsOf_37
      rw [h.2.1, if_pos (nI_le (Nat.le_refl _) (by omega))]
      rfl) (fun i hi c rec => by
      unfold bd_Dr_hasThePartsOf_37
      rw [h.2.1, if_neg (nI_ge hi (by omega)), x_like h h2 hi, ob1, if_pos c, i10, show nI i + 1 = nI (i + 1) from nI_add i 1]) (fun i hi c rec => by
      unfold bd_Dr_hasThePartsOf_37
      rw [h.2.1, if_neg (nI_ge hi (by omega)), x_like h h2 hi, ob1, if_neg c, i00]
      rfl) 70 0 (by omega) (by omega)
    exact ⟨fun q => e.1 q.2.2.2, fun q => e.2 (fun q2 => q ⟨rfl, rfl, rfl, q2⟩)⟩
  · refine ⟨fun q => absurd ⟨q.1, q.2.1, q.2.2.1⟩ c, fun _ => ?_⟩
    by_cases c1 : P + G + K = P2 + G2 + K2
    · rw [if_pos (congrArg nI c1)]
      by_cases c2 : P = P2
      · rw [if_pos (congrArg nI c2)]
        by_cases c3 : G = G2
        · exact absurd ⟨c2.symm, c3.symm, by omega⟩ c
        · rw [if_neg (fun q => c3 ((nI_eq (by omega) (by omega)).mp q))]; rfl
      · rw [if_neg (fun q => c2 ((nI_eq (by omega) (by omega)).mp q))]; rfl
    · rw [if_neg (fun q => c1 ((nI_eq (by omega) (by omega)).mp q))]; rfl
/-- an act, in the row and in the reference -/
abbrev MC (B : Nat) (md : MD) (r : Nat → Int32) (a : Nat) : Prop := r (B + 5 * a) = md.2.2.2.2.2.2.1 a ∧ r (B + 5 * a + 1) = md.2.2.2.2.2.2.2.1 a ∧ r (B + 5 * a + 2) = md.2.2.2.2.2.2.2.2.1 a ∧ r (B + 5 * a + 3) = md.2.2.2.2.2.2.2.2.2.1 a ∧ r (B + 5 * a + 4) = md.2.2.2.2.2.2.2.2.2.2 a
theorem j246 {kx rec : Int32 × Int32 → Option Int32} {e v : Int32} {a : Nat} (ha : a < 24) : jn_Mo_isAlike_246 md kx rec (e, nI a, v) = if v = md.2.2.2.2.2.2.2.2.2.2 a then rec (e + 5, nI (a + 1)) else some 0 := by
  unfold jn_Mo_isAlike_246
  dsimp only
  rw [nI_clamp (show a < 2 ^ 31 by omega), if_neg (gdl ha (by omega)), show nI a + 1 = nI (a + 1) from nI_add a 1]
theorem bz1 {x : Int32} (h : x = nI 0 ∨ x = nI 1) {α : Type} (f : Int32 → α) : (if x = (1 : Int32) then f 1 else f 0) = f x := by
  rcases h with rfl | rfl <;> rfl
theorem j220 {kx rec : Int32 × Int32 → Option Int32} {u : Nat} {v : Int32} {a : Nat} (ha : a < 24) (hu : u + 4 < 200) (hr : mr.2 (u + 4) = nI 0 ∨ mr.2 (u + 4) = nI 1) : jn_Mo_isAlike_220 md mr kx rec (nI u, nI a, v) = if v = md.2.2.2.2.2.2.2.2.2.1 a then (if mr.2 (u + 4) = md.2.2.2.2.2.2.2.2.2.2 a then rec (nI (u + 5), nI (a + 1)) else some 0) else some 0 := by
  unfold jn_Mo_isAlike_220
  dsimp only
  rw [nI_clamp (show a < 2 ^ 31 by omega), if_neg (gdl ha (by omega)), show nI u + (4 : Int32) = nI (u + 4) from nI_add u 4, nI_clamp (show u + 4 < 2 ^ 31 by omega), if_neg (gdl hu (by omega)), bz1 hr (fun q => jn_Mo_isAlike_246 md kx rec (nI u, nI a, q)), j246 ha, show nI u + 5 = nI (u + 5) from nI_add u 5]
theorem j146 (hK : md.2.2.2.1 = nI K) (h18 : K ≤ 18) {B : Nat} (hB : B ≤ 15) {kx rec : Int32 × Int32 → Option Int32} {a : Nat} (ha : a < K) (h3 : mr.2 (B + 5 * a + 3) = nI 0 ∨ mr.2 (B + 5 * a + 3) = nI 1) (h4 : mr.2 (B + 5 * a + 4) = nI 0 ∨ mr.2 (B + 5 * a + 4) = nI 1) :
    (MC B md mr.2 a → bd_Mo_isAlike_146 md mr kx rec (nI (B + 5 * a), nI a) = rec (nI (B + 5 * (a + 1)), nI (a + 1))) ∧ (¬ MC B md mr.2 a → bd_Mo_isAlike_146 md mr kx rec (nI (B + 5 * a), nI a) = some 0) := by
  have ga := gdl (show a < 24 by omega) (show 24 < 2 ^ 31 by omega)
  have g0 := gdl (show B + 5 * a < 200 by omega) (show 200 < 2 ^ 31 by omega)
  have g1 := gdl (show B + 5 * a + 1 < 200 by omega) (show 200 < 2 ^ 31 by omega)
  have g2 := gdl (show B + 5 * a + 2 < 200 by omega) (show 200 < 2 ^ 31 by omega)
  have g3 := gdl (show B + 5 * a + 3 < 200 by omega) (show 200 < 2 ^ 31 by omega)
  have hE : bd_Mo_isAlike_146 md mr kx rec (nI (B + 5 * a), nI a) = if mr.2 (B + 5 * a) = md.2.2.2.2.2.2.1 a then (if mr.2 (B + 5 * a + 1) = md.2.2.2.2.2.2.2.1 a then (if mr.2 (B + 5 * a + 2) = md.2.2.2.2.2.2.2.2.1 a then (if mr.2 (B + 5 * a + 3) = md.2.2.2.2.2.2.2.2.2.1 a then (if mr.2 (B + 5 * a + 4) = md.2.2.2.2.2.2.2.2.2.2 a then rec (nI (B + 5 * (a + 1)), nI (a + 1)) else some 0) else some 0) else some 0) else some 0) else some 0 := by
    unfold bd_Mo_isAlike_146
    dsimp only
    rw [hK, if_neg (nI_ge ha (by omega)), show nI (B + 5 * a) + (1 : Int32) = nI (B + 5 * a + 1) from nI_add _ 1, show nI (B + 5 * a) + (2 : Int32) = nI (B + 5 * a + 2) from nI_add _ 2, show nI (B + 5 * a) + (3 : Int32) = nI (B + 5 * a + 3) from nI_add _ 3, nI_clamp (show a < 2 ^ 31 by omega), nI_clamp (show B + 5 * a < 2 ^ 31 by omega), nI_clamp (show B + 5 * a + 1 < 2 ^ 31 by omega), nI_clamp (show B + 5 * a + 2 < 2 ^ 31 by omega), nI_clamp (show B + 5 * a + 3 < 2 ^ 31 by omega),
      if_neg g0, if_neg ga, if_neg g1, if_neg ga, if_neg g2, if_neg ga, if_neg g3, bz1 h3 (fun q => jn_Mo_isAlike_220 md mr kx rec (nI (B + 5 * a), nI a, q)), j220 (by omega) (by omega) h4, show B + 5 * a + 5 = B + 5 * (a + 1) by omega]
  rw [hE]
  by_cases c1 : mr.2 (B + 5 * a) = md.2.2.2.2.2.2.1 a
  · rw [if_pos c1]
    by_cases c2 : mr.2 (B + 5 * a + 1) = md.2.2.2.2.2.2.2.1 a
    · rw [if_pos c2]
      by_cases c3 : mr.2 (B + 5 * a + 2) = md.2.2.2.2.2.2.2.2.1 a
      · rw [if_pos c3]
        by_cases c4 : mr.2 (B + 5 * a + 3) = md.2.2.2.2.2.2.2.2.2.1 a
        · rw [if_pos c4]
          by_cases c5 : mr.2 (B + 5 * a + 4) = md.2.2.2.2.2.2.2.2.2.2 a
          · rw [if_pos c5]; exact ⟨fun _ => rfl, fun q => absurd ⟨c1, c2, c3, c4, c5⟩ q⟩
          · rw [if_neg c5]; exact ⟨fun q => absurd q.2.2.2.2 c5, fun _ => rfl⟩
        · rw [if_neg c4]; exact ⟨fun q => absurd q.2.2.2.1 c4, fun _ => rfl⟩
      · rw [if_neg c3]; exact ⟨fun q => absurd q.2.2.1 c3, fun _ => rfl⟩
    · rw [if_neg c2]; exact ⟨fun q => absurd q.2.1 c2, fun _ => rfl⟩
  · rw [if_neg c1]; exact ⟨fun q => absurd q.1 c1, fun _ => rfl⟩
theorem tkeq {a b : Int32} (ha : a = nI 0 ∨ a = nI 1) (hb : b = nI 0 ∨ b = nI 1) : ((if a = nI 0 then nI 0 else nI 1) = (if b = nI 0 then nI 0 else nI 1)) ↔ b = a := by
  rcases ha with rfl | rfl <;> rcases hb with rfl | rfl <;> decide
theorem m_same (h : IV P G K d md) (hz : (mz = -nI 1 ∧ P = 0 ∧ G = 0 ∧ K = 0) ∨ (¬ mz = -nI 1 ∧ 0 < P)) (h2 : P2 ≤ 6 ∧ G2 ≤ 6 ∧ K2 ≤ 18) (p2 : 0 < P2) (hI : IC sz P2 G2 K2 K2 d2 mr) :
    (EQ P G K P2 G2 K2 d d2 → f_Mo_isAlike mz md mr = some (nI 1)) ∧ (¬ EQ P G K P2 G2 K2 d d2 → f_Mo_isAlike mz md mr = some (nI 0)) := by
  obtain ⟨a1, a2, a3⟩ := id h.1.1
  obtain ⟨b1, b2, b3⟩ := id h2
  obtain ⟨i1, i2, i3, i4, i5, ⟨i6, i7⟩, ⟨i8, i9⟩, i10', i11⟩ := id hI
  obtain ⟨m1, m2, m3, m4⟩ := id h.2.1
  obtain ⟨r1, r2, r3, r4⟩ := id h.2.2
  unfold f_Mo_isAlike
  by_cases c0 : mz = -nI 1
  · rw [if_pos (show mz = -1 from c0)]
    refine ⟨fun q => ?_, fun _ => rfl⟩
    have h9 := q.1
    rcases hz with hz | hz
    · omega
    · exact absurd c0 hz.1
  rw [if_neg (show ¬ mz = -1 from c0), if_neg (by decide), show (0 : Int32).toNatClampNeg = 0 from rfl, i6, m2]
  by_cases c1 : P2 = P
  case neg =>
    rw [if_neg (fun q => c1 ((nI_eq (by omega) (by omega)).mp q))]
    exact ⟨fun q => absurd q.1 c1, fun _ => rfl⟩
  subst c1
  rw [if_pos rfl]
  -- the places
  have lkP : ∀ j, j < P2 → (LK d d2 j ↔ mr.2 (1 + j) = md.2.2.2.2.1 j) := by
    intro j hj
    obtain ⟨q1, q2, q3, q4, q5⟩ := i7 j hj
    obtain ⟨s1, s2, s3, s4⟩ := r3 j (by omega)
    unfold LK
    rw [q1, ← r1 j hj, s1, s2, s3, s4, q2, q3, q4, q5]
    exact ⟨fun z => z.1.symm, fun z => ⟨z.symm, rfl, rfl, rfl, rfl⟩⟩
  have hL1 : ∀ kx : Int32 → Option Int32, ((∀ j, 0 ≤ j → j < P2 → mr.2 (1 + j) = md.2.2.2.2.1 j) → itn (bd_Mo_isAlike_25 md mr kx) 70 0 = kx (nI P2)) ∧ ((¬ ∀ j, 0 ≤ j → j < P2 → mr.2 (1 + j) = md.2.2.2.2.1 j) → itn (bd_Mo_isAlike_25 md mr kx) 70 0 = some (nI 0)) := by
    intro kx
    refine itn_all (F := bd_Mo_isAlike_25 md mr kx) (fun i => nI i) P2 (fun j => mr.2 (1 + j) = md.2.2.2.2.1 j) (fun rec => ?_) (fun i hi c rec => ?_) (fun i hi c rec => ?_) 70 0 (by omega) (by omega)
    · unfold bd_Mo_isAlike_25
      rw [m2, if_pos (nI_le (Nat.le_refl _) (by omega))]
    · unfold bd_Mo_isAlike_25
      rw [m2, if_neg (nI_ge hi (by omega)), show (1 : Int32) + nI i = nI (1 + i) from nI_add 1 i, nI_clamp (show 1 + i < 2 ^ 31 by omega), nI_clamp (show i < 2 ^ 31 by omega), if_neg (gdl (by omega) (by omega)), if_neg (gdl (by omega) (by omega)), if_pos c, show nI i + 1 = nI (i + 1) from nI_add i 1]
    · unfold bd_Mo_isAlike_25
      rw [m2, if_neg (nI_ge hi (by omega)), show (1 : Int32) + nI i = nI (1 + i) from nI_add 1 i, nI_clamp (show 1 + i < 2 ^ 31 by omega), nI_clamp (show i < 2 ^ 31 by omega), if_neg (gdl (by omega) (by omega)), if_neg (gdl (by omega) (by omega)), if_neg c]
      rfl
  by_cases d1 : ∀ j, 0 ≤ j → j < P2 → mr.2 (1 + j) = md.2.2.2.2.1 j
  case neg =>
    rw [(hL1 _).2 d1]
    refine ⟨fun q => absurd (fun j hj0 hj => (lkP j hj).mp (q.2.2.2 j hj0 (by omega))) d1, fun _ => rfl⟩
  rw [(hL1 _).1 d1]
  rw [show nI P2 + (1 : Int32) = nI (P2 + 1) from nI_add P2 1, nI_clamp (show P2 + 1 < 2 ^ 31 by omega), if_neg (gdl (show P2 + 1 < 200 by omega) (by omega)), i8, m3]
  by_cases c2 : G2 = G
  case neg =>
    rw [if_neg (fun q => c2 ((nI_eq (by omega) (by omega)).mp q))]
    exact ⟨fun q => absurd q.2.1 c2, fun _ => rfl⟩
  subst c2
  rw [if_pos rfl]
  -- the goods
  have lkG : ∀ j, j < G2 → (LK d d2 (P2 + j) ↔ mr.2 (P2 + 1 + 1 + j) = md.2.2.2.2.2.1 j) := by
    intro j hj
    obtain ⟨q1, q2, q3, q4, q5⟩ := i9 j hj
    obtain ⟨s1, s2, s3, s4⟩ := r3 (P2 + j) (by omega)
    unfold LK
    rw [show P2 + 1 + 1 + j = P2 + 2 + j by omega, q1, ← r2 j hj, s1, s2, s3, s4, q2, q3, q4, q5]
    exact ⟨fun z => z.1.symm, fun z => ⟨z.symm, rfl, rfl, rfl, rfl⟩⟩
  have hL2 : ∀ kx : Int32 × Int32 → Option Int32, ((∀ j, 0 ≤ j → j < G2 → mr.2 (P2 + 1 + 1 + j) = md.2.2.2.2.2.1 j) → itn (bd_Mo_isAlike_82 md mr kx) 70 (nI (P2 + 1), 0) = kx (nI (P2 + 1), nI G2)) ∧ ((¬ ∀ j, 0 ≤ j → j < G2 → mr.2 (P2 + 1 + 1 + j) = md.2.2.2.2.2.1 j) → itn (bd_Mo_isAlike_82 md mr kx) 70 (nI (P2 + 1), 0) = some (nI 0)) := by
    intro kx
    refine itn_all (F := bd_Mo_isAlike_82 md mr kx) (fun i => (nI (P2 + 1), nI i)) G2 (fun j => mr.2 (P2 + 1 + 1 + j) = md.2.2.2.2.2.1 j) (fun rec => ?_) (fun i hi c rec => ?_) (fun i hi c rec => ?_) 70 0 (by omega) (by omega)
    · unfold bd_Mo_isAlike_82
      dsimp only
      rw [m3, if_pos (nI_le (Nat.le_refl _) (by omega))]
    · unfold bd_Mo_isAlike_82
      dsimp only
      rw [m3, if_neg (nI_ge hi (by omega)), show nI (P2 + 1) + (1 : Int32) = nI (P2 + 1 + 1) from nI_add _ 1, nI_add, nI_clamp (show P2 + 1 + 1 + i < 2 ^ 31 by omega), nI_clamp (show i < 2 ^ 31 by omega), if_neg (gdl (by omega) (by omega)), if_neg (gdl (by omega) (by omega)), if_pos c, show nI i + 1 = nI (i + 1) from nI_add i 1]
    · unfold bd_Mo_isAlike_82
      dsimp only
      rw [m3, if_neg (nI_ge hi (by omega)), show nI (P2 + 1) + (1 : Int32) = nI (P2 + 1 + 1) from nI_add _ 1, nI_add, nI_clamp (show P2 + 1 + 1 + i < 2 ^ 31 by omega), nI_clamp (show i < 2 ^ 31 by omega), if_neg (gdl (by omega) (by omega)), if_neg (gdl (by omega) (by omega)), if_neg c]
      rfl
  by_cases d2' : ∀ j, 0 ≤ j → j < G2 → mr.2 (P2 + 1 + 1 + j) = md.2.2.2.2.2.1 j
  case neg =>
    rw [(hL2 _).2 d2']
    refine ⟨fun q => absurd (fun j hj0 hj => (lkG j hj).mp (q.2.2.2 (P2 + j) (by omega) (by omega))) d2', fun _ => rfl⟩
  rw [(hL2 _).1 d2']
  dsimp only
  rw [show nI G2 + (1 : Int32) = nI (G2 + 1) from nI_add G2 1, nI_add, nI_clamp (show P2 + 1 + (G2 + 1) < 2 ^ 31 by omega), if_neg (gdl (show P2 + 1 + (G2 + 1) < 200 by omega) (by omega)), show mr.2 (P2 + 1 + (G2 + 1)) = nI K2 by rw [← i10']; exact congrArg mr.2 (by omega), m4]
  by_cases c3 : K2 = K
  case neg =>
    rw [if_neg (fun q => c3 ((nI_eq (by omega) (by omega)).mp q))]
    exact ⟨fun q => absurd q.2.2.1 c3, fun _ => rfl⟩
  subst c3
  rw [if_pos rfl, show nI (P2 + 1 + (G2 + 1)) + 1 = nI (P2 + G2 + 3) from (nI_add _ 1).trans (congrArg nI (by omega))]
  -- the acts
  have lkA : ∀ a, a < K2 → (LK d d2 (P2 + G2 + a) ↔ MC (P2 + G2 + 3) md mr.2 a) := by
    intro a ha
    obtain ⟨⟨q1, q2, q3, q4, q5⟩, -, -, q6, q7⟩ := i11 a ha
    obtain ⟨⟨s1, s2, s3, s4, s5⟩, -, -, s6, s7⟩ := r4 a ha
    unfold LK MC
    rw [q1, q2, q3, q4, q5, s1, s2, s3, s4, s5, tkeq s6 q6, tkeq s7 q7]
    exact ⟨fun z => ⟨z.2.1.symm, z.2.2.1.symm, z.1.symm, z.2.2.2.1, z.2.2.2.2⟩, fun z => ⟨z.2.2.1.symm, z.1.symm, z.2.1.symm, z.2.2.2.1, z.2.2.2.2⟩⟩
  have hb34 : ∀ a, a < K2 → (mr.2 (P2 + G2 + 3 + 5 * a + 3) = nI 0 ∨ mr.2 (P2 + G2 + 3 + 5 * a + 3) = nI 1) ∧ (mr.2 (P2 + G2 + 3 + 5 * a + 4) = nI 0 ∨ mr.2 (P2 + G2 + 3 + 5 * a + 4) = nI 1) := by
    intro a ha
    obtain ⟨⟨q1, q2, q3, q4, q5⟩, -, -, q6, q7⟩ := i11 a ha
    rw [q4, q5]
    exact ⟨q6, q7⟩
  have hL3 := itn_all (F := bd_Mo_isAlike_146 md mr (fun _ => some (1))) (fun a => (nI (P2 + G2 + 3 + 5 * a), nI a)) K2 (out := some (nI 1)) (bad := some (nI 0)) (MC (P2 + G2 + 3) md mr.2) (fun rec => by
    unfold bd_Mo_isAlike_146
    dsimp only
    rw [m4, if_pos (nI_le (Nat.le_refl _) (by omega))]
    rfl) (fun i hi c rec => (j146 m4 a3 (by omega) hi (hb34 i hi).1 (hb34 i hi).2).1 c) (fun i hi c rec => (j146 m4 a3 (by omega) hi (hb34 i hi).1 (hb34 i hi).2).2 c) 70 0 (by omega) (by omega)
  refine ⟨fun q => hL3.1 (fun j h0 hj => (lkA j hj).mp (q.2.2.2 _ (by omega) (by omega))), fun q => hL3.2 (fun q2 => q ⟨rfl, rfl, rfl, fun i h0 hi => ?_⟩)⟩
  by_cases e1 : i < P2
  · exact (lkP i e1).mpr (d1 i h0 e1)
  · by_cases e2 : i < P2 + G2
    · have e3 := (lkG (i - P2) (by omega)).mpr (d2' _ (by omega) (by omega))
      rw [show P2 + (i - P2) = i by omega] at e3
      exact e3
    · have e3 := (lkA (i - (P2 + G2)) (by omega)).mpr (q2 _ (by omega) (by omega))
      rw [show P2 + G2 + (i - (P2 + G2)) = i by omega] at e3
      exact e3
theorem op_same {x mw : Int32} {s mu : Int64} {o mo : Nat → Int32} (hI : II x s d o mu mz mw mo md) (v1 : Int64) (v2 : Int32) (s2 : Int64) (w : Nat → Int64) (mk : Int32) :
    ∃ k s2' d2' w' r mr', f_La_same d s2 d2 w v1 v2 = some (k, s2', d2', w') ∧ f_Mo_same mk mu mz md mr v1 v2 = some (r, k, mu, mr') ∧ (k = 0 → w' 0 = wz r) := by
  obtain ⟨-, -, -, P, G, K, h, hO, hz⟩ := id hI
  have bad : v2 < nI 0 ∨ nI 6 ≤ v2 → f_Mo_same mk mu mz md mr v1 v2 = some (0, 1, mu, mr) := by
    intro hv
    unfold f_Mo_same
    rw [show (0 : Int32) = nI 0 from rfl, show (5 : Int32) = nI 5 from rfl, m_in5 (by omega), if_pos hv, ob1]
    rfl
  rcases ix3 v2 (n := 6) (by omega) with hv | hv | ⟨n, hn, rfl⟩
  · refine ⟨1, s2, d2, w, 0, mr, ?_, bad (Or.inl hv), fun q => absurd q (by decide)⟩
    unfold f_La_same f_SD_same f_SD_refuseWrongSize
    rw [if_pos (show v2 < 0 from hv)]
    rfl
  · refine ⟨1, s2, d2, w, 0, mr, ?_, bad (Or.inr hv.2), fun q => absurd q (by decide)⟩
    unfold f_La_same f_SD_same f_SD_refuseWrongSize
    rw [if_neg (show ¬ v2 < 0 from hv.1), if_neg (show ¬ v2 ≤ 5 from fun q => by
      have h1 := hv.2
      rw [Int32.le_iff_toInt_le] at q h1
      have h2 : (5 : Int32).toInt = 5 := by decide
      have h3 : (nI 6).toInt = 6 := by decide
      omega)]
    rfl
  · obtain ⟨P2, G2, K2, s', d', mr', p0, g0, hb, hIC, hC, hM⟩ := draw_row (show n ≤ 5 by omega) v1 d2 mr
    have hCD : CD P2 G2 K2 d' := ⟨hb, hIC.2.1, hIC.2.2.1, hIC.2.2.2.1⟩
    have key : ∃ r, (r = nI 0 ∨ r = nI 1) ∧ f_Dr_hasThePartsOf d d' = some r ∧ f_Mo_isAlike mz md mr' = some r := by
      by_cases c : EQ P G K P2 G2 K2 d d'
      · exact ⟨nI 1, Or.inr rfl, (x_same h.1 hCD).1 c, (m_same h hz hb p0 hIC).1 c⟩
      · exact ⟨nI 0, Or.inl rfl, (x_same h.1 hCD).2 c, (m_same h hz hb p0 hIC).2 c⟩
    obtain ⟨r, hr, e1, e2⟩ := key
    refine ⟨0, s', d', vp_updL w (0 : Int32).toNatClampNeg (wz r), r, mr', ?_, ?_, fun _ => wr0 _ _⟩
    · unfold f_La_same f_SD_same f_SD_refuseWrongSize f_So_restart
      rw [if_neg (show ¬ nI n < 0 from nI_pos (by omega)), if_pos (show nI n ≤ 5 from (nI_leI (by omega) (by omega : 5 < 2 ^ 31)).mpr (by omega)), ob1]
      dsimp only [sm]
      rw [ob1, hC, ob1]
      dsimp only
      rw [e1, ob1, if_pos (show r = 0 ∨ r = 1 from hr), ob1]
      rcases hr with rfl | rfl <;> rfl
    · unfold f_Mo_same
      rw [show (0 : Int32) = nI 0 from rfl, show (5 : Int32) = nI 5 from rfl, m_in5 (by omega), if_neg (in_f hn (by omega)), ob1]
      refine (if_neg (by decide)).trans ?_
      unfold jn_Mo_same_15
      dsimp only
      rw [if_pos (by decide), hM, ob1]
      dsimp only
      rw [e2, ob1]
      exact if_pos hr
end PQ
