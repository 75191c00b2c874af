/-- a part that is no act -/
abbrev NA (f2 f3 f4 f5 : Nat → Int32) (i : Nat) : Prop := f2 i = -nI 1 ∧ f3 i = -nI 1 ∧ f4 i = nI 0 ∧ f5 i = nI 0
/-- an act, and its five numbers in the row -/
abbrev AN (P G : Nat) (f1 f2 f3 f4 f5 : Nat → Int32) (r : Nat → Int32) (b : Nat) : Prop := (r (P + G + 3 + 5 * b) = f2 (P + G + b) ∧ r (P + G + 3 + 5 * b + 1) = f3 (P + G + b) ∧ r (P + G + 3 + 5 * b + 2) = f1 (P + G + b) ∧ r (P + G + 3 + 5 * b + 3) = f4 (P + G + b) ∧ r (P + G + 3 + 5 * b + 4) = f5 (P + G + b)) ∧
  (∃ p, p < P ∧ f2 (P + G + b) = nI p) ∧ (∃ g, g < G ∧ f3 (P + G + b) = nI g) ∧ (f4 (P + G + b) = nI 0 ∨ f4 (P + G + b) = nI 1) ∧ (f5 (P + G + b) = nI 0 ∨ f5 (P + G + b) = nI 1)
def IA (sz : Int32) (P k : Nat) (d : DD) (mr : MR) : Prop := d.1 = sz ∧ d.2.1 = nI k ∧ d.2.2.1 = nI P ∧ mr.1 = nI (1 + k) ∧ mr.2 0 = nI P ∧ ∀ i, i < k → mr.2 (1 + i) = d.2.2.2.2.1 i ∧ NA d.2.2.2.2.2.1 d.2.2.2.2.2.2.1 d.2.2.2.2.2.2.2.1 d.2.2.2.2.2.2.2.2 i
def IB (sz : Int32) (P G k : Nat) (d : DD) (mr : MR) : Prop := d.1 = sz ∧ d.2.1 = nI (P + k) ∧ d.2.2.1 = nI P ∧ d.2.2.2.1 = nI G ∧ mr.1 = nI (P + 2 + k) ∧ (mr.2 0 = nI P ∧ ∀ i, i < P → mr.2 (1 + i) = d.2.2.2.2.1 i ∧ NA d.2.2.2.2.2.1 d.2.2.2.2.2.2.1 d.2.2.2.2.2.2.2.1 d.2.2.2.2.2.2.2.2 i) ∧ mr.2 (P + 1) = nI G ∧ ∀ i, i < k → mr.2 (P + 2 + i) = d.2.2.2.2.1 (P + i) ∧ NA d.2.2.2.2.2.1 d.2.2.2.2.2.2.1 d.2.2.2.2.2.2.2.1 d.2.2.2.2.2.2.2.2 (P + i)
def IC (sz : Int32) (P G K k : Nat) (d : DD) (mr : MR) : Prop := d.1 = sz ∧ d.2.1 = nI (P + G + k) ∧ d.2.2.1 = nI P ∧ d.2.2.2.1 = nI G ∧ mr.1 = nI (P + G + 3 + 5 * k) ∧ (mr.2 0 = nI P ∧ ∀ i, i < P → mr.2 (1 + i) = d.2.2.2.2.1 i ∧ NA d.2.2.2.2.2.1 d.2.2.2.2.2.2.1 d.2.2.2.2.2.2.2.1 d.2.2.2.2.2.2.2.2 i) ∧ (mr.2 (P + 1) = nI G ∧ ∀ i, i < G → mr.2 (P + 2 + i) = d.2.2.2.2.1 (P + i) ∧ NA d.2.2.2.2.2.1 d.2.2.2.2.2.2.1 d.2.2.2.2.2.2.2.1 d.2.2.2.2.2.2.2.2 (P + i)) ∧ mr.2 (P + G + 2) = nI K ∧ ∀ b, b < k → AN P G d.2.2.2.2.1 d.2.2.2.2.2.1 d.2.2.2.2.2.2.1 d.2.2.2.2.2.2.2.1 d.2.2.2.2.2.2.2.2 mr.2 b
theorem simA {sz : Int32} {P : Nat} (hP : P ≤ 6) (e1 e2 : Int32) : ∀ r k, k + r = P → ∀ fc fm, r < fc → r < fm → ∀ s d mr, IA sz P k d mr →
    ∃ s' d' mr', IA sz P P d' mr' ∧ (∀ kx, itn (bd_Dr_redraw_28 kx) fc (e1, nI k, s, d) = kx (e1, nI P, s', d')) ∧ ∀ kx, itn (bd_Mo_drawRow_22 kx) fm (e2, nI P, nI k, s, mr) = kx (e2, nI P, nI P, s', mr') := by
  intro r
  induction r with
  | zero =>
    intro k e fc fm hfc hfm s d mr hI
    obtain ⟨fc, rfl⟩ : ∃ n, fc = n + 1 := ⟨fc - 1, by omega⟩
    obtain ⟨fm, rfl⟩ : ∃ n, fm = n + 1 := ⟨fm - 1, by omega⟩
    obtain rfl : k = P := by omega
    refine ⟨s, d, mr, hI, fun kx => ?_, fun kx => ?_⟩
    · rw [itn_s]
      unfold bd_Dr_redraw_28
      dsimp only
      rw [hI.2.2.1, if_pos (nI_le (Nat.le_refl _) (by omega))]
    · rw [itn_s]
      unfold bd_Mo_drawRow_22
      dsimp only
      rw [if_pos (nI_le (Nat.le_refl _) (by omega))]
  | succ r ih =>
    intro k e fc fm hfc hfm s d mr hI
    obtain ⟨fc, rfl⟩ : ∃ n, fc = n + 1 := ⟨fc - 1, by omega⟩
    obtain ⟨fm, rfl⟩ : ∃ n, fm = n + 1 := ⟨fm - 1, by omega⟩
    obtain ⟨i1, i2, i3, i4, i5, i6⟩ := id hI
    have hI' : IA sz P (k + 1) (d.1, nI (k + 1), d.2.2.1, d.2.2.2.1, upd d.2.2.2.2.1 k ((4 : Int32) + nI (rb s 20)), upd d.2.2.2.2.2.1 k (-nI 1), upd d.2.2.2.2.2.2.1 k (-nI 1), upd d.2.2.2.2.2.2.2.1 k (nI 0), upd d.2.2.2.2.2.2.2.2 k (nI 0)) (nI (1 + k + 1), upd mr.2 (1 + k) ((4 : Int32) + nI (rb s 20))) := by
      refine ⟨i1, rfl, i3, rfl, (pk_un (by omega)).trans i5, fun i hi => ?_⟩
      dsimp only [NA]
      by_cases c : i = k
      · subst c
        rw [pk_us, pk_us, pk_us, pk_us, pk_us, pk_us]
        exact ⟨rfl, rfl, rfl, rfl, rfl⟩
      · rw [pk_un (by omega), pk_un c, pk_un c, pk_un c, pk_un c, pk_un c]
        exact i6 i (by omega)
    obtain ⟨s2, d2, mr2, hI2, hC, hM⟩ := ih (k + 1) (by omega) fc fm (by omega) (by omega) (nx s) _ _ hI'
    refine ⟨s2, d2, mr2, hI2, fun kx => ?_, fun kx => ?_⟩
    · refine Eq.trans ?_ (hC kx)
      rw [itn_s]
      generalize itn (bd_Dr_redraw_28 kx) fc = rec
      unfold bd_Dr_redraw_28
      dsimp only
      rw [i3, if_neg (nI_ge (by omega) (by omega)), show (20 : Int32) = nI 20 from rfl, x_below s (by omega) (by omega), ob1, x_thing i2 (by omega), ob1, show nI k + 1 = nI (k + 1) from nI_add k 1, i3]
    · refine Eq.trans ?_ (hM kx)
      rw [itn_s]
      generalize itn (bd_Mo_drawRow_22 kx) fm = rec
      unfold bd_Mo_drawRow_22
      dsimp only
      rw [if_neg (nI_ge (by omega) (by omega)), show (20 : Int32) = nI 20 from rfl, m_below s (by omega) (by omega), ob1, m_put i4 (by omega), ob1, show nI k + 1 = nI (k + 1) from nI_add k 1]
theorem simB {sz : Int32} {P G : Nat} (hP : P ≤ 6) (hG : G ≤ 6) (e1 e2 e3 : Int32) : ∀ r k, k + r = G → ∀ fc fm, r < fc → r < fm → ∀ s d mr, IB sz P G k d mr →
    ∃ s' d' mr', IB sz P G G d' mr' ∧ (∀ kx, itn (bd_Dr_redraw_72 kx) fc (e1, nI k, s, d) = kx (e1, nI G, s', d')) ∧ ∀ kx, itn (bd_Mo_drawRow_63 kx) fm (e2, e3, nI G, nI k, s, mr) = kx (e2, e3, nI G, nI G, s', mr') := by
  intro r
  induction r with
  | zero =>
    intro k e fc fm hfc hfm s d mr hI
    obtain ⟨fc, rfl⟩ : ∃ n, fc = n + 1 := ⟨fc - 1, by omega⟩
    obtain ⟨fm, rfl⟩ : ∃ n, fm = n + 1 := ⟨fm - 1, by omega⟩
    obtain rfl : k = G := by omega
    refine ⟨s, d, mr, hI, fun kx => ?_, fun kx => ?_⟩
    · rw [itn_s]
      unfold bd_Dr_redraw_72
      dsimp only
      rw [hI.2.2.2.1, if_pos (nI_le (Nat.le_refl _) (by omega))]
    · rw [itn_s]
      unfold bd_Mo_drawRow_63
      dsimp only
      rw [if_pos (nI_le (Nat.le_refl _) (by omega))]
  | succ r ih =>
    intro k e fc fm hfc hfm s d mr hI
    obtain ⟨fc, rfl⟩ : ∃ n, fc = n + 1 := ⟨fc - 1, by omega⟩
    obtain ⟨fm, rfl⟩ : ∃ n, fm = n + 1 := ⟨fm - 1, by omega⟩
    obtain ⟨i1, i2, i3, i4, i5, ⟨i6, i7⟩, i8, i9⟩ := id hI
    have hI' : IB sz P G (k + 1) (d.1, nI (P + k + 1), d.2.2.1, d.2.2.2.1, upd d.2.2.2.2.1 (P + k) ((1 : Int32) + nI (rb s 6)), upd d.2.2.2.2.2.1 (P + k) (-nI 1), upd d.2.2.2.2.2.2.1 (P + k) (-nI 1), upd d.2.2.2.2.2.2.2.1 (P + k) (nI 0), upd d.2.2.2.2.2.2.2.2 (P + k) (nI 0)) (nI (P + 2 + k + 1), upd mr.2 (P + 2 + k) ((1 : Int32) + nI (rb s 6))) := by
      refine ⟨i1, rfl, i3, i4, rfl, ⟨(pk_un (by omega)).trans i6, fun i hi => ?_⟩, (pk_un (by omega)).trans i8, fun i hi => ?_⟩
      · dsimp only [NA]
        rw [pk_un (by omega), pk_un (by omega), pk_un (by omega), pk_un (by omega), pk_un (by omega), pk_un (by omega)]
        exact i7 i hi
      · dsimp only [NA]
        by_cases c : i = k
        · subst c
          rw [pk_us, pk_us, pk_us, pk_us, pk_us, pk_us]
          exact ⟨rfl, rfl, rfl, rfl, rfl⟩
        · rw [pk_un (by omega), pk_un (by omega), pk_un (by omega), pk_un (by omega), pk_un (by omega), pk_un (by omega)]
          exact i9 i (by omega)
    obtain ⟨s2, d2, mr2, hI2, hC, hM⟩ := ih (k + 1) (by omega) fc fm (by omega) (by omega) (nx s) _ _ hI'
    refine ⟨s2, d2, mr2, hI2, fun kx => ?_, fun kx => ?_⟩
    · refine Eq.trans ?_ (hC kx)
      rw [itn_s]
      generalize itn (bd_Dr_redraw_72 kx) fc = rec
      unfold bd_Dr_redraw_72
      dsimp only
      rw [i4, if_neg (nI_ge (by omega) (by omega)), show (6 : Int32) = nI 6 from rfl, x_below s (by omega) (by omega), ob1, x_thing i2 (by omega), ob1, show nI k + 1 = nI (k + 1) from nI_add k 1, i4]
    · refine Eq.trans ?_ (hM kx)
      rw [itn_s]
      generalize itn (bd_Mo_drawRow_63 kx) fm = rec
      unfold bd_Mo_drawRow_63
      dsimp only
      rw [if_neg (nI_ge (by omega) (by omega)), show (6 : Int32) = nI 6 from rfl, m_below s (by omega) (by omega), ob1, m_put i5 (by omega), ob1, show nI k + 1 = nI (k + 1) from nI_add k 1]
theorem j158 {kx rec : Int32 × Int32 × Int32 × Int32 × Int32 × Int64 × MR → Option (Int64 × MR)} {e1 e2 e3 e4 v : Int32} {k n : Nat} {s : Int64} {mr : MR} (h : mr.1 = nI n) (hn : n + 1 < 200) : jn_Mo_drawRow_158 kx rec (e1, e2, e3, e4, nI k, v, s, mr) = rec (e1, e2, e3, e4, nI (k + 1), nx s, (nI (n + 1 + 1), upd (upd mr.2 n v) (n + 1) (if nI (rb s 6) = (0 : Int32) then nI 1 else nI 0))) := by
  unfold jn_Mo_drawRow_158
  dsimp only
  rw [m_put h (by omega), ob1, show (6 : Int32) = nI 6 from rfl, m_below s (by omega) (by omega), ob1, show nI k + 1 = nI (k + 1) from nI_add k 1]
  dsimp only
  by_cases c : nI (rb s 6) = (0 : Int32)
  · rw [if_pos c, if_pos c, m_put (mr := (nI (n + 1), upd mr.2 n v)) rfl (by omega), ob1]; rfl
  · rw [if_neg c, if_neg c, m_put (mr := (nI (n + 1), upd mr.2 n v)) rfl (by omega), ob1]; rfl
theorem simC {sz : Int32} {P G K : Nat} (hP : P ≤ 6) (hG : G ≤ 6) (hK : K ≤ 18) (p0 : 0 < P) (g0 : 0 < G) (e1 e2 : Int32) : ∀ r k, k + r = K → ∀ fc fm, r < fc → r < fm → ∀ s d mr, IC sz P G K k d mr →
    ∃ s' d' mr', IC sz P G K K d' mr' ∧ (∀ kx, itn (bd_Dr_redraw_114 kx) fc (e1, nI K, nI k, s, d) = kx (e1, nI K, nI K, s', d')) ∧ ∀ kx, itn (bd_Mo_drawRow_107 kx) fm (e2, nI P, nI G, nI K, nI k, s, mr) = kx (e2, nI P, nI G, nI K, nI K, s', mr') := by
  intro r
  induction r with
  | zero =>
    intro k e fc fm hfc hfm s d mr hI
    obtain ⟨fc, rfl⟩ : ∃ n, fc = n + 1 := ⟨fc - 1, by omega⟩
    obtain ⟨fm, rfl⟩ : ∃ n, fm = n + 1 := ⟨fm - 1, by omega⟩
    obtain rfl : k = K := by omega
    refine ⟨s, d, mr, hI, fun kx => ?_, fun kx => ?_⟩
    · rw [itn_s]
      unfold bd_Dr_redraw_114
      dsimp only
      rw [if_pos (nI_le (Nat.le_refl _) (by omega))]
    · rw [itn_s]
      unfold bd_Mo_drawRow_107
      dsimp only
      rw [if_pos (nI_le (Nat.le_refl _) (by omega))]
  | succ r ih =>
    intro k e fc fm hfc hfm s d mr hI
    obtain ⟨fc, rfl⟩ : ∃ n, fc = n + 1 := ⟨fc - 1, by omega⟩
    obtain ⟨fm, rfl⟩ : ∃ n, fm = n + 1 := ⟨fm - 1, by omega⟩
    obtain ⟨i1, i2, i3, i4, i5, ⟨i6, i7⟩, ⟨i8, i9⟩, i10', i11⟩ := id hI
    generalize hu : P + G + 3 + 5 * k = u at i5
    have hI' : IC sz P G K (k + 1) (d.1, nI (P + G + k + 1), d.2.2.1, d.2.2.2.1, upd d.2.2.2.2.1 (P + G + k) (ac3 s), upd d.2.2.2.2.2.1 (P + G + k) (ac1 s P), upd d.2.2.2.2.2.2.1 (P + G + k) (ac2 s G), upd d.2.2.2.2.2.2.2.1 (P + G + k) (ac4 s), upd d.2.2.2.2.2.2.2.2 (P + G + k) (ac5 s)) (nI (u + 1 + 1 + 1 + 1 + 1), upd (upd (upd (upd (upd mr.2 u (ac1 s P)) (u + 1) (ac2 s G)) (u + 1 + 1) (ac3 s)) (u + 1 + 1 + 1) (ac4 s)) (u + 1 + 1 + 1 + 1) (ac5 s)) := by
      have old : ∀ j, j < u → upd (upd (upd (upd (upd mr.2 u (ac1 s P)) (u + 1) (ac2 s G)) (u + 1 + 1) (ac3 s)) (u + 1 + 1 + 1) (ac4 s)) (u + 1 + 1 + 1 + 1) (ac5 s) j = mr.2 j := fun j hj => by
        rw [pk_un (by omega), pk_un (by omega), pk_un (by omega), pk_un (by omega), pk_un (by omega)]
      refine ⟨i1, rfl, i3, i4, congrArg nI (by omega), ⟨(old 0 (by omega)).trans i6, fun i hi => ?_⟩, ⟨(old _ (by omega)).trans i8, fun i hi => ?_⟩, (old _ (by omega)).trans i10', fun b hb => ?_⟩
      · dsimp only [NA]
        rw [old _ (by omega), pk_un (by omega), pk_un (by omega), pk_un (by omega), pk_un (by omega), pk_un (by omega)]
        exact i7 i hi
      · dsimp only [NA]
        rw [old _ (by omega), pk_un (by omega), pk_un (by omega), pk_un (by omega), pk_un (by omega), pk_un (by omega)]
        exact i9 i hi
      · dsimp only [AN]
        by_cases c : b = k
        · subst c
          rw [hu, pk_us (k := P + G + b), pk_us (k := P + G + b), pk_us (k := P + G + b), pk_us (k := P + G + b), pk_us (k := P + G + b)]
          refine ⟨⟨?_, ?_, ?_, ?_, ?_⟩, ⟨rb s P, rb_lt s p0, rfl⟩, ⟨rb (nx s) G, rb_lt _ g0, rfl⟩, ac4_b s, ac5_b s⟩
          · rw [pk_un (by omega), pk_un (by omega), pk_un (by omega), pk_un (by omega), pk_us]
          · rw [pk_un (by omega), pk_un (by omega), pk_un (by omega), pk_us]
          · rw [pk_un (by omega), pk_un (by omega)]; exact pk_us
          · rw [pk_un (by omega)]; exact pk_us
          · exact pk_us
        · rw [old _ (by omega), old _ (by omega), old _ (by omega), old _ (by omega), old _ (by omega), pk_un (by omega), pk_un (by omega), pk_un (by omega), pk_un (by omega), pk_un (by omega)]
          exact i11 b (by omega)
    obtain ⟨s2, d2, mr2, hI2, hC, hM⟩ := ih (k + 1) (by omega) fc fm (by omega) (by omega) (acn s) _ _ hI'
    refine ⟨s2, d2, mr2, hI2, fun kx => ?_, fun kx => ?_⟩
    · refine Eq.trans ?_ (hC kx)
      rw [itn_s]
      generalize itn (bd_Dr_redraw_114 kx) fc = rec
      unfold bd_Dr_redraw_114
      dsimp only
      rw [if_neg (nI_ge (by omega) (by omega)), x_addAct s i2 (by omega) i3 i4 p0 g0 hP hG, ob1, show nI k + 1 = nI (k + 1) from nI_add k 1]
    · refine Eq.trans ?_ (hM kx)
      rw [itn_s]
      generalize itn (bd_Mo_drawRow_107 kx) fm = rec
      unfold bd_Mo_drawRow_107
      dsimp only
      rw [if_neg (nI_ge (by omega) (by omega)), m_below s p0 (by omega), ob1, m_put i5 (by omega), ob1, m_below _ g0 (by omega), ob1, m_put (mr := (nI (u + 1), upd mr.2 u (nI (rb s P)))) rfl (by omega), ob1, show (5 : Int32) = nI 5 from rfl, m_below _ (by omega) (by omega), ob1,
        m_put (mr := (nI (u + 1 + 1), upd (upd mr.2 u (nI (rb s P))) (u + 1) (nI (rb (nx s) G)))) rfl (by omega), ob1, show (3 : Int32) = nI 3 from rfl, m_below _ (by omega) (by omega), ob1]
      dsimp only
      rw [show (1 : Int32) = nI 1 from rfl, show (0 : Int32) = nI 0 from rfl, j158 (n := u + 1 + 1 + 1) rfl (by omega), j158 (n := u + 1 + 1 + 1) rfl (by omega)]
      unfold acn ac4 ac5 ac3 ac2 ac1
      by_cases c1 : nI (rb (nx (nx (nx s))) 3) = (2 : Int32)
      · rw [if_pos c1, if_pos c1]; rfl
      · rw [if_neg c1, if_neg c1]; rfl
