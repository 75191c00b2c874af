theorem dr_tA {n P : Nat} (d : DD) (mr : MR) : IA (nI n) P 0 (nI n, nI 0, nI P, d.2.2.2.1, d.2.2.2.2.1, d.2.2.2.2.2.1, d.2.2.2.2.2.2.1, d.2.2.2.2.2.2.2.1, d.2.2.2.2.2.2.2.2) (nI (0 + 1), upd mr.2 0 (nI P)) :=
  ⟨rfl, rfl, rfl, rfl, (show upd mr.2 0 (nI P) 0 = nI P from pk_us), fun i hi => absurd hi (Nat.not_lt_zero i)⟩
theorem dr_tB {n P G : Nat} {d1 : DD} {mr1 : MR} (h : IA (nI n) P P d1 mr1) : IB (nI n) P G 0 (nI n, d1.2.1, d1.2.2.1, nI G, d1.2.2.2.2.1, d1.2.2.2.2.2.1, d1.2.2.2.2.2.2.1, d1.2.2.2.2.2.2.2.1, d1.2.2.2.2.2.2.2.2) (nI (1 + P + 1), upd mr1.2 (1 + P) (nI G)) := by
  obtain ⟨a1, a2, a3, a4, a5, a6⟩ := h
  exact ⟨rfl, a2, a3, rfl, congrArg nI (by omega), ⟨(pk_un (by omega)).trans a5, fun i hi => ⟨(pk_un (by omega)).trans (a6 i hi).1, (a6 i hi).2⟩⟩, by rw [show P + 1 = 1 + P by omega]; exact pk_us, fun i hi => absurd hi (Nat.not_lt_zero i)⟩
theorem dr_tC {n P G K : Nat} {d2 : DD} {mr2 : MR} (h : IB (nI n) P G G d2 mr2) : IC (nI n) P G K 0 d2 (nI (P + 2 + G + 1), upd mr2.2 (P + 2 + G) (nI K)) := by
  obtain ⟨b1, b2, b3, b4, b5, ⟨b6, b7⟩, b8, b9⟩ := h
  exact ⟨b1, b2, b3, b4, congrArg nI (by omega), ⟨(pk_un (by omega)).trans b6, fun i hi => ⟨(pk_un (by omega)).trans (b7 i hi).1, (b7 i hi).2⟩⟩, ⟨(pk_un (by omega)).trans b8, fun i hi => ⟨(pk_un (by omega)).trans (b9 i hi).1, (b9 i hi).2⟩⟩, by rw [show P + G + 2 = P + 2 + G by omega]; exact pk_us, fun i hi => absurd hi (Nat.not_lt_zero i)⟩
theorem dr_A {n P : Nat} (hP : P ≤ 6) (s : Int64) (d : DD) (mr : MR) : ∃ s1 d1 mr1, IA (nI n) P P d1 mr1 ∧ (∀ kx, itn (bd_Dr_redraw_28 kx) 70 (nI n, nI 0, s, (nI n, nI 0, nI P, d.2.2.2.1, d.2.2.2.2.1, d.2.2.2.2.2.1, d.2.2.2.2.2.2.1, d.2.2.2.2.2.2.2.1, d.2.2.2.2.2.2.2.2)) = kx (nI n, nI P, s1, d1)) ∧ ∀ kx, itn (bd_Mo_drawRow_22 kx) 70 (nI n, nI P, nI 0, s, (nI (0 + 1), upd mr.2 0 (nI P))) = kx (nI n, nI P, nI P, s1, mr1) :=
  simA (sz := nI n) (P := P) hP (nI n) (nI n) P 0 (Nat.zero_add P) 70 70 (by omega) (by omega) s _ _ (dr_tA d mr)
theorem dr_B {n P G : Nat} (hP : P ≤ 6) (hG : G ≤ 6) (s : Int64) {d1 : DD} {mr1 : MR} (h : IA (nI n) P P d1 mr1) : ∃ s2 d2 mr2, IB (nI n) P G G d2 mr2 ∧ (∀ kx, itn (bd_Dr_redraw_72 kx) 70 (nI n, nI 0, s, (nI n, d1.2.1, d1.2.2.1, nI G, d1.2.2.2.2.1, d1.2.2.2.2.2.1, d1.2.2.2.2.2.2.1, d1.2.2.2.2.2.2.2.1, d1.2.2.2.2.2.2.2.2)) = kx (nI n, nI G, s2, d2)) ∧ ∀ kx, itn (bd_Mo_drawRow_63 kx) 70 (nI n, nI P, nI G, nI 0, s, (nI (1 + P + 1), upd mr1.2 (1 + P) (nI G))) = kx (nI n, nI P, nI G, nI G, s2, mr2) :=
  simB (sz := nI n) (P := P) (G := G) hP hG (nI n) (nI n) (nI P) G 0 (Nat.zero_add G) 70 70 (by omega) (by omega) s _ _ (dr_tB h)
theorem dr_C {n P G K : Nat} (hP : P ≤ 6) (hG : G ≤ 6) (hK : K ≤ 18) (p0 : 0 < P) (g0 : 0 < G) (s : Int64) {d2 : DD} {mr2 : MR} (h : IB (nI n) P G G d2 mr2) : ∃ s3 d3 mr3, IC (nI n) P G K K d3 mr3 ∧ (∀ kx, itn (bd_Dr_redraw_114 kx) 70 (nI n, nI K, nI 0, s, d2) = kx (nI n, nI K, nI K, s3, d3)) ∧ ∀ kx, itn (bd_Mo_drawRow_107 kx) 70 (nI n, nI P, nI G, nI K, nI 0, s, (nI (P + 2 + G + 1), upd mr2.2 (P + 2 + G) (nI K))) = kx (nI n, nI P, nI G, nI K, nI K, s3, mr3) :=
  simC (sz := nI n) (P := P) (G := G) (K := K) hP hG hK p0 g0 (nI n) (nI n) K 0 (Nat.zero_add K) 70 70 (by omega) (by omega) s _ _ (dr_tC h)
theorem dr_c {n P G K : Nat} {s s1 s2 s3 : Int64} {d d1 d2 d3 : DD} (hn : n ≤ 5) (hP : 1 + rb s (n + 1) = P) (hG : 1 + rb s1 (n + 1) = G) (hK : 3 * n + rb s2 4 = K) (a1 : d1.1 = nI n) (b1 : d2.1 = nI n)
    (hC1 : ∀ kx, itn (bd_Dr_redraw_28 kx) 70 (nI n, nI 0, nx s, (nI n, nI 0, nI P, d.2.2.2.1, d.2.2.2.2.1, d.2.2.2.2.2.1, d.2.2.2.2.2.2.1, d.2.2.2.2.2.2.2.1, d.2.2.2.2.2.2.2.2)) = kx (nI n, nI P, s1, d1)) (hC2 : ∀ kx, itn (bd_Dr_redraw_72 kx) 70 (nI n, nI 0, nx s1, (nI n, d1.2.1, d1.2.2.1, nI G, d1.2.2.2.2.1, d1.2.2.2.2.2.1, d1.2.2.2.2.2.2.1, d1.2.2.2.2.2.2.2.1, d1.2.2.2.2.2.2.2.2)) = kx (nI n, nI G, s2, d2))
    (hC3 : ∀ kx, itn (bd_Dr_redraw_114 kx) 70 (nI n, nI K, nI 0, nx s2, d2) = kx (nI n, nI K, nI K, s3, d3)) : f_Dr_redraw s d (nI n) = some (s3, d3) := by
  have q1 : nI 1 + nI (rb s (n + 1)) = nI P := by rw [nI_add, hP]
  have q2 : nI 1 + nI (rb s1 (n + 1)) = nI G := by rw [nI_add, hG]
  have q3 : nI 3 * nI n + nI (rb s2 4) = nI K := by rw [pk_mul, nI_add, hK]
  have q4 : nI n + nI 1 = nI (n + 1) := nI_add n 1
  unfold f_Dr_redraw
  simp only [n_lit]
  rw [q4, x_below s (by omega) (by omega), ob1]
  dsimp only
  rw [q1, hC1]
  dsimp only
  rw [a1, q4, x_below s1 (by omega) (by omega), ob1]
  dsimp only
  rw [q2, hC2]
  dsimp only
  rw [x_below s2 (by omega) (by omega), ob1]
  dsimp only
  rw [b1, q3, hC3]
theorem dr_m {n P G K : Nat} {s s1 s2 s3 : Int64} {mr mr1 mr2 mr3 : MR} (hn : n ≤ 5) (hP : 1 + rb s (n + 1) = P) (hG : 1 + rb s1 (n + 1) = G) (hK : 3 * n + rb s2 4 = K) (hp : P ≤ 6) (hg : G ≤ 6) (a4 : mr1.1 = nI (1 + P)) (b5 : mr2.1 = nI (P + 2 + G))
    (hM1 : ∀ kx, itn (bd_Mo_drawRow_22 kx) 70 (nI n, nI P, nI 0, nx s, (nI (0 + 1), upd mr.2 0 (nI P))) = kx (nI n, nI P, nI P, s1, mr1)) (hM2 : ∀ kx, itn (bd_Mo_drawRow_63 kx) 70 (nI n, nI P, nI G, nI 0, nx s1, (nI (1 + P + 1), upd mr1.2 (1 + P) (nI G))) = kx (nI n, nI P, nI G, nI G, s2, mr2))
    (hM3 : ∀ kx, itn (bd_Mo_drawRow_107 kx) 70 (nI n, nI P, nI G, nI K, nI 0, nx s2, (nI (P + 2 + G + 1), upd mr2.2 (P + 2 + G) (nI K))) = kx (nI n, nI P, nI G, nI K, nI K, s3, mr3)) : f_Mo_drawRow s mr (nI n) = some (s3, mr3) := by
  have q1 : nI 1 + nI (rb s (n + 1)) = nI P := by rw [nI_add, hP]
  have q2 : nI 1 + nI (rb s1 (n + 1)) = nI G := by rw [nI_add, hG]
  have q3 : nI 3 * nI n + nI (rb s2 4) = nI K := by rw [pk_mul, nI_add, hK]
  have q4 : nI n + nI 1 = nI (n + 1) := nI_add n 1
  unfold f_Mo_drawRow
  simp only [n_lit]
  rw [q4, m_below s (by omega) (by omega), ob1]
  dsimp only
  rw [q1, m_put (mr := (nI 0, mr.2)) (n := 0) rfl (by omega), ob1]
  dsimp only
  rw [hM1]
  dsimp only
  rw [q4, m_below s1 (by omega) (by omega), ob1]
  dsimp only
  rw [q2, m_put a4 (by omega), ob1, hM2]
  dsimp only
  rw [m_below s2 (by omega) (by omega), ob1]
  dsimp only
  rw [q3, m_put b5 (by omega), ob1, hM3]
theorem draw_row {n : Nat} (hn : n ≤ 5) (s : Int64) (d : DD) (mr : MR) : ∃ P G K s' d' mr', 0 < P ∧ 0 < G ∧ (P ≤ 6 ∧ G ≤ 6 ∧ K ≤ 18) ∧ IC (nI n) P G K K d' mr' ∧ f_Dr_redraw s d (nI n) = some (s', d') ∧ f_Mo_drawRow s mr (nI n) = some (s', mr') := by
  have hr1 := rb_lt s (n := n + 1) (Nat.succ_pos n)
  obtain ⟨P, hP⟩ : ∃ P, 1 + rb s (n + 1) = P := ⟨_, rfl⟩
  have p1 : P ≤ 6 := by omega
  obtain ⟨s1, d1, mr1, hA, hC1, hM1⟩ := dr_A (n := n) p1 (nx s) d mr
  have hr2 := rb_lt s1 (n := n + 1) (Nat.succ_pos n)
  obtain ⟨G, hG⟩ : ∃ G, 1 + rb s1 (n + 1) = G := ⟨_, rfl⟩
  have g1 : G ≤ 6 := by omega
  obtain ⟨s2, d2, mr2, hB, hC2, hM2⟩ := dr_B p1 g1 (nx s1) hA
  have hr3 := rb_lt s2 (n := 4) (Nat.succ_pos 3)
  obtain ⟨K, hK⟩ : ∃ K, 3 * n + rb s2 4 = K := ⟨_, rfl⟩
  have k1 : K ≤ 18 := by omega
  have p0 : 0 < P := by omega
  have g0 : 0 < G := by omega
  obtain ⟨s3, d3, mr3, hI, hC3, hM3⟩ := dr_C p1 g1 k1 p0 g0 (nx s2) hB
  exact ⟨P, G, K, s3, d3, mr3, p0, g0, ⟨p1, g1, k1⟩, hI, dr_c hn hP hG hK hA.1 hB.1 hC1 hC2 hC3, dr_m hn hP hG hK p1 g1 hA.2.2.2.1 hB.2.2.2.2.1 hM1 hM2 hM3⟩
/-- the first k cells are those of another -/
def cp (k : Nat) (g f : Nat → Int32) : Nat → Int32 := fun j => if j < k then g j else f j
theorem cp_up (k : Nat) (g f : Nat → Int32) : upd (cp k g f) k (g k) = cp (k + 1) g f := by
  funext j
  unfold upd cp
  by_cases h : j = k
  · subst h; rw [if_pos rfl, if_pos (by omega)]
  · rw [if_neg h]
    by_cases h2 : j < k
    · rw [if_pos h2, if_pos (by omega)]
    · rw [if_neg h2, if_neg (by omega)]
theorem cp_0 (g f : Nat → Int32) : cp 0 g f = f := funext fun j => if_neg (Nat.not_lt_zero j)
theorem cp_in {k j : Nat} {g f : Nat → Int32} (h : j < k) : cp k g f j = g j := if_pos h
section PM
variable {e c z : Int32} {u : Int64} {mo : Nat → Int32} {md : MD} {mr : MR} {P G K B : Nat} {kx : Int32 × Int32 × Int32 × Int32 × Int64 × Int32 × ((Nat → Int32)) × MD × MR → Option (Int32 × Int32 × Int64 × Int32 × ((Nat → Int32)) × MD × MR)}
theorem l51 (hP : md.2.1 = nI P) (h6 : P ≤ 6) : itn (bd_Mo_draw_51 kx) 70 (e, 1, 0, c, u, z, mo, md, mr) = kx (e, nI 1, nI P, c, u, z, mo, (md.1, md.2.1, md.2.2.1, md.2.2.2.1, cp P (fun j => mr.2 (1 + j)) md.2.2.2.2.1, md.2.2.2.2.2.1, md.2.2.2.2.2.2.1, md.2.2.2.2.2.2.2.1, md.2.2.2.2.2.2.2.2.1, md.2.2.2.2.2.2.2.2.2.1, md.2.2.2.2.2.2.2.2.2.2), mr) := by
  have h := itn_go (F := bd_Mo_draw_51 kx) (fun k => (e, nI 1, nI k, c, u, z, mo, (md.1, md.2.1, md.2.2.1, md.2.2.2.1, cp k (fun j => mr.2 (1 + j)) md.2.2.2.2.1, md.2.2.2.2.2.1, md.2.2.2.2.2.2.1, md.2.2.2.2.2.2.2.1, md.2.2.2.2.2.2.2.2.1, md.2.2.2.2.2.2.2.2.2.1, md.2.2.2.2.2.2.2.2.2.2), mr)) P (out := kx (e, nI 1, nI P, c, u, z, mo, (md.1, md.2.1, md.2.2.1, md.2.2.2.1, cp P (fun j => mr.2 (1 + j)) md.2.2.2.2.1, md.2.2.2.2.2.1, md.2.2.2.2.2.2.1, md.2.2.2.2.2.2.2.1, md.2.2.2.2.2.2.2.2.1, md.2.2.2.2.2.2.2.2.2.1, md.2.2.2.2.2.2.2.2.2.2), mr)) (fun rec => by
    unfold bd_Mo_draw_51
    dsimp only
    rw [hP, if_pos (nI_le (Nat.le_refl _) (by omega))]) (fun k hk rec => by
    unfold bd_Mo_draw_51
    dsimp only
    rw [hP, if_neg (nI_ge hk (by omega)), nI_add, nI_clamp (show 1 + k < 2 ^ 31 by omega), nI_clamp (show k < 2 ^ 31 by omega), if_neg (gdl (by omega) (by omega)), if_neg (gdl (by omega) (by omega)), cp_up k (fun j => mr.2 (1 + j)), show nI k + 1 = nI (k + 1) from nI_add k 1]) 70 0 (by omega) (by omega)
  simp only [cp_0] at h
  exact h
theorem l98 (hG : md.2.2.1 = nI G) (h6 : P ≤ 6) (h7 : G ≤ 6) : itn (bd_Mo_draw_98 kx) 70 (e, nI (1 + P), 0, c, u, z, mo, md, mr) = kx (e, nI (1 + P), nI G, c, u, z, mo, (md.1, md.2.1, md.2.2.1, md.2.2.2.1, md.2.2.2.2.1, cp G (fun j => mr.2 (1 + P + 1 + j)) md.2.2.2.2.2.1, md.2.2.2.2.2.2.1, md.2.2.2.2.2.2.2.1, md.2.2.2.2.2.2.2.2.1, md.2.2.2.2.2.2.2.2.2.1, md.2.2.2.2.2.2.2.2.2.2), mr) := by
  have h := itn_go (F := bd_Mo_draw_98 kx) (fun k => (e, nI (1 + P), nI k, c, u, z, mo, (md.1, md.2.1, md.2.2.1, md.2.2.2.1, md.2.2.2.2.1, cp k (fun j => mr.2 (1 + P + 1 + j)) md.2.2.2.2.2.1, md.2.2.2.2.2.2.1, md.2.2.2.2.2.2.2.1, md.2.2.2.2.2.2.2.2.1, md.2.2.2.2.2.2.2.2.2.1, md.2.2.2.2.2.2.2.2.2.2), mr)) G (out := kx (e, nI (1 + P), nI G, c, u, z, mo, (md.1, md.2.1, md.2.2.1, md.2.2.2.1, md.2.2.2.2.1, cp G (fun j => mr.2 (1 + P + 1 + j)) md.2.2.2.2.2.1, md.2.2.2.2.2.2.1, md.2.2.2.2.2.2.2.1, md.2.2.2.2.2.2.2.2.1, md.2.2.2.2.2.2.2.2.2.1, md.2.2.2.2.2.2.2.2.2.2), mr)) (fun rec => by
    unfold bd_Mo_draw_98
    dsimp only
    rw [hG, if_pos (nI_le (Nat.le_refl _) (by omega))]) (fun k hk rec => by
    unfold bd_Mo_draw_98
    dsimp only
    rw [hG, if_neg (nI_ge hk (by omega)), show nI (1 + P) + (1 : Int32) = nI (1 + P + 1) from nI_add _ 1, nI_add, nI_clamp (show 1 + P + 1 + k < 2 ^ 31 by omega), nI_clamp (show k < 2 ^ 31 by omega), if_neg (gdl (by omega) (by omega)), if_neg (gdl (by omega) (by omega)), cp_up k (fun j => mr.2 (1 + P + 1 + j)), show nI k + 1 = nI (k + 1) from nI_add k 1]) 70 0 (by omega) (by omega)
  simp only [cp_0] at h
  exact h
theorem bz {x : Int32} (h : x = nI 0 ∨ x = nI 1) : (if x = (1 : Int32) then nI 1 else nI 0) = x := by
  rcases h with rfl | rfl <;> decide
theorem j222 {rec : Int32 × Int32 × Int32 × Int32 × Int64 × Int32 × ((Nat → Int32)) × MD × MR → Option (Int32 × Int32 × Int64 × Int32 × ((Nat → Int32)) × MD × MR)} {i k : Nat} {v : Int32} (hk : k < 24) (hi : i + 4 < 200) (hv : v = nI 0 ∨ v = nI 1) (h4 : mr.2 (i + 4) = nI 0 ∨ mr.2 (i + 4) = nI 1) :
    jn_Mo_draw_222 kx rec (e, nI i, nI k, nI k, v, c, u, z, mo, md, mr) = rec (e, nI (i + 5), nI (k + 1), c, u, z, mo, (md.1, md.2.1, md.2.2.1, md.2.2.2.1, md.2.2.2.2.1, md.2.2.2.2.2.1, md.2.2.2.2.2.2.1, md.2.2.2.2.2.2.2.1, md.2.2.2.2.2.2.2.2.1, upd md.2.2.2.2.2.2.2.2.2.1 k v, upd md.2.2.2.2.2.2.2.2.2.2 k (mr.2 (i + 4))), mr) := by
  have nv : vp_nar .boolean v = v := by rcases hv with rfl | rfl <;> decide
  have gk := gdl hk (show 24 < 2 ^ 31 by omega)
  have gi := gdl hi (show 200 < 2 ^ 31 by omega)
  unfold jn_Mo_draw_222
  dsimp only
  rw [show nI i + (4 : Int32) = nI (i + 4) from nI_add i 4, show nI i + 5 = nI (i + 5) from nI_add i 5, show nI k + 1 = nI (k + 1) from nI_add k 1, nI_clamp (show k < 2 ^ 31 by omega), nI_clamp (show i + 4 < 2 ^ 31 by omega), if_neg gk, if_neg gi, if_neg gk, if_neg gk, nv]
  rcases h4 with h4 | h4
  · rw [h4]; exact if_neg (by decide)
  · rw [h4]; exact if_pos rfl
theorem l152 (hK : md.2.2.2.1 = nI K) (h18 : K ≤ 18) (hB : B ≤ 15) (h3 : ∀ b, b < K → (mr.2 (B + 5 * b + 3) = nI 0 ∨ mr.2 (B + 5 * b + 3) = nI 1) ∧ (mr.2 (B + 5 * b + 4) = nI 0 ∨ mr.2 (B + 5 * b + 4) = nI 1)) :
    itn (bd_Mo_draw_152 kx) 70 (e, nI B, 0, c, u, z, mo, md, mr) = kx (e, nI (B + 5 * K), nI K, c, u, z, mo, (md.1, md.2.1, md.2.2.1, md.2.2.2.1, md.2.2.2.2.1, md.2.2.2.2.2.1, cp K (fun b => mr.2 (B + 5 * b + 0)) md.2.2.2.2.2.2.1, cp K (fun b => mr.2 (B + 5 * b + 1)) md.2.2.2.2.2.2.2.1, cp K (fun b => mr.2 (B + 5 * b + 2)) md.2.2.2.2.2.2.2.2.1, cp K (fun b => mr.2 (B + 5 * b + 3)) md.2.2.2.2.2.2.2.2.2.1, cp K (fun b => mr.2 (B + 5 * b + 4)) md.2.2.2.2.2.2.2.2.2.2), mr) := by
  have h := itn_go (F := bd_Mo_draw_152 kx) (fun k => (e, nI (B + 5 * k), nI k, c, u, z, mo, (md.1, md.2.1, md.2.2.1, md.2.2.2.1, md.2.2.2.2.1, md.2.2.2.2.2.1, cp k (fun b => mr.2 (B + 5 * b + 0)) md.2.2.2.2.2.2.1, cp k (fun b => mr.2 (B + 5 * b + 1)) md.2.2.2.2.2.2.2.1, cp k (fun b => mr.2 (B + 5 * b + 2)) md.2.2.2.2.2.2.2.2.1, cp k (fun b => mr.2 (B + 5 * b + 3)) md.2.2.2.2.2.2.2.2.2.1, cp k (fun b => mr.2 (B + 5 * b + 4)) md.2.2.2.2.2.2.2.2.2.2), mr)) K (out := kx (e, nI (B + 5 * K), nI K, c, u, z, mo, (md.1, md.2.1, md.2.2.1, md.2.2.2.1, md.2.2.2.2.1, md.2.2.2.2.2.1, cp K (fun b => mr.2 (B + 5 * b + 0)) md.2.2.2.2.2.2.1, cp K (fun b => mr.2 (B + 5 * b + 1)) md.2.2.2.2.2.2.2.1, cp K (fun b => mr.2 (B + 5 * b + 2)) md.2.2.2.2.2.2.2.2.1, cp K (fun b => mr.2 (B + 5 * b + 3)) md.2.2.2.2.2.2.2.2.2.1, cp K (fun b => mr.2 (B + 5 * b + 4)) md.2.2.2.2.2.2.2.2.2.2), mr)) (fun rec => by
    unfold bd_Mo_draw_152
    dsimp only
    rw [hK, if_pos (nI_le (Nat.le_refl _) (by omega))]) (fun k hk rec => by
    have gk := gdl (show k < 24 by omega) (show 24 < 2 ^ 31 by omega)
    have g0 := gdl (show B + 5 * k < 200 by omega) (show 200 < 2 ^ 31 by omega)
    have g1 := gdl (show B + 5 * k + 1 < 200 by omega) (show 200 < 2 ^ 31 by omega)
    have g2 := gdl (show B + 5 * k + 2 < 200 by omega) (show 200 < 2 ^ 31 by omega)
    have g3 := gdl (show B + 5 * k + 3 < 200 by omega) (show 200 < 2 ^ 31 by omega)
    unfold bd_Mo_draw_152
    dsimp only
    rw [hK, if_neg (nI_ge hk (by omega)), show nI (B + 5 * k) + (1 : Int32) = nI (B + 5 * k + 1) from nI_add _ 1, show nI (B + 5 * k) + (2 : Int32) = nI (B + 5 * k + 2) from nI_add _ 2, show nI (B + 5 * k) + (3 : Int32) = nI (B + 5 * k + 3) from nI_add _ 3,
      nI_clamp (show k < 2 ^ 31 by omega), nI_clamp (show B + 5 * k < 2 ^ 31 by omega), nI_clamp (show B + 5 * k + 1 < 2 ^ 31 by omega), nI_clamp (show B + 5 * k + 2 < 2 ^ 31 by omega), nI_clamp (show B + 5 * k + 3 < 2 ^ 31 by omega), if_neg g0, if_neg gk, if_neg g1, if_neg gk, if_neg g2, if_neg gk, if_neg g3,
      j222 (v := 1) (by omega) (by omega) (Or.inr rfl) (h3 k hk).2, j222 (v := 0) (by omega) (by omega) (Or.inl rfl) (h3 k hk).2]
    dsimp only
    have e5 : B + 5 * k + 5 = B + 5 * (k + 1) := by omega
    rw [e5, ← cp_up k (fun b => mr.2 (B + 5 * b + 0)), ← cp_up k (fun b => mr.2 (B + 5 * b + 1)), ← cp_up k (fun b => mr.2 (B + 5 * b + 2)), ← cp_up k (fun b => mr.2 (B + 5 * b + 3)), ← cp_up k (fun b => mr.2 (B + 5 * b + 4))]
    rcases (h3 k hk).1 with h9 | h9
    · rw [h9]; exact if_neg (by decide)
    · rw [h9]; exact if_pos rfl) 70 0 (by omega) (by omega)
  simp only [cp_0] at h
  exact h
theorem l275 {N : Nat} (hN : md.1 = nI N) (h30 : N ≤ 30) {i : Int32} : itn (bd_Mo_draw_275 kx) 70 (e, i, 0, c, u, z, mo, md, mr) = kx (e, i, nI N, c, u, z, zf N mo, md, mr) := by
  have h := itn_go (F := bd_Mo_draw_275 kx) (fun k => (e, i, nI k, c, u, z, zf k mo, md, mr)) N (out := kx (e, i, nI N, c, u, z, zf N mo, md, mr)) (fun rec => by
    unfold bd_Mo_draw_275
    dsimp only
    rw [hN, if_pos (nI_le (Nat.le_refl _) (by omega))]) (fun k hk rec => by
    unfold bd_Mo_draw_275
    dsimp only
    rw [hN, if_neg (nI_ge hk (by omega)), nI_clamp (show k < 2 ^ 31 by omega), if_neg (gdl (by omega) (by omega)), show vp_nar .boolean (0 : Int32) = nI 0 from nar0, zf_up, show nI k + 1 = nI (k + 1) from nI_add k 1]) 70 0 (by omega) (by omega)
  simp only [zf_0] at h
  exact h
end PM
