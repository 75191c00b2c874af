abbrev UM (md : MD) (b a : Nat) : Prop := md.2.2.2.2.2.2.1 b = md.2.2.2.2.2.2.1 a ∧ md.2.2.2.2.2.2.2.1 b = md.2.2.2.2.2.2.2.1 a ∧ md.2.2.2.2.2.2.2.2.1 b = md.2.2.2.2.2.2.2.2.1 a ∧ ¬ md.2.2.2.2.2.2.2.2.2.1 b = md.2.2.2.2.2.2.2.2.2.1 a
section PG
variable {P G K : Nat} {md : MD} {mo : Nat → Int32} {mp : MP} {kx rec : Int32 × Int32 × Int32 × Int32 × Int32 × MP → Option (Int32 × MP)} {st bm sm sn v w k : Int32}
theorem j323 {a : Nat} (ha : a < 24) : jn_Mo_goThrough_323 md kx rec (st, bm, sm, sn, nI a, v, k, w, mp) = rec (orr (¬ md.2.2.2.2.2.2.2.2.2.2 a = nI 0) (nI 8) st, nI a, sm, sn, nI (a + 1), mp) := by
  unfold jn_Mo_goThrough_323
  dsimp only
  rw [nI_clamp (show a < 2 ^ 31 by omega), if_neg (gdl ha (by omega)), show nI a + 1 = nI (a + 1) from nI_add a 1]
  by_cases c : md.2.2.2.2.2.2.2.2.2.2 a = nI 0
  · rw [orr_f (fun q => q c)]; exact if_pos c
  · rw [orr_t c]; exact if_neg c
theorem j250a {a : Nat} (ha : a < 24) : jn_Mo_goThrough_250 md kx rec (st, -nI 1, sm, sn, nI a, v, k, w, mp) = rec (orr (¬ md.2.2.2.2.2.2.2.2.2.2 a = nI 0) (nI 8) st, nI a, sm, sn, nI (a + 1), mp) := by
  unfold jn_Mo_goThrough_250
  dsimp only
  exact (if_pos (show -nI 1 = (-1 : Int32) from rfl)).trans (j323 ha)
theorem j250b {a b : Nat} (ha : a < 24) (hb : b < 24) : jn_Mo_goThrough_250 md kx rec (st, nI b, sm, sn, nI a, v, k, w, mp) = rec (orr (¬ md.2.2.2.2.2.2.2.2.2.2 a = nI 0) (nI 8) (orr (UM md b a) (nI 4) st), nI a, sm, sn, nI (a + 1), mp) := by
  unfold jn_Mo_goThrough_250
  dsimp only
  have g1 := gdl ha (show 24 < 2 ^ 31 by omega)
  have g2 := gdl hb (show 24 < 2 ^ 31 by omega)
  have g3 : ¬ nI b = -1 := fun q => Eq.mp (n_m1eq (a := b) (by omega)) q
  rw [if_neg g3, nI_clamp (show a < 2 ^ 31 by omega), nI_clamp (show b < 2 ^ 31 by omega), if_neg g2, if_neg g1]
  by_cases c1 : md.2.2.2.2.2.2.1 b = md.2.2.2.2.2.2.1 a
  · rw [if_pos c1, if_neg g2, if_neg g1]
    by_cases c2 : md.2.2.2.2.2.2.2.1 b = md.2.2.2.2.2.2.2.1 a
    · rw [if_pos c2, if_neg g2, if_neg g1]
      by_cases c3 : md.2.2.2.2.2.2.2.2.1 b = md.2.2.2.2.2.2.2.2.1 a
      · rw [if_pos c3, if_neg g2, if_neg g1]
        by_cases c4 : md.2.2.2.2.2.2.2.2.2.1 b = md.2.2.2.2.2.2.2.2.2.1 a
        · rw [if_pos c4, j323 ha, orr_f (c := UM md b a) (fun q => q.2.2.2 c4)]
        · rw [if_neg c4, j323 ha, orr_t (c := UM md b a) ⟨c1, c2, c3, c4⟩]; rfl
      · rw [if_neg c3, j323 ha, orr_f (c := UM md b a) (fun q => c3 q.2.2.1)]
    · rw [if_neg c2, j323 ha, orr_f (c := UM md b a) (fun q => c2 q.2.1)]
  · rw [if_neg c1, j323 ha, orr_f (c := UM md b a) (fun q => c1 q.1)]
theorem j236 {a kk : Nat} (hk : kk < 64) : jn_Mo_goThrough_236 md kx rec (st, bm, sm, sn, nI a, v, nI kk, w, mp) = jn_Mo_goThrough_250 md kx rec (orr (¬ nI 0 ≤ mp.1 kk) (nI 2) st, bm, sm, sn, nI a, v, nI kk, w, mp) := by
  unfold jn_Mo_goThrough_236
  dsimp only
  rw [nI_clamp (show kk < 2 ^ 31 by omega), if_neg (gdl hk (by omega))]
  by_cases c : nI 0 ≤ mp.1 kk
  · rw [orr_f (fun q => q c)]; exact if_pos c
  · rw [orr_t c]; exact if_neg c
theorem j214 {a p : Nat} {x : Int32} (ha : a < 24) (hp : p < 8) (e1 : md.2.2.2.2.2.2.1 a = nI p) : jn_Mo_goThrough_214 md kx rec (st, bm, sm, sn, nI a, v, k, w, nI p, x, mp) = jn_Mo_goThrough_236 md kx rec (orr (¬ w ≤ md.2.2.2.2.1 p) (nI 1) st, bm, sm, sn, nI a, v, k, w, (mp.1, upd mp.2 p x)) := by
  unfold jn_Mo_goThrough_214
  dsimp only
  rw [nI_clamp (show a < 2 ^ 31 by omega), nI_clamp (show p < 2 ^ 31 by omega), if_neg (gdl hp (by omega)), if_neg (gdl ha (by omega)), e1, nI_clamp (show p < 2 ^ 31 by omega), if_neg (gdl hp (by omega))]
  by_cases c : w ≤ md.2.2.2.2.1 p
  · rw [orr_f (fun q => q c)]; exact if_pos c
  · rw [orr_t c]; exact if_neg c
/-- what the goods at a place weigh, in the reference -/
def gsm (G : Nat) (md : MD) (f : Nat → Int32) (p : Nat) : Int32 := sg (fun k => if f (8 * p + k) ≤ nI 0 then nI 0 else f (8 * p + k) * md.2.2.2.2.2.1 k) G
theorem j103 (hb : P ≤ 6 ∧ G ≤ 6 ∧ K ≤ 18) (h : CM P G K md) {a p g : Nat} (ha : a < K) (hp : p < P) (hg : g < G) (e1 : md.2.2.2.2.2.2.1 a = nI p) (e2 : md.2.2.2.2.2.2.2.1 a = nI g) :
    jn_Mo_goThrough_103 md kx rec (st, bm, sm, sn, nI a, v, mp) = jn_Mo_goThrough_214 md kx rec (st, bm, sm + v, sn ||| (nI 1 <<< (nI p &&& nI 31)), nI a, v, nI (8 * p + g), gsm G md (upd mp.1 (8 * p + g) (mp.1 (8 * p + g) + v)) p, nI p, (if gsm G md (upd mp.1 (8 * p + g) (mp.1 (8 * p + g) + v)) p ≤ mp.2 p then mp.2 p else gsm G md (upd mp.1 (8 * p + g) (mp.1 (8 * p + g) + v)) p), (upd mp.1 (8 * p + g) (mp.1 (8 * p + g) + v), mp.2)) := by
  obtain ⟨a1, a2, a3⟩ := id hb
  have g1 := gdl (show a < 24 by omega) (show 24 < 2 ^ 31 by omega)
  have gk : ¬ (nI (8 * p + g) < 0 ∨ 64 ≤ 8 * p + g) := gdl (by omega) (by omega)
  have gp : ¬ (nI p < 0 ∨ 8 ≤ p) := gdl (by omega) (by omega)
  have hix : (8 : Int32) * nI p + nI g = nI (8 * p + g) := by rw [n_lit, pk_mul, nI_add]
  unfold jn_Mo_goThrough_103
  dsimp only
  rw [nI_clamp (show a < 2 ^ 31 by omega), e1, e2, hix, nI_clamp (show 8 * p + g < 2 ^ 31 by omega), nI_clamp (show p < 2 ^ 31 by omega), if_neg g1, if_neg g1, if_neg gk, if_neg gk, if_neg g1, if_neg g1, m_grams hb h hp, ob1, if_neg g1, if_neg g1, if_neg gp]
  show (if gsm G md (upd mp.1 (8 * p + g) (mp.1 (8 * p + g) + v)) p ≤ mp.2 p then _ else _) = _
  by_cases c : gsm G md (upd mp.1 (8 * p + g) (mp.1 (8 * p + g) + v)) p ≤ mp.2 p
  · rw [if_pos c, if_pos c, if_neg g1, if_neg gp]; rfl
  · rw [if_neg c, if_neg c]; rfl
def vom (md : MD) (a : Nat) : Int32 := if md.2.2.2.2.2.2.2.2.2.1 a = nI 0 then md.2.2.2.2.2.2.2.2.1 a else -(md.2.2.2.2.2.2.2.2.1 a)
theorem m_act (hb : P ≤ 6 ∧ G ≤ 6 ∧ K ≤ 18) (h : CM P G K md) {a p g : Nat} (ha : a < K) (hp : p < P) (hg : g < G) (e1 : md.2.2.2.2.2.2.1 a = nI p) (e2 : md.2.2.2.2.2.2.2.1 a = nI g) (c1 : mo (P + G + a) = nI 0) (c2 : mo p = nI 0) (c3 : mo (P + g) = nI 0) :
    bd_Mo_goThrough_54 mo md kx rec (st, bm, sm, sn, nI a, mp) = jn_Mo_goThrough_103 md kx rec (st, bm, sm, sn, nI a, vom md a, mp) := by
  obtain ⟨a1, a2, a3⟩ := id hb
  have g1 := gdl (show a < 24 by omega) (show 24 < 2 ^ 31 by omega)
  unfold bd_Mo_goThrough_54
  dsimp only
  rw [h.2.2.2, if_neg (nI_ge ha (by omega)), m_cnt hb h ha hp hg e1 e2, ob1, if_pos c1, if_pos c2, if_pos c3, i10, nI_clamp (show a < 2 ^ 31 by omega), if_neg g1]
  by_cases c : md.2.2.2.2.2.2.2.2.2.1 a = nI 0
  · rw [show vom md a = md.2.2.2.2.2.2.2.2.1 a from if_pos c]; exact (if_pos c).trans (if_neg g1)
  · rw [show vom md a = -(md.2.2.2.2.2.2.2.2.1 a) from if_neg c]; exact (if_neg c).trans (if_neg g1)
theorem m_skip (hb : P ≤ 6 ∧ G ≤ 6 ∧ K ≤ 18) (h : CM P G K md) {a p g : Nat} (ha : a < K) (hp : p < P) (hg : g < G) (e1 : md.2.2.2.2.2.2.1 a = nI p) (e2 : md.2.2.2.2.2.2.2.1 a = nI g) (c : ¬ (mo (P + G + a) = nI 0 ∧ mo p = nI 0 ∧ mo (P + g) = nI 0)) :
    bd_Mo_goThrough_54 mo md kx rec (st, bm, sm, sn, nI a, mp) = rec (st, bm, sm, sn, nI (a + 1), mp) := by
  obtain ⟨a1, a2, a3⟩ := id hb
  unfold bd_Mo_goThrough_54
  dsimp only
  have hc : (if mo (P + G + a) = nI 0 then if mo p = nI 0 then if mo (P + g) = nI 0 then nI 1 else nI 0 else nI 0 else nI 0) = nI 0 := by
    by_cases c1 : mo (P + G + a) = nI 0
    · rw [if_pos c1]
      by_cases c2 : mo p = nI 0
      · rw [if_pos c2, if_neg (fun c3 => c ⟨c1, c2, c3⟩)]
      · rw [if_neg c2]
    · rw [if_neg c1]
  rw [h.2.2.2, if_neg (nI_ge ha (by omega)), m_cnt hb h ha hp hg e1 e2, ob1, hc, i00, show nI a + 1 = nI (a + 1) from nI_add a 1]
end PG
