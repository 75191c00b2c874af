/-! the source -/
def nx (s : Int64) : Int64 := (s * (6364136223846793005 : Int64)) + (1442695040888963407 : Int64)
def rb (s : Int64) (n : Nat) : Nat := ((nx s).toBitVec.toNat / 2 ^ 33) % n
theorem rb_lt (s : Int64) {n : Nat} (h : 0 < n) : rb s n < n := Nat.mod_lt _ h
theorem l_div {a d : Nat} (ha : a < 2 ^ 31) (h0 : 0 < d) (hd : d < 2 ^ 31) : lN a / lN d = lN (a / d) := by
  apply Int64.toInt_inj.mp
  have h1 : a / d ≤ a := Nat.div_le_self a d
  rw [lg_ldiv_nonneg (by rw [lN_toInt ha]; omega) (by rw [lN_toInt hd]; omega), lN_toInt ha, lN_toInt hd, lN_toInt (by omega)]
  first | rfl | exact (Int.natCast_ediv _ _).symm
theorem l_rem {a d : Nat} (ha : a < 2 ^ 31) (h0 : 0 < d) (hd : d < 2 ^ 31) : lN a - lN a / lN d * lN d = lN (a % d) := by
  rw [l_div ha h0 hd, lN_mul, lN_sub (Nat.div_mul_le_self a d)]
  exact congrArg lN (by have := Nat.div_add_mod' a d; omega)
theorem rb_val (s : Int64) {n : Nat} (h0 : 0 < n) (hn : n < 2 ^ 31) : (((nx s).toUInt64 >>> ((33 : Int32).toInt64.toUInt64 &&& Int64.toUInt64 63)).toInt64 - ((nx s).toUInt64 >>> ((33 : Int32).toInt64.toUInt64 &&& Int64.toUInt64 63)).toInt64 / (nI n).toInt64 * (nI n).toInt64).toInt32 = nI (rb s n) := by
  have hm : (nx s).toBitVec.toNat < 2 ^ 64 := (nx s).toBitVec.isLt
  have e : nx s = lN (nx s).toBitVec.toNat := wb_inj (by rw [wb_tb]; simp)
  have h := wb_shr (n := (nx s).toBitVec.toNat) (k := 33) hm (by omega)
  rw [← e] at h
  have h2 : (nx s).toBitVec.toNat / 2 ^ 33 < 2 ^ 31 := by omega
  rw [show (33 : Int32) = nI 33 from rfl, h, nI_l hn, l_rem h2 h0 hn, lN_i]
  rfl
theorem nz64 {n : Nat} (h0 : 0 < n) (hn : n < 2 ^ 31) : ¬ (nI n).toInt64 = 0 := by
  rw [nI_l hn, show (0 : Int64) = lN 0 from rfl, lN_eq hn (by omega)]; omega
theorem x_below (s : Int64) {n : Nat} (h0 : 0 < n) (hn : n < 2 ^ 31) : f_So_below s (nI n) = some (nI (rb s n), nx s) := by
  unfold f_So_below
  rw [if_pos (show (1 : Int32) ≤ nI n from (nI_leI (a := 1) (by omega) hn).mpr h0), if_neg (nz64 h0 hn)]
  exact congrArg (fun q => some (q, nx s)) (rb_val s h0 hn)
theorem m_below (s : Int64) {n : Nat} (h0 : 0 < n) (hn : n < 2 ^ 31) : f_Mo_below s (nI n) = some (nI (rb s n), nx s) := by
  unfold f_Mo_below
  rw [if_neg (nz64 h0 hn)]
  exact congrArg (fun q => some (q, nx s)) (rb_val s h0 hn)
theorem m_put {mr : MR} {n : Nat} (h : mr.1 = nI n) (hn : n < 200) (v : Int32) : f_Mo_put mr v = some (nI (n + 1), upd mr.2 n v) := by
  unfold f_Mo_put
  rw [h, nI_clamp (show n < 2 ^ 31 by omega), if_neg (gdl hn (by omega)), show nI n + 1 = nI (n + 1) from nI_add n 1]
theorem x_add {d : DD} {n : Nat} (h : d.2.1 = nI n) (hn : n < 30) (v1 v2 v3 v4 v5 : Int32) : f_Dr_add d v1 v2 v3 v4 v5 = some (d.1, nI (n + 1), d.2.2.1, d.2.2.2.1, upd d.2.2.2.2.1 n v1, upd d.2.2.2.2.2.1 n v2, upd d.2.2.2.2.2.2.1 n v3, upd d.2.2.2.2.2.2.2.1 n (vp_nar .boolean v4), upd d.2.2.2.2.2.2.2.2 n (vp_nar .boolean v5)) := by
  unfold f_Dr_add
  have g := gdl hn (show 30 < 2 ^ 31 by omega)
  rw [h, nI_clamp (show n < 2 ^ 31 by omega), if_neg (fun q => nI_pos (show n < 2 ^ 31 by omega) q), if_pos (show nI n < 30 from (nI_ltI (by omega) (by omega : 30 < 2 ^ 31)).mpr hn), if_neg g, if_neg g, if_neg g, if_neg g, if_neg g, show nI n + 1 = nI (n + 1) from nI_add n 1]
theorem x_thing {d : DD} {n : Nat} (h : d.2.1 = nI n) (hn : n < 30) (v1 : Int32) : f_Dr_addThing d v1 = some (d.1, nI (n + 1), d.2.2.1, d.2.2.2.1, upd d.2.2.2.2.1 n v1, upd d.2.2.2.2.2.1 n (-nI 1), upd d.2.2.2.2.2.2.1 n (-nI 1), upd d.2.2.2.2.2.2.2.1 n (nI 0), upd d.2.2.2.2.2.2.2.2 n (nI 0)) := by
  unfold f_Dr_addThing
  rw [x_add h hn, ob1]
  rfl
/-- an act of the source: place, good, pieces, taking, lying; the state behind it -/
def ac1 (s : Int64) (P : Nat) : Int32 := nI (rb s P)
def ac2 (s : Int64) (G : Nat) : Int32 := nI (rb (nx s) G)
def ac3 (s : Int64) : Int32 := (1 : Int32) + nI (rb (nx (nx s)) 5)
def ac4 (s : Int64) : Int32 := if nI (rb (nx (nx (nx s))) 3) = (2 : Int32) then nI 1 else nI 0
def ac5 (s : Int64) : Int32 := if nI (rb (nx (nx (nx (nx s)))) 6) = (0 : Int32) then nI 1 else nI 0
def acn (s : Int64) : Int64 := nx (nx (nx (nx (nx s))))
theorem ac4_b (s : Int64) : ac4 s = nI 0 ∨ ac4 s = nI 1 := by unfold ac4; split; exact Or.inr rfl; exact Or.inl rfl
theorem ac5_b (s : Int64) : ac5 s = nI 0 ∨ ac5 s = nI 1 := by unfold ac5; split; exact Or.inr rfl; exact Or.inl rfl
theorem x_addAct {d : DD} {n P G : Nat} (s : Int64) (h : d.2.1 = nI n) (hn : n < 30) (hP : d.2.2.1 = nI P) (hG : d.2.2.2.1 = nI G) (p0 : 0 < P) (g0 : 0 < G) (p1 : P ≤ 6) (g1 : G ≤ 6) :
    f_Dr_addAct s d = some (acn s, (d.1, nI (n + 1), d.2.2.1, d.2.2.2.1, upd d.2.2.2.2.1 n (ac3 s), upd d.2.2.2.2.2.1 n (ac1 s P), upd d.2.2.2.2.2.2.1 n (ac2 s G), upd d.2.2.2.2.2.2.2.1 n (ac4 s), upd d.2.2.2.2.2.2.2.2 n (ac5 s))) := by
  unfold f_Dr_addAct
  rw [hP, hG, x_below s p0 (by omega), ob1, x_below _ g0 (by omega), ob1, show (5 : Int32) = nI 5 from rfl, x_below _ (by omega) (by omega), ob1, show (3 : Int32) = nI 3 from rfl, x_below _ (by omega) (by omega), ob1]
  dsimp only
  rw [show (6 : Int32) = nI 6 from rfl, x_below _ (by omega) (by omega), ob1, ob1]
  dsimp only
  rw [x_add h hn, x_add h hn, x_add h hn, x_add h hn, ob1, ob1, ob1, ob1]
  unfold ac4 ac5
  by_cases c1 : nI (rb (nx (nx (nx s))) 3) = (2 : Int32)
  · by_cases c2 : nI (rb (nx (nx (nx (nx s)))) 6) = (0 : Int32)
    · rw [if_pos c1, if_pos c2, if_pos c1, if_pos c2, hP, hG]; rfl
    · rw [if_pos c1, if_neg c2, if_pos c1, if_neg c2, hP, hG]; rfl
  · by_cases c2 : nI (rb (nx (nx (nx (nx s)))) 6) = (0 : Int32)
    · rw [if_neg c1, if_pos c2, if_neg c1, if_pos c2, hP, hG]; rfl
    · rw [if_neg c1, if_neg c2, if_neg c1, if_neg c2, hP, hG]; rfl
