/-! ===== Int32 by its bits: bt x i ===== -/
def bt (x : Int32) (i : Nat) : Bool := x.toBitVec.getLsbD i
theorem b_ext {x y : Int32} (h : ∀ i, i < 32 → bt x i = bt y i) : x = y := Int32.toBitVec_inj.mp (BitVec.eq_of_getLsbD_eq (fun i hi => h i hi))
theorem b_or (x y : Int32) (i : Nat) : bt (x ||| y) i = (bt x i || bt y i) := by unfold bt; rw [Int32.toBitVec_or, BitVec.getLsbD_or]
theorem b_and (x y : Int32) (i : Nat) : bt (x &&& y) i = (bt x i && bt y i) := by unfold bt; rw [Int32.toBitVec_and, BitVec.getLsbD_and]
theorem b_xor (x y : Int32) (i : Nat) : bt (x ^^^ y) i = (bt x i ^^ bt y i) := by unfold bt; rw [Int32.toBitVec_xor, BitVec.getLsbD_xor]
theorem b_big {x : Int32} {i : Nat} (h : 32 ≤ i) : bt x i = false := BitVec.getLsbD_of_ge _ _ h
theorem b_255 (i : Nat) : bt 255 i = decide (i < 8) := by
  rcases Nat.lt_or_ge i 32 with h | h
  · exact (by decide +kernel : ∀ i, i < 32 → bt 255 i = decide (i < 8)) i h
  · rw [b_big h, decide_eq_false (by omega)]
theorem b_65535 (i : Nat) : bt 65535 i = decide (i < 16) := by
  rcases Nat.lt_or_ge i 32 with h | h
  · exact (by decide +kernel : ∀ i, i < 32 → bt 65535 i = decide (i < 16)) i h
  · rw [b_big h, decide_eq_false (by omega)]
theorem b_m1 : ∀ i, i < 32 → bt (-1) i = true := by decide +kernel
theorem b_0 (i : Nat) : bt 0 i = false := BitVec.getLsbD_zero
theorem s_l : ∀ n, n < 32 → ((nI n &&& 31).toBitVec.smod 32).toNat = n := by decide +kernel
theorem s_u : ∀ n, n < 32 → (((nI n).toUInt32 &&& Int32.toUInt32 31).toBitVec % 32).toNat = n := by decide +kernel
theorem b_shl (n : Nat) (hn : n < 32) (x : Int32) {i : Nat} (hi : i < 32) : bt (x <<< (nI n &&& 31)) i = (decide (n ≤ i) && bt x (i - n)) := by
  unfold bt
  rw [Int32.toBitVec_shiftLeft]
  show (x.toBitVec <<< ((nI n &&& 31).toBitVec.smod 32).toNat).getLsbD i = _
  rw [s_l n hn, BitVec.getLsbD_shiftLeft]
  rcases Nat.lt_or_ge i n with h | h
  · simp [h, Nat.not_le.mpr h]
  · simp [hi, h, Nat.not_lt.mpr h]
theorem b_ushr (n : Nat) (hn : n < 32) (x : Int32) (i : Nat) : bt ((x.toUInt32 >>> ((nI n).toUInt32 &&& Int32.toUInt32 31)).toInt32) i = bt x (n + i) := by
  show (x.toUInt32 >>> ((nI n).toUInt32 &&& Int32.toUInt32 31)).toBitVec.getLsbD i = x.toUInt32.toBitVec.getLsbD (n + i)
  rw [UInt32.toBitVec_shiftRight]
  show (x.toUInt32.toBitVec >>> (((nI n).toUInt32 &&& Int32.toUInt32 31).toBitVec % 32).toNat).getLsbD i = _
  rw [s_u n hn, BitVec.getLsbD_ushiftRight]
theorem b_sshr (n : Nat) (hn : n < 32) (x : Int32) {i : Nat} (hi : i < 32) : bt (x >>> (nI n &&& 31)) i = if n + i < 32 then bt x (n + i) else bt x 31 := by
  unfold bt
  rw [Int32.toBitVec_shiftRight]
  show (x.toBitVec.sshiftRight ((nI n &&& 31).toBitVec.smod 32).toNat).getLsbD i = _
  rw [s_l n hn, BitVec.getLsbD_sshiftRight, BitVec.msb_eq_getLsbD_last]
  simp [hi]
theorem b_shl8 (x : Int32) {i : Nat} (hi : i < 32) : bt (x <<< ((8 : Int32) &&& 31)) i = (decide (8 ≤ i) && bt x (i - 8)) := b_shl 8 (by omega) x hi
theorem b_shl16 (x : Int32) {i : Nat} (hi : i < 32) : bt (x <<< ((16 : Int32) &&& 31)) i = (decide (16 ≤ i) && bt x (i - 16)) := b_shl 16 (by omega) x hi
theorem b_shl24 (x : Int32) {i : Nat} (hi : i < 32) : bt (x <<< ((24 : Int32) &&& 31)) i = (decide (24 ≤ i) && bt x (i - 24)) := b_shl 24 (by omega) x hi
theorem b_sshr8 (x : Int32) {i : Nat} (hi : i < 32) : bt (x >>> ((8 : Int32) &&& 31)) i = if 8 + i < 32 then bt x (8 + i) else bt x 31 := b_sshr 8 (by omega) x hi
/-! ===== lN n to 2^64: shifts, and, or, masks, one bit ===== -/
theorem wb_tb (n : Nat) : (lN n).toBitVec = BitVec.ofNat 64 n := rfl
theorem wb_inj {a b : Int64} (h : a.toBitVec = b.toBitVec) : a = b := Int64.toBitVec_inj.mp h
theorem wb_tn {n : Nat} (h : n < 2 ^ 64) : (lN n).toBitVec.toNat = n := by rw [wb_tb, BitVec.toNat_ofNat, Nat.mod_eq_of_lt h]
theorem wb_of (x : Int64) : ∃ n, n < 2 ^ 64 ∧ x = lN n := ⟨x.toBitVec.toNat, x.toBitVec.isLt, wb_inj (by rw [wb_tb]; simp)⟩
theorem wb_of32 (x : Int32) : ∃ n, n < 2 ^ 32 ∧ x = nI n := ⟨x.toBitVec.toNat, x.toBitVec.isLt, Int32.toBitVec_inj.mp (by show _ = BitVec.ofNat 32 _; simp)⟩
theorem wb_c : ∀ k, k < 64 → ((nI k).toInt64 &&& 63) = lN k := by decide +kernel
theorem wb_cu : ∀ k, k < 64 → ((nI k).toInt64.toUInt64 &&& Int64.toUInt64 63) = UInt64.ofNat k := by decide +kernel
theorem wb_sm : ∀ k, k < 64 → (BitVec.ofNat 64 k).smod 64 = BitVec.ofNat 64 k := by decide +kernel
theorem wb_pw {a b : Nat} (h : a ≤ b) : 2 ^ b = 2 ^ a * 2 ^ (b - a) := by rw [← Nat.pow_add]; congr 1; omega
theorem wb_lt2 {a b : Nat} (h : a < b) : 2 ^ a < 2 ^ b := Nat.pow_lt_pow_right (by decide) h
theorem wb_mod (n : Nat) : lN n = lN (n % 2 ^ 64) := wb_inj (by rw [wb_tb, wb_tb]; apply BitVec.eq_of_toNat_eq; rw [BitVec.toNat_ofNat, BitVec.toNat_ofNat, Nat.mod_mod])
theorem wb_shr {n k : Nat} (hn : n < 2 ^ 64) (hk : k < 64) : ((lN n).toUInt64 >>> ((nI k).toInt64.toUInt64 &&& Int64.toUInt64 63)).toInt64 = lN (n / 2 ^ k) := by
  rw [wb_cu k hk]
  apply wb_inj
  apply BitVec.eq_of_toNat_eq
  show ((lN n).toUInt64 >>> UInt64.ofNat k).toNat = (BitVec.ofNat 64 _).toNat
  have h1 : (UInt64.ofNat k).toNat = k := by
    show (BitVec.ofNat 64 k).toNat = k
    rw [BitVec.toNat_ofNat, Nat.mod_eq_of_lt (by omega)]
  have h2 : (lN n).toUInt64.toNat = n := wb_tn hn
  rw [UInt64.toNat_shiftRight, h1, h2, Nat.mod_eq_of_lt hk, Nat.shiftRight_eq_div_pow, BitVec.toNat_ofNat, Nat.mod_eq_of_lt (Nat.lt_of_le_of_lt (Nat.div_le_self _ _) hn)]
/-! own rows on small numbers -/
theorem n_lit (k : Nat) : (OfNat.ofNat k : Int32) = nI k := rfl
theorem l_lit (k : Nat) : (OfNat.ofNat k : Int64) = lN k := rfl
theorem n_neg (k : Nat) (h : k < 2 ^ 31) : (nI k < nI 0) = False := by
  rw [eq_iff_iff, nI_ltI h (by omega)]; exact iff_of_false (by omega) id
theorem n_le0 {a b : Nat} (ha : a < 2 ^ 31) (hb : b < 2 ^ 31) : (nI a ≤ nI b) = (a ≤ b) := by rw [nI_leI ha hb]
theorem n_lt0 {a b : Nat} (ha : a < 2 ^ 31) (hb : b < 2 ^ 31) : (nI a < nI b) = (a < b) := by rw [nI_ltI ha hb]
theorem n_eq0 {a b : Nat} (ha : a < 2 ^ 31) (hb : b < 2 ^ 31) : (nI a = nI b) = (a = b) := by rw [nI_eq ha hb]
theorem n_m1lt : (-nI 1 < nI 0) = True := eq_true (by decide)
theorem n_m1eq {a : Nat} (h : a < 2 ^ 31) : (nI a = -nI 1) = False := by
  rw [eq_iff_iff, ← Int32.toInt_inj, nI_toInt h, show (-nI 1).toInt = -1 by decide]; exact iff_of_false (by omega) id
theorem n_predlt {n : Nat} (hn : n < 2 ^ 30) (p : Int32) : (nI n - nI 1 < p) = (nI n ≤ p) := by
  rw [eq_iff_iff, Int32.lt_iff_toInt_lt, Int32.le_iff_toInt_le, pk_sub_toInt hn (by omega), nI_toInt (by omega)]; omega
theorem nlt_of {p : Int32} {n : Nat} (h : p < 0) : ∀ j, j < 2 ^ 31 → ¬ p = nI j := by
  intro j hj e
  rw [e] at h
  exact nI_pos hj h
/-- an index: out of range, or a small number -/
theorem ix3 (p : Int32) {n : Nat} (hn : n < 2 ^ 31) : p < nI 0 ∨ (¬ p < nI 0 ∧ nI n ≤ p) ∨ ∃ j, j < n ∧ p = nI j := by
  rcases pk_ix p hn with h | h | h
  · exact Or.inl h
  · by_cases h0 : p < nI 0
    · exact Or.inl h0
    · exact Or.inr (Or.inl ⟨h0, h⟩)
  · exact Or.inr (Or.inr h)
theorem or_sw (x k k' : Int32) : (x ||| k) ||| k' = (x ||| k') ||| k := by
  rw [Int32.or_assoc, Int32.or_comm k k', ← Int32.or_assoc]
/-- a bit set where c holds -/
def orr (c : Prop) [Decidable c] (k x : Int32) : Int32 := if c then x ||| k else x
theorem orr_t {c : Prop} [Decidable c] (h : c) (k x : Int32) : orr c k x = x ||| k := if_pos h
theorem orr_f {c : Prop} [Decidable c] (h : ¬ c) (k x : Int32) : orr c k x = x := if_neg h
theorem orr_sw (c c' : Prop) [Decidable c] [Decidable c'] (k k' x : Int32) : orr c k (orr c' k' x) = orr c' k' (orr c k x) := by
  unfold orr
  by_cases h : c <;> by_cases h' : c'
  · rw [if_pos h, if_pos h', if_pos h, if_pos h', or_sw]
  · rw [if_pos h, if_neg h', if_pos h, if_neg h']
  · rw [if_neg h, if_pos h', if_neg h, if_pos h']
  · rw [if_neg h, if_neg h', if_neg h, if_neg h']
theorem orr_cg {c c' : Prop} [Decidable c] [Decidable c'] (h : c ↔ c') (k x : Int32) : orr c k x = orr c' k x := by
  unfold orr
  by_cases h1 : c
  · rw [if_pos h1, if_pos (h.mp h1)]
  · rw [if_neg h1, if_neg (fun h2 => h1 (h.mpr h2))]
/-- a sum -/
def sg (f : Nat → Int32) : Nat → Int32
  | 0 => nI 0
  | n + 1 => sg f n + f n
theorem sg_cg {f g : Nat → Int32} : ∀ n, (∀ i, i < n → f i = g i) → sg f n = sg g n
  | 0, _ => rfl
  | n + 1, h => by
    show sg f n + f n = sg g n + g n
    rw [sg_cg n (fun i hi => h i (by omega)), h n (by omega)]
theorem sg_up {f g : Nat → Int32} {j : Nat} {v : Int32} (hj : g j = f j + v) (h : ∀ i, i ≠ j → g i = f i) : ∀ n, j < n → sg g n = sg f n + v
  | 0, hn => absurd hn (Nat.not_lt_zero _)
  | n + 1, hn => by
    show sg g n + g n = (sg f n + f n) + v
    by_cases e : j = n
    · subst e
      rw [sg_cg j (fun i hi => h i (by omega)), hj, Int32.add_assoc]
    · rw [sg_up hj h n (by omega), h n (fun q => e q.symm), Int32.add_assoc, Int32.add_comm v, ← Int32.add_assoc]
theorem sg_zero : ∀ n, sg (fun _ => nI 0) n = nI 0
  | 0 => rfl
  | n + 1 => by show sg (fun _ => nI 0) n + nI 0 = nI 0; rw [sg_zero n]; rfl
/-- a loop whose way is known -/
theorem itn_go {S R : Type} {F : (S → Option R) → S → Option R} (st : Nat → S) (e : Nat) {out : Option R} (hx : ∀ rec, F rec (st e) = out) (hs : ∀ i, i < e → ∀ rec, F rec (st i) = rec (st (i + 1))) : ∀ n i, i ≤ e → e - i < n → itn F n (st i) = out := by
  intro n
  induction n with
  | zero => intro i _ h; omega
  | succ n ih =>
    intro i hi hn
    rw [itn_s]
    by_cases h : i = e
    · subst h; exact hx _
    · rw [hs i (by omega)]
      exact ih (i + 1) (by omega) (by omega)
theorem lgc {x y : Int64} : (lg_cmp x y = 0) = (x = y) := by
  rw [eq_iff_iff]
  unfold lg_cmp
  constructor
  · intro h
    by_cases h1 : y < x
    · simp [h1] at h
    · by_cases h2 : x = y
      · exact h2
      · simp [h1, h2] at h
  · rintro rfl
    simp
theorem nar0 : vp_nar .boolean (nI 0) = nI 0 := by decide
theorem nar1 : vp_nar .boolean (nI 1) = nI 1 := by decide
/-- asked bits -/
theorem ask_bits (x t : Int32) : (x &&& (t ^^^ -1) = 0) = (t &&& x = x) := by
  rw [eq_iff_iff]
  constructor
  · intro h
    apply b_ext
    intro i hi
    have h1 := congrArg (fun z => bt z i) h
    simp only [b_and, b_xor, b_0, b_m1 i hi] at h1
    rw [b_and]
    cases h2 : bt x i <;> cases h3 : bt t i <;> simp_all
  · intro h
    apply b_ext
    intro i hi
    have h1 := congrArg (fun z => bt z i) h
    simp only [b_and] at h1
    rw [b_and, b_xor, b_0, b_m1 i hi]
    cases h2 : bt x i <;> cases h3 : bt t i <;> simp_all
/-- odd -/
theorem b_1 (i : Nat) (hi : i < 32) : bt (nI 1) i = decide (i = 0) := (by decide +kernel : ∀ i, i < 32 → bt (nI 1) i = decide (i = 0)) i hi
theorem and1 (x : Int32) : (x &&& nI 1 = nI 0) ↔ bt x 0 = false := by
  constructor
  · intro h
    have h1 := congrArg (fun z => bt z 0) h
    simp only [b_and, b_1 0 (by omega)] at h1
    have h2 : bt (nI 0) 0 = false := b_0 0
    rw [h2] at h1
    simpa using h1
  · intro h
    apply b_ext
    intro i hi
    rw [b_and, b_1 i hi, show bt (nI 0) i = false from b_0 i]
    by_cases e : i = 0
    · subst e; rw [h]; rfl
    · simp [e]
theorem and1t (x : Int32) : (x &&& nI 1 = nI 1) ↔ bt x 0 = true := by
  constructor
  · intro h
    cases h1 : bt x 0
    · rw [(and1 x).mpr h1] at h
      exact absurd h (by decide)
    · rfl
  · intro h
    apply b_ext
    intro i hi
    rw [b_and, b_1 i hi]
    by_cases e : i = 0
    · subst e; rw [h]; rfl
    · simp [e]
theorem bt0 (x : Int32) : bt x 0 = decide (x.toInt % 2 = 1) := by
  unfold bt
  have h : x.toInt = x.toBitVec.toInt := rfl
  rw [h, BitVec.toInt_eq_toNat_cond, BitVec.getLsbD, Nat.testBit_zero]
  congr 1
  rw [eq_iff_iff]
  split <;> omega
theorem td2 (a : Int) : (0 ≤ a → a.tdiv 2 = a / 2) ∧ (a < 0 → a.tdiv 2 = -((-a) / 2)) := by
  refine ⟨fun h => Int.tdiv_eq_ediv_of_nonneg h, fun h => ?_⟩
  have h1 : (-(-a)).tdiv 2 = -((-a).tdiv 2) := Int.neg_tdiv (-a) 2
  rw [Int.neg_neg] at h1
  rw [h1, Int.tdiv_eq_ediv_of_nonneg (by omega)]
theorem odd_bits (x : Int32) : (x - x / nI 2 * nI 2 = nI 0) = ¬ (x &&& nI 1 = nI 1) := by
  rw [eq_iff_iff, and1t, bt0]
  have hb1 := Int32.toInt_lt x
  have hb2 := Int32.le_toInt x
  have h2 : (nI 2).toInt = 2 := nI_toInt (by omega)
  have h9 := td2 x.toInt
  have hd : (x / nI 2).toInt = x.toInt.tdiv 2 := by
    rw [Int32.toInt_div, h2]
    exact Int.bmod_eq_of_le (by omega) (by omega)
  have hm : (x / nI 2 * nI 2).toInt = x.toInt.tdiv 2 * 2 := by
    rw [Int32.toInt_mul, hd, h2]
    exact Int.bmod_eq_of_le (by omega) (by omega)
  have hs : (x - x / nI 2 * nI 2).toInt = x.toInt - x.toInt.tdiv 2 * 2 := by
    rw [Int32.toInt_sub, hm]
    exact Int.bmod_eq_of_le (by omega) (by omega)
  rw [← Int32.toInt_inj, hs, nI_toInt (by omega)]
  simp only [decide_eq_true_eq]
  omega
/-- the bits of the places seen -/
theorem shr1 (z : Int32) {q : Nat} (hq : q < 31) : ((z >>> (nI q &&& nI 31)) &&& nI 1 = nI 0) ↔ bt z q = false := by
  rw [and1]
  have h := b_sshr q (by omega) z (i := 0) (by omega)
  have h1 : (nI q &&& nI 31) = (nI q &&& 31) := rfl
  rw [h1, h, if_pos (by omega), Nat.add_zero]
theorem shl1 : ∀ p, p < 8 → ∀ q, q < 8 → bt (nI 1 <<< (nI p &&& nI 31)) q = decide (p = q) := by decide +kernel
theorem seen_or (y : Int32) {p q : Nat} (hp : p < 8) (hq : q < 8) : (((y ||| (nI 1 <<< (nI p &&& nI 31))) >>> (nI q &&& nI 31)) &&& nI 1 = nI 0) ↔ (((y >>> (nI q &&& nI 31)) &&& nI 1 = nI 0) ∧ p ≠ q) := by
  rw [shr1 _ (by omega), shr1 _ (by omega), b_or, shl1 p hp q hq]
  simp
