/-! small things for the walks and for the functions that they follow -/
theorem ip {α : Type} {c : Prop} [Decidable c] {a b : α} {r : α} (hc : c) (h : (if c then a else b) = r) : a = r := by rw [if_pos hc] at h; exact h
theorem iN {α : Type} {c : Prop} [Decidable c] {a b : α} {r : α} (hc : ¬ c) (h : (if c then a else b) = r) : b = r := by rw [if_neg hc] at h; exact h
theorem ig {α : Type} {c : Prop} [Decidable c] {a : Option α} {r : α} (h : (if c then a else none) = some r) : c ∧ a = some r := by
  by_cases hc : c
  · rw [if_pos hc] at h; exact ⟨hc, h⟩
  · rw [if_neg hc] at h; cases h
theorem ign {α : Type} {c : Prop} [Decidable c] {a : Option α} {r : α} (h : (if c then none else a) = some r) : ¬ c ∧ a = some r := by
  by_cases hc : c
  · rw [if_pos hc] at h; cases h
  · rw [if_neg hc] at h; exact ⟨hc, h⟩
theorem ob {α β : Type} {a : Option α} {k : α → Option β} {r : β} (h : Option.bind a k = some r) : ∃ q, a = some q ∧ k q = some r := by
  cases a with
  | none => cases h
  | some q => exact ⟨q, rfl, h⟩
theorem nb01 {v : Int32} (h : v = 0 ∨ v = 1) : narrow .boolean (.int v) = .int v := by
  rcases h with rfl | rfl <;> rfl
/-- a loop: n rounds at the most -/
def itn {S R : Type} (f : (S → Option R) → S → Option R) : Nat → S → Option R
  | 0, _ => none
  | n + 1, z => f (itn f n) z
theorem itn_s {S R : Type} (f : (S → Option R) → S → Option R) (n : Nat) (z : S) : itn f (n + 1) z = f (itn f n) z := rfl
theorem tout {x : Int32} {lo hi : Int} (ks : List Int32) (hk : (List.range (hi - lo + 1).toNat).all (fun j => (ks.map Int32.toInt).contains (lo + (j : Int))) = true) (h : ∀ k ∈ ks, ¬ x = k) : x.toInt < lo ∨ hi < x.toInt := by
  by_cases h1 : x.toInt < lo
  · exact Or.inl h1
  · by_cases h2 : hi < x.toInt
    · exact Or.inr h2
    · exfalso
      rw [List.all_eq_true] at hk
      have h3 := hk (x.toInt - lo).toNat (List.mem_range.mpr (by omega))
      rw [List.contains_iff_mem, List.mem_map] at h3
      obtain ⟨k, h4, h5⟩ := h3
      exact h k h4 (Int32.toInt_inj.mp (by rw [h5]; omega))
