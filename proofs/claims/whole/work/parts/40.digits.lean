/-! the odometer: codes in base B, the place 0 the greatest -/
def dg (B no v i : Nat) : Nat := v / B ^ (no - 1 - i) % B
theorem dg_lt {B no v i : Nat} (h : 0 < B) : dg B no v i < B := Nat.mod_lt _ h
theorem succ_div {B x : Nat} (hB : 0 < B) (h : x % B ≠ B - 1) : (x + 1) / B = x / B := by
  have h1 := Nat.mod_lt x hB
  have a1 := Nat.div_add_mod x B
  have e : x + 1 = B * (x / B) + (x % B + 1) := by omega
  rw [e, Nat.mul_add_div hB, Nat.div_eq_of_lt (show x % B + 1 < B by omega), Nat.add_zero]
theorem dg_tail {B no v : Nat} (hB : 0 < B) : ∀ t, t ≤ no → (∀ i, no - t ≤ i → i < no → dg B no v i = B - 1) → v % B ^ t = B ^ t - 1
  | 0, _, _ => by simp [Nat.mod_one]
  | t + 1, ht, h => by
    have ih := dg_tail hB t (by omega) (fun i h1 h2 => h i (by omega) h2)
    have hd := h (no - 1 - t) (by omega) (by omega)
    unfold dg at hd
    rw [show no - 1 - (no - 1 - t) = t by omega] at hd
    rw [Nat.mod_pow_succ, ih, hd]
    have hp : 0 < B ^ t := Nat.pow_pos hB
    rw [Nat.pow_succ, Nat.mul_sub, Nat.mul_one]
    have : B ^ t * 1 ≤ B ^ t * B := Nat.mul_le_mul_left _ hB
    omega
theorem dg_div {B v t : Nat} (hB : 0 < B) (h : v % B ^ t = B ^ t - 1) : v + 1 = B ^ t * (v / B ^ t + 1) := by
  have hp : 0 < B ^ t := Nat.pow_pos hB
  have := Nat.div_add_mod v (B ^ t)
  rw [Nat.mul_add, Nat.mul_one]
  omega
theorem dg_all {B no v : Nat} (hB : 0 < B) (hv : v < B ^ no) (h : ∀ i, i < no → dg B no v i = B - 1) : v + 1 = B ^ no := by
  have h1 := dg_tail hB no (Nat.le_refl no) (fun i _ h2 => h i h2)
  rw [Nat.mod_eq_of_lt hv] at h1
  have hp : 0 < B ^ no := Nat.pow_pos hB
  omega
/-- one step: the places behind e are full, e isn't -/
theorem dg_succ {B no v e : Nat} (hB : 0 < B) (he : e < no) (hf : ∀ i, e + 1 ≤ i → i < no → dg B no v i = B - 1) (hn : dg B no v e ≠ B - 1) : ∀ i, i < no → dg B no (v + 1) i = if i < e then dg B no v i else if i = e then dg B no v e + 1 else 0 := by
  intro i hi
  have hlt : dg B no v e < B := dg_lt hB
  obtain ⟨t, ht⟩ : ∃ t, t = no - 1 - e := ⟨_, rfl⟩
  have hm := dg_tail hB t (by omega) (fun i h1 h2 => hf i (by omega) h2)
  have hd := dg_div hB hm
  have hp : 0 < B ^ t := Nat.pow_pos hB
  have hde : dg B no v e = v / B ^ t % B := by unfold dg; rw [ht]
  by_cases h1 : i < e
  · rw [if_pos h1]
    unfold dg
    obtain ⟨s, hs⟩ : ∃ s, no - 1 - i = t + (s + 1) := ⟨no - 1 - i - t - 1, by omega⟩
    rw [hs, Nat.pow_add, ← Nat.div_div_eq_div_mul, ← Nat.div_div_eq_div_mul, hd, Nat.mul_div_cancel_left _ hp]
    rw [Nat.pow_succ, Nat.mul_comm (B ^ s) B, ← Nat.div_div_eq_div_mul, ← Nat.div_div_eq_div_mul]
    have hx : (v / B ^ t + 1) / B = v / B ^ t / B := succ_div hB (by rw [← hde]; exact hn)
    rw [hx]
  · rw [if_neg h1]
    by_cases h2 : i = e
    · rw [if_pos h2, h2, hde]
      unfold dg
      rw [← ht, hd, Nat.mul_div_cancel_left _ hp]
      have a1 := Nat.div_add_mod (v / B ^ t) B
      rw [← hde] at a1 ⊢
      rw [← a1, Nat.add_assoc, Nat.mul_add_mod, Nat.mod_eq_of_lt (by omega)]
    · rw [if_neg h2]
      unfold dg
      obtain ⟨s, hs⟩ : ∃ s, t = (no - 1 - i) + (s + 1) := ⟨t - (no - 1 - i) - 1, by omega⟩
      rw [hd, hs, Nat.pow_add, Nat.mul_assoc, Nat.mul_div_cancel_left _ (Nat.pow_pos hB), Nat.pow_succ, Nat.mul_comm (B ^ s) B, Nat.mul_assoc, Nat.mul_mod_right]
theorem dg_less {B no v e : Nat} (hB : 0 < B) (he : e < no) (hv : v < B ^ no) (hf : ∀ i, e + 1 ≤ i → i < no → dg B no v i = B - 1) (hn : dg B no v e ≠ B - 1) : v + 1 < B ^ no := by
  by_cases h : v + 1 = B ^ no
  · exfalso
    apply hn
    have e1 : v = B ^ no - 1 := by omega
    unfold dg
    obtain ⟨t, ht⟩ : ∃ t, no = t + (no - t) ∧ t = no - 1 - e := ⟨no - 1 - e, by omega, rfl⟩
    rw [← ht.2]
    have hp : 0 < B ^ t := Nat.pow_pos hB
    have e2 : v = B ^ t * (B ^ (no - t) - 1) + (B ^ t - 1) := by
      rw [e1, Nat.mul_sub, Nat.mul_one, ← Nat.pow_add, ← ht.1]
      have : B ^ t * 1 ≤ B ^ t * B ^ (no - t) := Nat.mul_le_mul_left _ (Nat.pow_pos hB)
      rw [← Nat.pow_add, ← ht.1] at this
      omega
    rw [e2, Nat.mul_add_div hp, Nat.div_eq_of_lt (by omega), Nat.add_zero]
    obtain ⟨s, hs⟩ : ∃ s, no - t = s + 1 := ⟨no - t - 1, by omega⟩
    rw [hs, Nat.pow_succ]
    have hq : 0 < B ^ s := Nat.pow_pos hB
    have e3 : B ^ s * B - 1 = B * (B ^ s - 1) + (B - 1) := by
      rw [Nat.mul_sub, Nat.mul_one, Nat.mul_comm]
      have : B * 1 ≤ B * B ^ s := Nat.mul_le_mul_left _ hq
      omega
    rw [e3, Nat.mul_add_mod, Nat.mod_eq_of_lt (by omega)]
  · omega
theorem dg_0 {B no i : Nat} : dg B no 0 i = 0 := by simp [dg]
/-- the best of the first v codes: the least cost that is not below 0, the first code that has it -/
def bfold (cost : Nat → Int64) : Nat → Int64 × Nat
  | 0 => (-1, 0)
  | v + 1 => if 0 ≤ cost v ∧ ((bfold cost v).1 < 0 ∨ cost v < (bfold cost v).1) then (cost v, v) else bfold cost v
