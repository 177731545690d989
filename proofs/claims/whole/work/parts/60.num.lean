/-! numbers: ints of the document's bounds, as integers -/
abbrev Bd (x : Int32) : Prop := -1000 ≤ x ∧ x ≤ 1000
theorem Bd.i {x : Int32} (h : Bd x) : -1000 ≤ x.toInt ∧ x.toInt ≤ 1000 := by
  have h1 := Int32.le_iff_toInt_le.mp h.1
  have h2 := Int32.le_iff_toInt_le.mp h.2
  exact ⟨h1, h2⟩
theorem i32_toInt {E : Int} (h1 : -2147483648 ≤ E) (h2 : E < 2147483648) : (Int32.ofInt E).toInt = E := by
  exact Int32.toInt_ofInt_of_le (by omega) (by omega)
theorem i64_toInt {E : Int} (h1 : -9223372036854775808 ≤ E) (h2 : E < 9223372036854775808) : (Int64.ofInt E).toInt = E := by
  exact Int64.toInt_ofInt_of_le (by omega) (by omega)
theorem i64_of (x : Int32) : x.toInt64 = Int64.ofInt x.toInt := by
  apply Int64.toInt_inj.mp
  have h1 := x.le_toInt
  have h2 := x.toInt_lt
  rw [Int32.toInt_toInt64, i64_toInt (by omega) (by omega)]
theorem i32_64 {E : Int} (h1 : -2147483648 ≤ E) (h2 : E < 2147483648) : (Int32.ofInt E).toInt64 = Int64.ofInt E := by
  rw [i64_of, i32_toInt h1 h2]
theorem mul_bd {a b : Int} {m n : Nat} (ha : -(m : Int) ≤ a ∧ a ≤ m) (hb : -(n : Int) ≤ b ∧ b ≤ n) : -((m * n : Nat) : Int) ≤ a * b ∧ a * b ≤ ((m * n : Nat) : Int) := by
  have h1 : a.natAbs ≤ m := by omega
  have h2 : b.natAbs ≤ n := by omega
  have h3 : (a * b).natAbs ≤ m * n := by rw [Int.natAbs_mul]; exact Nat.mul_le_mul h1 h2
  omega
theorem mul64 {x y : Int32} (hx : Bd x) (hy : Bd y) : (x * y).toInt64 = x.toInt64 * y.toInt64 := by
  have h := mul_bd (m := 1000) (n := 1000) hx.i hy.i
  have e : x * y = Int32.ofInt (x.toInt * y.toInt) := by rw [Int32.ofInt_mul, Int32.ofInt_toInt, Int32.ofInt_toInt]
  rw [e, i32_64 (by omega) (by omega), i64_of, i64_of, Int64.ofInt_mul]
theorem ng_ab (x : Int64) : ng64 x = ab64 x := by
  unfold ng64 ab64
  by_cases h : 0 < x
  · rw [if_pos h, if_pos (Int64.le_of_lt h)]
  · rw [if_neg h]
    by_cases h2 : 0 ≤ x
    · rw [if_pos h2]
      have : x = 0 := Int64.le_antisymm (Int64.not_lt.mp h) h2
      rw [this]; rfl
    · rw [if_neg h2]
theorem ab_pos {b : Int64} (h : 0 < b) : ab64 b = b := if_pos h
/-- a cleared fraction, its below above 0 -/
theorem clr_told {a b : Int64} {w : Nat} (h : 0 < b) : clr a b (nI (w % 2)) = toldM a b (if w % 2 = 1 then 1 else 0) := by
  have hb : ¬ b = 0 := fun q => by rw [q] at h; exact absurd h (by decide)
  have hg : ¬ gcdS 100 (ab64 a) (ab64 b) = 0 := by rw [ab_pos h]; exact gcdS_ne hb
  unfold clr toldM
  rw [if_neg (not_or.mpr ⟨hb, hg⟩), if_pos (Int64.le_of_lt h), ab_pos h, ng_ab]
  rcases (show w % 2 = 0 ∨ w % 2 = 1 by omega) with e | e
  · rw [e, if_pos (show nI 0 = 0 from rfl), if_pos (show (if (0 : Nat) = 1 then (1 : Int32) else 0) = 0 by decide)]
  · rw [e, if_neg (show ¬ nI 1 = 0 by decide), if_neg (show ¬ (if (1 : Nat) = 1 then (1 : Int32) else 0) = 0 by decide)]
theorem sumTo_c {f g : Nat → Int64} : ∀ {n : Nat}, (∀ k, k < n → f k = g k) → sumTo f n = sumTo g n
  | 0, _ => rfl
  | n + 1, h => by unfold sumTo; rw [sumTo_c (fun k hk => h k (by omega)), h n (by omega)]
theorem sumTo_z {f : Nat → Int64} {n : Nat} : ∀ {d : Nat}, (∀ k, n ≤ k → k < n + d → f k = 0) → sumTo f (n + d) = sumTo f n
  | 0, _ => rfl
  | d + 1, h => by
    show sumTo f (n + d) + f (n + d) = _
    rw [sumTo_z (fun k h1 h2 => h k h1 (by omega)), h (n + d) (by omega) (by omega), Int64.add_zero]
theorem bit_iff {s k : Nat} (hs : s < 4096) (hk : k < 12) : bitOn (nI s) k ↔ s.testBit k = true := by
  unfold bitOn
  rw [bit_val s k (by omega)]
  cases s.testBit k <;> decide
theorem bit_hi (s : Nat) (hs : s < 4096) (k : Nat) (hk : k < 12) (h : bitOn (nI s) k) : s.testBit k = true := (bit_iff hs hk).mp h
theorem bit_ge {s n k : Nat} (hs : s < 2 ^ n) (hn : n ≤ 12) (h1 : n ≤ k) (h2 : k < 12) : ¬ bitOn (nI s) k := by
  have h4 : s < 4096 := Nat.lt_of_lt_of_le hs (show 2 ^ n ≤ 2 ^ 12 from Nat.pow_le_pow_right (by decide) hn)
  intro q
  have q2 := bit_hi s h4 k h2 q
  rw [Nat.testBit_lt_two_pow (Nat.lt_of_lt_of_le hs (Nat.pow_le_pow_right (by decide) h1))] at q2
  cases q2
theorem all_4096 {P : Nat → Prop} (h : ∀ a, a < 64 → ∀ b, b < 64 → P (64 * a + b)) : ∀ s, s < 4096 → P s := fun s hs => by
  have q := h (s / 64) (by omega) (s % 64) (by omega)
  rwa [show 64 * (s / 64) + s % 64 = s by omega] at q
theorem nB_sum : ∀ s, s < 4096 → nB (nI s) = sumTo (fun k => if bitOn (nI s) k then 1 else 0) 12 := all_4096 (by decide +kernel)
theorem pop_mof : ∀ s, s < 4096 → pop (nI s) = mof (nI s) := all_4096 (by decide +kernel)
