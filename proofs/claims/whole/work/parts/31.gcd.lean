/-! Euclid ends within a hundred steps, for all longs -/
theorem rem64_toInt (g l : Int64) : (g - g / l * l).toInt = g.toInt.tmod l.toInt := by
  rw [Int64.toInt_sub, Int64.toInt_mul, Int64.toInt_div]
  have e : (g.toInt - ((g.toInt.tdiv l.toInt).bmod (2 ^ 64) * l.toInt).bmod (2 ^ 64)).bmod (2 ^ 64) = (g.toInt.tmod l.toInt).bmod (2 ^ 64) := by
    rw [Int.sub_bmod_bmod, Int.tmod_def]
    have e1 : (g.toInt - (g.toInt.tdiv l.toInt).bmod (2 ^ 64) * l.toInt) = (g.toInt + (-l.toInt) * (g.toInt.tdiv l.toInt).bmod (2 ^ 64)) := by
      rw [Int.neg_mul, Int.mul_comm, Int.sub_eq_add_neg]
    have e2 : (g.toInt - l.toInt * g.toInt.tdiv l.toInt) = (g.toInt + (-l.toInt) * (g.toInt.tdiv l.toInt)) := by
      rw [Int.neg_mul, Int.sub_eq_add_neg]
    rw [e1, e2, ← Int.add_bmod_bmod, Int.mul_bmod_bmod, Int.add_bmod_bmod]
  rw [e]
  have h1 := g.le_toInt
  have h2 := g.toInt_lt
  have hn := Int.natAbs_tmod g.toInt l.toInt
  have hle : (g.toInt.tmod l.toInt).natAbs ≤ g.toInt.natAbs := by rw [hn]; exact Nat.mod_le _ _
  by_cases hg : 0 ≤ g.toInt
  · have := Int.tmod_nonneg l.toInt hg
    exact Int.bmod_eq_of_le (by omega) (by omega)
  · have h3 : 0 ≤ (-g.toInt).tmod l.toInt := Int.tmod_nonneg _ (by omega)
    rw [Int.neg_tmod] at h3
    exact Int.bmod_eq_of_le (by omega) (by omega)
def fibP : Nat → Nat × Nat
  | 0 => (1, 1)
  | n + 1 => ((fibP n).2, (fibP n).1 + (fibP n).2)
theorem gcdT_fib : ∀ (f : Nat) (g l : Int64), ¬ gcdT f g l → (fibP f).1 ≤ l.toInt.natAbs ∧ (l.toInt.natAbs ≤ g.toInt.natAbs → (fibP f).2 ≤ g.toInt.natAbs)
  | 0, g, l, h => by
    have hl : ¬ l.toInt = 0 := fun q => h (Int64.toInt_inj.mp (by rw [q]; rfl))
    show 1 ≤ _ ∧ (_ → 1 ≤ _)
    omega
  | f + 1, g, l, h => by
    have hl0 : ¬ l = 0 := fun q => h (Or.inl q)
    have hl : ¬ l.toInt = 0 := fun q => hl0 (Int64.toInt_inj.mp (by rw [q]; rfl))
    have ih := gcdT_fib f l (g - g / l * l) (fun q => h (Or.inr q))
    rw [rem64_toInt, Int.natAbs_tmod] at ih
    have hlt : g.toInt.natAbs % l.toInt.natAbs < l.toInt.natAbs := Nat.mod_lt _ (by omega)
    have hb := ih.2 (by omega)
    refine ⟨hb, fun hgl => ?_⟩
    show (fibP f).1 + (fibP f).2 ≤ _
    have hd := Nat.div_add_mod g.toInt.natAbs l.toInt.natAbs
    have hq : 1 ≤ g.toInt.natAbs / l.toInt.natAbs := Nat.div_pos hgl (by omega)
    have hm : l.toInt.natAbs * 1 ≤ l.toInt.natAbs * (g.toInt.natAbs / l.toInt.natAbs) := Nat.mul_le_mul_left _ hq
    omega
theorem fib_100 : 2 ^ 63 < (fibP 100).1 := by decide +kernel
theorem gcdT_all (g l : Int64) : gcdT 100 g l := by
  by_cases h : gcdT 100 g l
  · exact h
  · have h1 := (gcdT_fib 100 g l h).1
    have h2 := fib_100
    have h3 := l.le_toInt
    have h4 := l.toInt_lt
    omega
theorem gcdS_nz : ∀ (f : Nat) (g l : Int64), gcdT f g l → (¬ l = 0 ∨ ¬ g = 0) → ¬ gcdS f g l = 0
  | 0, g, l, h, hz => by
    have h : l = 0 := h
    exact hz.resolve_left (fun q => q h)
  | f + 1, g, l, h, hz => by
    by_cases hl : l = 0
    · rw [hl, gcdS_z]; exact hz.resolve_left (fun q => q hl)
    · rw [gcdS_s hl]; exact gcdS_nz f l _ (h.resolve_left hl) (Or.inr hl)
theorem gcdS_ne {g l : Int64} (h : ¬ l = 0) : ¬ gcdS 100 g l = 0 := gcdS_nz 100 g l (gcdT_all g l) (Or.inl h)
