/-! fractions: what Euclid finds; a common factor; bounds -/
theorem le64 {x y : Int64} : x ≤ y ↔ x.toInt ≤ y.toInt := Int64.le_iff_toInt_le
theorem lt64 {x y : Int64} : x < y ↔ x.toInt < y.toInt := Int64.lt_iff_toInt_lt
theorem zero64 : (0 : Int64).toInt = 0 := rfl
theorem gcdS_val : ∀ (f : Nat) (g l : Int64), gcdT f g l → 0 ≤ g.toInt → 0 ≤ l.toInt → (gcdS f g l).toInt = ((Int.gcd g.toInt l.toInt : Nat) : Int)
  | 0, g, l, h, hg, _ => by
    have h : l = 0 := h
    rw [h, zero64, Int.gcd_zero_right]
    show g.toInt = _
    omega
  | f + 1, g, l, h, hg, hl => by
    by_cases q : l = 0
    · rw [q, gcdS_z, zero64, Int.gcd_zero_right]
      omega
    · have e := rem64_toInt g l
      have hr : 0 ≤ (g - g / l * l).toInt := by rw [e]; exact Int.tmod_nonneg _ hg
      rw [gcdS_s q, gcdS_val f l _ (h.resolve_left q) hl hr, e]
      obtain ⟨a, ha⟩ := Int.eq_ofNat_of_zero_le hg
      obtain ⟨b, hb⟩ := Int.eq_ofNat_of_zero_le hl
      rw [ha, hb]
      have e2 : (a : Int).tmod (b : Int) = ((a % b : Nat) : Int) := by
        rw [Int.tmod_eq_emod_of_nonneg (by omega)]; simp
      rw [e2, Int.gcd_natCast_natCast, Int.gcd_natCast_natCast, Nat.gcd_comm a b, Nat.gcd_rec b a, Nat.gcd_comm]
theorem neg64 {P : Int} : -(Int64.ofInt P) = Int64.ofInt (-P) := by rw [Int64.ofInt_neg]
theorem ng_val {P : Int} (h1 : -4000000000000000000 ≤ P) (h2 : P ≤ 4000000000000000000) : (ng64 (Int64.ofInt P)).toInt = (P.natAbs : Int) := by
  have e := i64_toInt (E := P) (by omega) (by omega)
  unfold ng64
  by_cases h : 0 ≤ P
  · rw [if_pos (by rw [le64, e, zero64]; exact h), e]; omega
  · rw [if_neg (by rw [le64, e, zero64]; exact h), neg64, i64_toInt (by omega) (by omega)]; omega
theorem tdiv_bd {P g : Int} (hg : 1 ≤ g) : -(P.natAbs : Int) ≤ P.tdiv g ∧ P.tdiv g ≤ (P.natAbs : Int) := by
  have h2 : (P.tdiv g).natAbs ≤ P.natAbs := by rw [Int.natAbs_tdiv]; exact Nat.div_le_self _ _
  omega
theorem told_val {P Dd : Int} {c : Int32} (h1 : -4000000000000000000 ≤ P) (h2 : P ≤ 4000000000000000000) (h3 : 0 < Dd) (h4 : Dd ≤ 4000000000000000000) : toldM (Int64.ofInt P) (Int64.ofInt Dd) c = if c = 0 then Int64.ofInt (P.tdiv (Int.gcd P Dd)) else Int64.ofInt (Dd.tdiv (Int.gcd P Dd)) := by
  have eP := i64_toInt (E := P) (by omega) (by omega)
  have eD := i64_toInt (E := Dd) (by omega) (by omega)
  have eg : (gcdS 100 (ng64 (Int64.ofInt P)) (Int64.ofInt Dd)).toInt = ((Int.gcd P Dd : Nat) : Int) := by
    rw [gcdS_val 100 _ _ (gcdT_all _ _) (by rw [ng_val h1 h2]; omega) (by rw [eD]; omega), ng_val h1 h2, eD]
    congr 1
  have hg : 1 ≤ (Int.gcd P Dd : Int) := by
    have := Int.gcd_pos_of_ne_zero_right P (show Dd ≠ 0 by omega)
    omega
  have b1 := tdiv_bd (P := P) hg
  have b2 := tdiv_bd (P := Dd) hg
  unfold toldM
  by_cases hc : c = 0
  · rw [if_pos hc, if_pos hc]
    apply Int64.toInt_inj.mp
    rw [Int64.toInt_div, eP, eg, i64_toInt (by omega) (by omega)]
    exact Int.bmod_eq_of_le (by omega) (by omega)
  · rw [if_neg hc, if_neg hc]
    apply Int64.toInt_inj.mp
    rw [Int64.toInt_div, eD, eg, i64_toInt (by omega) (by omega)]
    exact Int.bmod_eq_of_le (by omega) (by omega)
theorem told_scale {N P Dd : Int} {c : Int32} (hN : 1 ≤ N) (hN2 : N ≤ 12) (h1 : -100000000000 ≤ P) (h2 : P ≤ 100000000000) (h3 : 0 < Dd) (h4 : Dd ≤ 100000000000) : toldM (Int64.ofInt N * Int64.ofInt P) (Int64.ofInt N * Int64.ofInt Dd) c = toldM (Int64.ofInt P) (Int64.ofInt Dd) c := by
  have m1 := mul_bd (a := N) (b := P) (m := 12) (n := 100000000000) (by omega) (by omega)
  have m2 := mul_bd (a := N) (b := Dd) (m := 12) (n := 100000000000) (by omega) (by omega)
  have hpos : 0 < N * Dd := Int.mul_pos (by omega) h3
  rw [← Int64.ofInt_mul, ← Int64.ofInt_mul, told_val (by omega) (by omega) hpos (by omega), told_val (by omega) (by omega) h3 (by omega)]
  have hg : Int.gcd (N * P) (N * Dd) = N.natAbs * Int.gcd P Dd := Int.gcd_mul_left ..
  have hn : (N.natAbs : Int) = N := by omega
  rw [hg]
  have e1 : ((N.natAbs * Int.gcd P Dd : Nat) : Int) = N * (Int.gcd P Dd : Int) := by rw [Int.natCast_mul, hn]
  rw [e1, Int.mul_tdiv_mul_of_pos _ _ (by omega), Int.mul_tdiv_mul_of_pos _ _ (by omega)]
/-- a sum of numbers, each within M -/
theorem sumTo_bd {f : Nat → Int64} {M : Nat} : ∀ {n : Nat}, (∀ k, k < n → ∃ e : Int, f k = Int64.ofInt e ∧ -(M : Int) ≤ e ∧ e ≤ M) → ∃ E : Int, sumTo f n = Int64.ofInt E ∧ -((n * M : Nat) : Int) ≤ E ∧ E ≤ ((n * M : Nat) : Int)
  | 0, _ => ⟨0, rfl, by omega, by omega⟩
  | n + 1, h => by
    obtain ⟨E, h1, h2, h3⟩ := sumTo_bd (n := n) (fun k hk => h k (by omega))
    obtain ⟨e, h4, h5, h6⟩ := h n (by omega)
    refine ⟨E + e, ?_, ?_, ?_⟩
    · show sumTo f n + f n = _
      rw [h1, h4, Int64.ofInt_add]
    · rw [Nat.add_mul]; omega
    · rw [Nat.add_mul]; omega
/-- every POINT in the set has numbers within the bounds -/
abbrev BdA (a : aT) (b : Int32) : Prop := ∀ k, k < 12 → bitOn b k → ∀ r, r < 4 → Bd (a r k)
theorem smA_bd {a : aT} {b : Int32} {r : Nat} (h : BdA a b) (hr : r < 4) : ∃ E : Int, smA a b r = Int64.ofInt E ∧ -12000 ≤ E ∧ E ≤ 12000 := by
  obtain ⟨E, h1, h2, h3⟩ := sumTo_bd (f := fun k => if bitOn b k then (a r k).toInt64 else 0) (M := 1000) (n := 12) (fun k hk => by
    by_cases q : bitOn b k
    · have := (h k hk q r hr).i
      exact ⟨(a r k).toInt, by rw [if_pos q, i64_of], by omega, by omega⟩
    · exact ⟨0, by rw [if_neg q]; rfl, by omega, by omega⟩)
  exact ⟨E, h1, by omega, by omega⟩
theorem spA_bd {a : aT} {b : Int32} {r q : Nat} (h : BdA a b) (hr : r < 4) (hq : q < 4) : ∃ E : Int, spA a b r q = Int64.ofInt E ∧ -12000000 ≤ E ∧ E ≤ 12000000 := by
  obtain ⟨E, h1, h2, h3⟩ := sumTo_bd (f := fun k => if bitOn b k then (a r k * a q k).toInt64 else 0) (M := 1000000) (n := 12) (fun k hk => by
    by_cases w : bitOn b k
    · have x := h k hk w r hr
      have y := h k hk w q hq
      have m := mul_bd (m := 1000) (n := 1000) x.i y.i
      exact ⟨(a r k).toInt * (a q k).toInt, by rw [if_pos w, mul64 x y, i64_of, i64_of, Int64.ofInt_mul], by omega, by omega⟩
    · exact ⟨0, by rw [if_neg w]; rfl, by omega, by omega⟩)
  exact ⟨E, h1, by omega, by omega⟩
theorem nB_bd {s : Nat} (hs : s < 4096) : ∃ N : Int, nB (nI s) = Int64.ofInt N ∧ 0 ≤ N ∧ N ≤ 12 := by
  have key : ∀ n, ∃ N : Int, sumTo (fun k => if bitOn (nI s) k then 1 else 0) n = Int64.ofInt N ∧ 0 ≤ N ∧ N ≤ n := by
    intro n
    induction n with
    | zero => exact ⟨0, rfl, by omega, by omega⟩
    | succ n ih =>
      obtain ⟨N, h1, h2, h3⟩ := ih
      by_cases q : bitOn (nI s) n
      · exact ⟨N + 1, by show _ + (if bitOn (nI s) n then 1 else 0) = _; rw [h1, if_pos q, Int64.ofInt_add]; rfl, by omega, by omega⟩
      · exact ⟨N, by show _ + (if bitOn (nI s) n then 1 else 0) = _; rw [h1, if_neg q, Int64.add_zero], by omega, by omega⟩
  rw [nB_sum s hs]
  obtain ⟨N, h1, h2, h3⟩ := key 12
  exact ⟨N, h1, h2, by omega⟩
