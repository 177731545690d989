/-! the answers of bend, carry, off, miss, beyond are one -/
theorem mul_sub_bd {N S x y : Int} (h1 : 0 ≤ N) (h2 : N ≤ 12) (h3 : -12000000 ≤ S) (h4 : S ≤ 12000000) (h5 : -12000 ≤ x) (h6 : x ≤ 12000) (h7 : -12000 ≤ y) (h8 : y ≤ 12000) : -288000000 ≤ N * S - x * y ∧ N * S - x * y ≤ 288000000 := by
  have m1 := mul_bd (a := N) (b := S) (m := 12) (n := 12000000) (by omega) (by omega)
  have m2 := mul_bd (a := x) (b := y) (m := 12000) (n := 12000) (by omega) (by omega)
  omega
theorem SP_ex {a : aT} {s r q : Nat} {N : Int} (hA : BdA a (nI s)) (hr : r < 4) (hq : q < 4) (hN : nB (nI s) = Int64.ofInt N) (h0 : 0 ≤ N) (h12 : N ≤ 12) : ∃ E : Int, SP a (nI s) r q = Int64.ofInt E ∧ -288000000 ≤ E ∧ E ≤ 288000000 ∧ (r = q → N = 0 → E ≤ 0) := by
  obtain ⟨S, s1, s2, s3⟩ := spA_bd hA hr hq
  obtain ⟨x, x1, x2, x3⟩ := smA_bd hA hr
  obtain ⟨y, y1, y2, y3⟩ := smA_bd hA hq
  have hb := mul_sub_bd h0 h12 s2 s3 x2 x3 y2 y3
  refine ⟨N * S - x * y, ?_, hb.1, hb.2, fun e e0 => ?_⟩
  · unfold SP; rw [hN, s1, x1, y1, Int64.ofInt_sub, Int64.ofInt_mul, Int64.ofInt_mul]
  · subst e
    have exy : Int64.ofInt x = Int64.ofInt y := x1.symm.trans y1
    have : x = y := by
      have := congrArg Int64.toInt exy
      rw [i64_toInt (by omega) (by omega), i64_toInt (by omega) (by omega)] at this
      exact this
    subst this
    have hsq : 0 ≤ x * x := by
      rcases Int.le_total 0 x with h | h
      · exact Int.mul_nonneg h h
      · exact Int.mul_nonneg_of_nonpos_of_nonpos h h
    rw [e0, Int.zero_mul]
    omega
theorem pos64 {E : Int} (h1 : -9223372036854775808 ≤ E) (h2 : E < 9223372036854775808) : ¬ Int64.ofInt E ≤ 0 ↔ 0 < E := by
  rw [le64, i64_toInt h1 h2, zero64]; omega
theorem pos64' {E : Int} (h1 : -9223372036854775808 ≤ E) (h2 : E < 9223372036854775808) : 0 < Int64.ofInt E ↔ 0 < E := by
  rw [lt64, i64_toInt h1 h2, zero64]
/-- the parts of THE BEND, where POINTS suffice -/
theorem ok_parts {a : aT} {s kd : Nat} (hs : s < 4096) (hA : BdA a (nI s)) (hk : kd < 3) (h : okA a kd (nI s)) :
    ∃ N P Dp Pq Dq : Int, nB (nI s) = Int64.ofInt N ∧ 1 ≤ N ∧ N ≤ 12 ∧ 0 < Dp ∧ Dp ≤ 600000000 ∧ 0 < Dq ∧ Dq ≤ 600000000 ∧ -600000000 ≤ P ∧ P ≤ 600000000 ∧ -600000000 ≤ Pq ∧ Pq ≤ 600000000 ∧
      Wy a kd (nI s) 0 0 = Int64.ofInt N * Int64.ofInt P ∧ Wy a kd (nI s) 0 3 = Int64.ofInt N * Int64.ofInt Dp ∧ abQ a kd (nI s) = Int64.ofInt N * Int64.ofInt Pq ∧ Wy a kd (nI s) 1 3 = Int64.ofInt N * Int64.ofInt Dq ∧
      (kd = 0 → P = 1 ∧ Dp = 1 ∧ Pq = 0 ∧ Dq = 1) ∧ (kd = 1 → pT a (nI s) = Int64.ofInt P ∧ dT a (nI s) = Int64.ofInt Dp ∧ qT a (nI s) = Int64.ofInt Pq ∧ dT a (nI s) = Int64.ofInt Dq) ∧ (kd = 2 → SP a (nI s) 0 2 = Int64.ofInt P ∧ SP a (nI s) 0 0 = Int64.ofInt Dp ∧ SP a (nI s) 1 3 = Int64.ofInt Pq ∧ SP a (nI s) 1 1 = Int64.ofInt Dq) := by
  obtain ⟨N, hN, h0, h12⟩ := nB_bd hs
  obtain ⟨e00, a1, a2, a3, a4⟩ := SP_ex hA (show 0 < 4 by decide) (show 0 < 4 by decide) hN h0 h12
  obtain ⟨e11, b1, b2, b3, b4⟩ := SP_ex hA (show 1 < 4 by decide) (show 1 < 4 by decide) hN h0 h12
  obtain ⟨e02, c1, c2, c3, -⟩ := SP_ex hA (show 0 < 4 by decide) (show 2 < 4 by decide) hN h0 h12
  obtain ⟨e13, d1, d2, d3, -⟩ := SP_ex hA (show 1 < 4 by decide) (show 3 < 4 by decide) hN h0 h12
  obtain ⟨e03, f1, f2, f3, -⟩ := SP_ex hA (show 0 < 4 by decide) (show 3 < 4 by decide) hN h0 h12
  obtain ⟨e12, g1, g2, g3, -⟩ := SP_ex hA (show 1 < 4 by decide) (show 2 < 4 by decide) hN h0 h12
  rcases h with ⟨rfl, h⟩ | ⟨rfl, h⟩ | ⟨rfl, h, h'⟩
  · rw [hN, pos64 (by omega) (by omega)] at h
    refine ⟨N, 1, 1, 0, 1, hN, by omega, h12, by omega, by omega, by omega, by omega, by omega, by omega, by omega, by omega, ?_, ?_, ?_, ?_, fun _ => ⟨rfl, rfl, rfl, rfl⟩, fun q => (by cases q), fun q => (by cases q)⟩
    · simp [Wy, hN]
    · simp [Wy, hN]
    · simp [abQ]
    · simp [Wy, hN]
  · have ed : dT a (nI s) = Int64.ofInt (e00 + e11) := by unfold dT; rw [a1, b1, Int64.ofInt_add]
    have ep : pT a (nI s) = Int64.ofInt (e02 + e13) := by unfold pT; rw [c1, d1, Int64.ofInt_add]
    have eq : qT a (nI s) = Int64.ofInt (e03 - e12) := by unfold qT; rw [f1, g1, Int64.ofInt_sub]
    rw [ed, pos64 (by omega) (by omega)] at h
    have hN1 : 1 ≤ N := by
      by_cases q : N = 0
      · have := a4 rfl q; have := b4 rfl q; omega
      · omega
    refine ⟨N, e02 + e13, e00 + e11, e03 - e12, e00 + e11, hN, hN1, h12, h, by omega, h, by omega, by omega, by omega, by omega, by omega, ?_, ?_, ?_, ?_, fun q => (by cases q), fun _ => ⟨ep, ed, eq, ed⟩, fun q => (by cases q)⟩
    · simp [Wy, hN, ep]
    · simp [Wy, hN, ed]
    · simp [abQ, Wy, hN, eq]
    · simp [Wy, hN, ed]
  · rw [a1, pos64 (by omega) (by omega)] at h
    rw [b1, pos64 (by omega) (by omega)] at h'
    have hN1 : 1 ≤ N := by
      by_cases q : N = 0
      · have := a4 rfl q; omega
      · omega
    refine ⟨N, e02, e00, e13, e11, hN, hN1, h12, h, by omega, h', by omega, by omega, by omega, by omega, by omega, ?_, ?_, ?_, ?_, fun q => (by cases q), fun q => (by cases q), fun _ => ⟨c1, a1, d1, b1⟩⟩
    · simp [Wy, hN, c1]
    · simp [Wy, hN, a1]
    · simp [abQ, Wy, hN, d1]
    · simp [Wy, hN, b1]
theorem PlR.A {I : hI} {n s : Nat} (hR : PlR I n) (hs : s < 2 ^ n) : BdA (atC I) (nI s) := by
  intro k hk hb r hr
  have hkn : k < n := by
    by_cases q : k < n
    · exact q
    · exact absurd hb (bit_ge hs hR.1 (by omega) hk)
  simp only [atC, hr, if_true]
  exact (hR.2 k hkn r hr).2
theorem low_pos {I : hI} {n s kd : Nat} (hR : PlR I n) (hs : s < 2 ^ n) (hk : kd < 3) (h : okA (atC I) kd (nI s)) : 0 < Wy (atC I) kd (nI s) 0 3 ∧ 0 < Wy (atC I) kd (nI s) 1 3 := by
  obtain ⟨N, P, Dp, Pq, Dq, -, n1, n2, d1, d2, d3, d4, -, -, -, -, -, w1, -, w2, -⟩ := ok_parts (pow12 hs hR.1) (hR.A hs) hk h
  have m1 := mul_bd (a := N) (b := Dp) (m := 12) (n := 600000000) (by omega) (by omega)
  have m2 := mul_bd (a := N) (b := Dq) (m := 12) (n := 600000000) (by omega) (by omega)
  have p1 : 0 < N * Dp := Int.mul_pos (by omega) d1
  have p2 : 0 < N * Dq := Int.mul_pos (by omega) d3
  rw [w1, w2, ← Int64.ofInt_mul, ← Int64.ofInt_mul, pos64' (by omega) (by omega), pos64' (by omega) (by omega)]
  exact ⟨p1, p2⟩
