/-! the answers of bend, carry, off, miss -/
section ANS
variable {I : hI} {n s kd : Nat}
theorem low_ex (hR : PlR I n) (hs : s < 2 ^ n) (hk : kd < 3) (h : okA (atC I) kd (nI s)) : ∃ E F : Int, Wy (atC I) kd (nI s) 0 3 = Int64.ofInt E ∧ 0 < E ∧ E ≤ 7200000000 ∧ Wy (atC I) kd (nI s) 1 3 = Int64.ofInt F ∧ 0 < F ∧ F ≤ 7200000000 := by
  obtain ⟨N, P, Dp, Pq, Dq, -, n1, n2, d1, d2, d3, d4, -, -, -, -, -, w1, -, w2, -⟩ := ok_parts (pow12 hs hR.1) (hR.A hs) hk h
  have m1 := mul_bd (a := N) (b := Dp) (m := 12) (n := 600000000) (by omega) (by omega)
  have m2 := mul_bd (a := N) (b := Dq) (m := 12) (n := 600000000) (by omega) (by omega)
  have p1 : 0 < N * Dp := Int.mul_pos (by omega) d1
  have p2 : 0 < N * Dq := Int.mul_pos (by omega) d3
  exact ⟨N * Dp, N * Dq, by rw [w1, Int64.ofInt_mul], p1, by omega, by rw [w2, Int64.ofInt_mul], p2, by omega⟩
theorem ne64 {E : Int} (h : 0 < E) (h2 : E ≤ 40000000000) : ¬ Int64.ofInt E = 0 := fun q => by
  have := congrArg Int64.toInt q
  rw [i64_toInt (by omega) (by omega), zero64] at this
  omega
theorem MW_29 {b : Int32} (hk : kd < 3) : MW I n kd b 29 = MW I n kd b 19 := by
  rcases (show kd = 0 ∨ kd = 1 ∨ kd = 2 by omega) with rfl | rfl | rfl <;> rfl
theorem MW_31 {b : Int32} : MW I n 2 b 31 = MW I n 2 b 23 := rfl
/-- the parts of THE BEND that the reference keeps apart -/
theorem pq_e (hR : PlR I n) (hs : s < 2 ^ n) (hk : kd < 3) (h : okA (atC I) kd (nI s)) : ∃ N P Dp Pq Dq : Int, 1 ≤ N ∧ N ≤ 12 ∧ 0 < Dp ∧ Dp ≤ 600000000 ∧ 0 < Dq ∧ Dq ≤ 600000000 ∧ -600000000 ≤ P ∧ P ≤ 600000000 ∧ -600000000 ≤ Pq ∧ Pq ≤ 600000000 ∧
      Wy (atC I) kd (nI s) 0 0 = Int64.ofInt N * Int64.ofInt P ∧ Wy (atC I) kd (nI s) 0 3 = Int64.ofInt N * Int64.ofInt Dp ∧ abQ (atC I) kd (nI s) = Int64.ofInt N * Int64.ofInt Pq ∧ Wy (atC I) kd (nI s) 1 3 = Int64.ofInt N * Int64.ofInt Dq ∧
      MW I n kd (nI s) 24 = Int64.ofInt P ∧ MW I n kd (nI s) 25 = Int64.ofInt Dp ∧ MW I n kd (nI s) 26 = Int64.ofInt Pq ∧ MW I n kd (nI s) 27 = Int64.ofInt Dq := by
  obtain ⟨N, P, Dp, Pq, Dq, -, n1, n2, d1, d2, d3, d4, p1, p2, q1, q2, w0, w1, w2, w3, k0, k1, k2⟩ := ok_parts (pow12 hs hR.1) (hR.A hs) hk h
  refine ⟨N, P, Dp, Pq, Dq, n1, n2, d1, d2, d3, d4, p1, p2, q1, q2, w0, w1, w2, w3, ?_⟩
  rcases (show kd = 0 ∨ kd = 1 ∨ kd = 2 by omega) with rfl | rfl | rfl
  · obtain ⟨rfl, rfl, rfl, rfl⟩ := k0 rfl
    exact ⟨rfl, rfl, rfl, rfl⟩
  · obtain ⟨a, b, c, d⟩ := k1 rfl
    refine ⟨?_, ?_, ?_, ?_⟩
    · rw [← a, ← p1_p hR hs]; rfl
    · rw [← b, ← dM_d hR hs]; rfl
    · rw [← c, ← q1_q hR hs]; rfl
    · rw [← d, ← dM_d hR hs]; rfl
  · obtain ⟨a, b, c, d⟩ := k2 rfl
    refine ⟨?_, ?_, ?_, ?_⟩
    · rw [← a, ← pM_SP hR hs (by decide) (by decide)]; rfl
    · rw [← b, ← pM_SP hR hs (by decide) (by decide)]; rfl
    · rw [← c, ← pM_SP hR hs (by decide) (by decide)]; rfl
    · rw [← d, ← pM_SP hR hs (by decide) (by decide)]; rfl
theorem low_ok (hR : PlR I n) (hs : s < 2 ^ n) (hk : kd < 3) (ho : okM I n kd (nI s)) : lowOk I n kd (nI s) ∧ ¬ 2 * MW I n kd (nI s) 19 = 0 ∧ ¬ 2 * MW I n kd (nI s) 23 = 0 := by
  have h := (ok_ok hR hs).mp ho
  obtain ⟨-, -, -, w3, -, -, -, v3⟩ := MW_Wy hR hs hk
  obtain ⟨E, F, e1, e2, e3, f1, f2, f3⟩ := low_ex hR hs hk h
  obtain ⟨N, P, Dp, Pq, Dq, n1, n2, d1, d2, d3, d4, p1, p2, q1, q2, -, -, -, -, -, m25, -, m27⟩ := pq_e hR hs hk h
  have a19 : MW I n kd (nI s) 19 = Int64.ofInt E := w3.trans e1
  have a23 : MW I n kd (nI s) 23 = Int64.ofInt F := v3.trans f1
  refine ⟨⟨?_, ?_, ?_, ?_, ?_, ?_⟩, ?_, ?_⟩
  · rw [a19]; exact ne64 e2 (by omega)
  · rw [a23]; exact ne64 f2 (by omega)
  · rw [m25]; exact ne64 d1 (by omega)
  · rw [m27]; exact ne64 d3 (by omega)
  · rw [MW_29 hk, a19]; exact ne64 e2 (by omega)
  · intro q; subst q; rw [MW_31, a23]; exact ne64 f2 (by omega)
  · rw [a19, show (2 : Int64) = Int64.ofInt 2 from rfl, ← Int64.ofInt_mul]; exact ne64 (by omega) (by omega)
  · rw [a23, show (2 : Int64) = Int64.ofInt 2 from rfl, ← Int64.ofInt_mul]; exact ne64 (by omega) (by omega)
theorem bend_e {w : Nat} (hR : PlR I n) (hs : s < 2 ^ n) (hk : kd < 3) (ho : okM I n kd (nI s)) : C_bend (atC I) kd (nI s) w = M_bend I n kd (nI s) w := by
  have h := (ok_ok hR hs).mp ho
  obtain ⟨w0, w1, w2, w3, v0, v1, v2, v3⟩ := MW_Wy hR hs hk
  obtain ⟨l0, l1⟩ := low_pos hR hs hk h
  obtain ⟨N, P, Dp, Pq, Dq, n1, n2, d1, d2, d3, d4, p1, p2, q1, q2, x0, x1, x2, x3, m24, m25, m26, m27⟩ := pq_e hR hs hk h
  unfold C_bend M_bend par2
  rw [clr_told l0, clr_told l1, clr_told l0, clr_told l1, w2, w3, v2, v3, m24, m25, m26, m27]
  rw [x0, x1, x2, x3, told_scale n1 n2 (by omega) (by omega) d1 (by omega), told_scale n1 n2 (by omega) (by omega) d3 (by omega)]
theorem carry_e {w : Nat} {x y : Int32} (hR : PlR I n) (hs : s < 2 ^ n) (hk : kd < 3) (ho : okM I n kd (nI s)) (hw : w < 4) : clr (abP (atC I) kd (nI s) (w / 2) x.toInt64 y.toInt64) (Wy (atC I) kd (nI s) (w / 2) 3) (nI (w % 2)) = M_carry I n kd (nI s) x y w := by
  have h := (ok_ok hR hs).mp ho
  obtain ⟨w0, w1, w2, w3, v0, v1, v2, v3⟩ := MW_Wy hR hs hk
  obtain ⟨l0, l1⟩ := low_pos hR hs hk h
  unfold M_carry abP par2
  by_cases q : w < 2
  · rw [if_pos q, show w / 2 = 0 by omega, clr_told l0, w0, w1, w2, w3]
  · rw [if_neg q, show w / 2 = 1 by omega, clr_told l1, v0, v1, v2, v3]
theorem offs_e {w p : Nat} (hR : PlR I n) (hs : s < 2 ^ n) (hk : kd < 3) (ho : okM I n kd (nI s)) (hp : p < n) (hw : w < 4) : clr (offP (atC I) kd (nI s) (w / 2) p) (Wy (atC I) kd (nI s) (w / 2) 3) (nI (w % 2)) = if w < 2 then toldM (offW I n kd (nI s) p 0) (MW I n kd (nI s) 19) (par2 w) else toldM (offW I n kd (nI s) p 1) (MW I n kd (nI s) 23) (par2 w) := by
  have h := (ok_ok hR hs).mp ho
  obtain ⟨w0, w1, w2, w3, v0, v1, v2, v3⟩ := MW_Wy hR hs hk
  obtain ⟨l0, l1⟩ := low_pos hR hs hk h
  unfold par2
  by_cases q : w < 2
  · rw [if_pos q, show w / 2 = 0 by omega, clr_told l0, w3, off0_e hR hs hk hp]
  · rw [if_neg q, show w / 2 = 1 by omega, clr_told l1, v3, off1_e hR hs hk hp]
theorem mis_e {ax : Nat} (hR : PlR I n) (hs : s < 2 ^ n) (hk : kd < 3) (hax : (kd = 2 ∧ ax < 2) ∨ ax = 0) : misP (atC I) kd (nI s) ax = MW I n kd (nI s) (28 + 2 * ax) := by
  have p := fun r q (h1 : r < 4) (h2 : q < 4) => pM_SP hR hs h1 h2
  have ed := dM_d hR hs
  have ep := p1_p hR hs
  have eq := q1_q hR hs
  unfold misP
  rcases (show kd = 0 ∨ kd = 1 ∨ kd = 2 by omega) with rfl | rfl | rfl
  · have h0 : ax = 0 := by omega
    subst h0
    show _ = pM I n (nI s) 0 0 - 2 * pM I n (nI s) 0 2 + pM I n (nI s) 2 2 + pM I n (nI s) 1 1 - 2 * pM I n (nI s) 1 3 + pM I n (nI s) 3 3
    rw [p 0 0 (by decide) (by decide), p 0 2 (by decide) (by decide), p 2 2 (by decide) (by decide), p 1 1 (by decide) (by decide), p 1 3 (by decide) (by decide), p 3 3 (by decide) (by decide)]
    simp only [if_true, Nat.zero_add, Nat.reduceAdd]
    grind
  · have h0 : ax = 0 := by omega
    subst h0
    show _ = (pM I n (nI s) 2 2 + pM I n (nI s) 3 3) * dM I n (nI s) - p1M I n (nI s) * p1M I n (nI s) - q1M I n (nI s) * q1M I n (nI s)
    rw [ed, ep, eq, p 2 2 (by decide) (by decide), p 3 3 (by decide) (by decide)]
    unfold dT pT qT
    simp only [if_true, if_false, show ¬ (1 : Nat) = 0 by decide]
    grind
  · rcases (show ax = 0 ∨ ax = 1 by omega) with rfl | rfl
    · show _ = pM I n (nI s) 2 2 * pM I n (nI s) 0 0 - pM I n (nI s) 0 2 * pM I n (nI s) 0 2
      rw [p 2 2 (by decide) (by decide), p 0 0 (by decide) (by decide), p 0 2 (by decide) (by decide)]
      simp only [if_false, show ¬ (2 : Nat) = 0 by decide, show ¬ (2 : Nat) = 1 by decide, Nat.zero_add]
      grind
    · show _ = pM I n (nI s) 3 3 * pM I n (nI s) 1 1 - pM I n (nI s) 1 3 * pM I n (nI s) 1 3
      rw [p 3 3 (by decide) (by decide), p 1 1 (by decide) (by decide), p 1 3 (by decide) (by decide)]
      simp only [if_false, show ¬ (2 : Nat) = 0 by decide, show ¬ (2 : Nat) = 1 by decide, Nat.reduceAdd]
      grind
theorem miss_e {w : Nat} (hR : PlR I n) (hs : s < 2 ^ n) (hk : kd < 3) (ho : okM I n kd (nI s)) (hw : (kd = 2 ∧ w < 4) ∨ w < 2) : clr (misP (atC I) kd (nI s) (w / 2)) (Wy (atC I) kd (nI s) (w / 2) 3) (nI (w % 2)) = if w < 2 then toldM (MW I n kd (nI s) 28) (MW I n kd (nI s) 29) (par2 w) else toldM (MW I n kd (nI s) 30) (MW I n kd (nI s) 31) (par2 w) := by
  have h := (ok_ok hR hs).mp ho
  obtain ⟨w0, w1, w2, w3, v0, v1, v2, v3⟩ := MW_Wy hR hs hk
  obtain ⟨l0, l1⟩ := low_pos hR hs hk h
  unfold par2
  by_cases q : w < 2
  · rw [if_pos q, show w / 2 = 0 by omega, clr_told l0, mis_e hR hs hk (Or.inr rfl), MW_29 hk, w3]
  · have hk2 : kd = 2 := by omega
    subst hk2
    rw [if_neg q, show w / 2 = 1 by omega, clr_told l1, mis_e hR hs hk (Or.inl ⟨rfl, by decide⟩), MW_31, v3]
end ANS
