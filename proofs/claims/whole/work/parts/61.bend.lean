/-! the bend of the class and that of the reference are one -/
/-- what ties the places: n POINTS, their numbers alike and within the bounds -/
abbrev PlR (I : hI) (n : Nat) : Prop := n ≤ 12 ∧ ∀ p, p < n → ∀ r, r < 4 → I 77 (4 * p + r) = I (4 + r) p ∧ Bd (I (4 + r) p)
theorem sum_cut {f g : Nat → Int64} {b : Int32} {s n : Nat} (hb : b = nI s) (hs : s < 2 ^ n) (hn : n ≤ 12) (h : ∀ k, k < n → bitOn b k → f k = g k) : sumTo (fun k => if bitOn b k then f k else 0) n = sumTo (fun k => if bitOn b k then g k else 0) 12 := by
  subst hb
  obtain ⟨d, hd⟩ : ∃ d, 12 = n + d := ⟨12 - n, by omega⟩
  have e : sumTo (fun k => if bitOn (nI s) k then g k else 0) 12 = sumTo (fun k => if bitOn (nI s) k then g k else 0) n := by
    rw [hd]
    exact sumTo_z (fun k h1 h2 => if_neg (bit_ge hs hn h1 (by omega)))
  rw [e]
  refine sumTo_c (fun k hk => ?_)
  by_cases q : bitOn (nI s) k
  · rw [if_pos q, if_pos q, h k hk q]
  · rw [if_neg q, if_neg q]
theorem one64 : (1 : Int32).toInt64 = 1 := rfl
theorem sM_sm {I : hI} {n s r : Nat} (hR : PlR I n) (hs : s < 2 ^ n) (hr : r < 4) : sM I n (nI s) r 4 = smA (atC I) (nI s) r := by
  unfold sM smA
  refine sum_cut rfl hs hR.1 (fun k hk _ => ?_)
  have h4 : ¬ r = 4 := by omega
  simp only [pv, h4, if_false, if_true, atC, hr, (hR.2 k hk r hr).1, one64, Int64.mul_one]
theorem sM_sp {I : hI} {n s r q : Nat} (hR : PlR I n) (hs : s < 2 ^ n) (hr : r < 4) (hq : q < 4) : sM I n (nI s) r q = spA (atC I) (nI s) r q := by
  unfold sM spA
  refine sum_cut rfl hs hR.1 (fun k hk _ => ?_)
  have h4 : ¬ r = 4 := by omega
  have h5 : ¬ q = 4 := by omega
  simp only [pv, h4, h5, if_false, if_true, atC, hr, hq, (hR.2 k hk r hr).1, (hR.2 k hk q hq).1]
  exact (mul64 (hR.2 k hk r hr).2 (hR.2 k hk q hq).2).symm
theorem pow12 {n s : Nat} (hs : s < 2 ^ n) (hn : n ≤ 12) : s < 4096 := Nat.lt_of_lt_of_le hs (show 2 ^ n ≤ 2 ^ 12 from Nat.pow_le_pow_right (by decide) hn)
theorem sM_n {I : hI} {n s : Nat} (hn : n ≤ 12) (hs : s < 2 ^ n) : sM I n (nI s) 4 4 = nB (nI s) := by
  rw [nB_sum s (pow12 hs hn)]
  unfold sM
  refine sum_cut rfl hs hn (fun k hk _ => ?_)
  simp only [pv, if_true, one64, Int64.mul_one]
theorem pM_SP {I : hI} {n s r q : Nat} (hR : PlR I n) (hs : s < 2 ^ n) (hr : r < 4) (hq : q < 4) : pM I n (nI s) r q = SP (atC I) (nI s) r q := by
  unfold pM SP
  rw [sM_n hR.1 hs, sM_sp hR hs hr hq, sM_sm hR hs hr, sM_sm hR hs hq]
theorem dM_d {I : hI} {n s : Nat} (hR : PlR I n) (hs : s < 2 ^ n) : dM I n (nI s) = dT (atC I) (nI s) := by unfold dM dT; rw [pM_SP hR hs (by decide) (by decide), pM_SP hR hs (by decide) (by decide)]
theorem p1_p {I : hI} {n s : Nat} (hR : PlR I n) (hs : s < 2 ^ n) : p1M I n (nI s) = pT (atC I) (nI s) := by unfold p1M pT; rw [pM_SP hR hs (by decide) (by decide), pM_SP hR hs (by decide) (by decide)]
theorem q1_q {I : hI} {n s : Nat} (hR : PlR I n) (hs : s < 2 ^ n) : q1M I n (nI s) = qT (atC I) (nI s) := by unfold q1M qT; rw [pM_SP hR hs (by decide) (by decide), pM_SP hR hs (by decide) (by decide)]
theorem ok_ok {I : hI} {n s kd : Nat} (hR : PlR I n) (hs : s < 2 ^ n) : okM I n kd (nI s) ↔ okA (atC I) kd (nI s) := by
  unfold okM okA
  rw [sM_n hR.1 hs, dM_d hR hs, pM_SP hR hs (by decide) (by decide), pM_SP hR hs (by decide) (by decide)]
theorem MW_Wy {I : hI} {n s kd : Nat} (hR : PlR I n) (hs : s < 2 ^ n) (hk : kd < 3) : MW I n kd (nI s) 16 = Wy (atC I) kd (nI s) 0 0 ∧ MW I n kd (nI s) 17 = Wy (atC I) kd (nI s) 0 1 ∧ MW I n kd (nI s) 18 = Wy (atC I) kd (nI s) 0 2 ∧ MW I n kd (nI s) 19 = Wy (atC I) kd (nI s) 0 3 ∧ MW I n kd (nI s) 20 = Wy (atC I) kd (nI s) 1 0 ∧ MW I n kd (nI s) 21 = Wy (atC I) kd (nI s) 1 1 ∧ MW I n kd (nI s) 22 = Wy (atC I) kd (nI s) 1 2 ∧ MW I n kd (nI s) 23 = Wy (atC I) kd (nI s) 1 3 := by
  have e4 := sM_n (I := I) hR.1 hs
  have m0 := sM_sm hR hs (show 0 < 4 by decide)
  have m1 := sM_sm hR hs (show 1 < 4 by decide)
  have m2 := sM_sm hR hs (show 2 < 4 by decide)
  have m3 := sM_sm hR hs (show 3 < 4 by decide)
  have ed := dM_d hR hs
  have ep := p1_p hR hs
  have eq := q1_q hR hs
  have p00 := pM_SP hR hs (show 0 < 4 by decide) (show 0 < 4 by decide)
  have p11 := pM_SP hR hs (show 1 < 4 by decide) (show 1 < 4 by decide)
  have p02 := pM_SP hR hs (show 0 < 4 by decide) (show 2 < 4 by decide)
  have p13 := pM_SP hR hs (show 1 < 4 by decide) (show 3 < 4 by decide)
  rcases (show kd = 0 ∨ kd = 1 ∨ kd = 2 by omega) with rfl | rfl | rfl
  · simp [MW, MW0, Wy, e4, m0, m1, m2, m3]
  · simp [MW, MW1, Wy, e4, m0, m1, m2, m3, ed, ep, eq, Int64.mul_comm]
  · simp [MW, MW2, Wy, e4, m0, m1, m2, m3, p00, p11, p02, p13, Int64.mul_comm]
