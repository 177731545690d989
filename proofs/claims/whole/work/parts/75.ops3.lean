/-! rules, triangles, things, and the points that are dropped -/
section OPU
variable {l : Launch} {G : hQ} {I Z : hI} {J : hJ} {n sb ib nt : Nat} {ct : Nat → Nat}
theorem i_1000 : (1000 : Int32).toInt = 1000 := by decide +kernel
theorem i_2000 : (2000 : Int32).toInt = 2000 := by decide +kernel
theorem op_rule (h : Rel I) (w v : Int32) : OpI l G yX7_rule wsX7_rule 0 0 yX8_rule wsX8_rule 1 22 [.int w, .int v] I J := by
  obtain ⟨⟨n, sb, ib, nt, ct, hC⟩, hU⟩ := id h
  refine ⟨_, c_X7_rule l G I J w v, fun ρ I1 J1 hp => ?_⟩
  obtain ⟨e1, e2, e3⟩ := hp
  refine ⟨_, c_X8_rule l G I1 J1 w v, fun ρ' I2 J2 hq => ?_⟩
  obtain ⟨f1, f2, f3⟩ := hq
  by_cases a : w = 0 ∧ ¬ v < 0 ∧ ¬ 1000 < v
  · rw [if_pos a] at e1 e2
    have c : (0 ≤ w ∧ w ≤ 1) ∧ 0 ≤ v ∧ v ≤ (if w = 0 then 1000 else 2000) := by
      rw [if_pos a.1, a.1]; exact ⟨by decide, Int32.not_lt.mp a.2.1, Int32.not_lt.mp a.2.2⟩
    have w1 : ¬ w = 1 := by rw [a.1]; decide
    rw [if_pos c, if_pos a.1] at f1 f2
    rw [if_neg w1] at f2
    subst e2
    have z8 : I2 76 8 = v := by rw [← f2]; simp [h_up]
    have z9 : I2 76 9 = I 76 9 := by rw [← f2]; simp [h_up]
    have zc : ∀ c, c ≠ 0 → c ≠ 76 → I2 c = I c := by
      intro c q1 q2
      rw [← f2]; simp (disch := omega) only [h_up_ne]
    refine ⟨e1.symm.trans (hU.1.trans (Eq.trans ?_ f1)), ⟨n, sb, ib, nt, ct, hC.fr2 (fun c hc => zc c (by omega) (by omega)) (by rw [← f2]; simp [h_up]) (by rw [← f2]; simp [h_up])⟩, ru_mk hU ?_ ?_ (by rw [z9]; exact hU.2.2.1) (by rw [z9]; exact hU.2.2.2.1) (by rw [← f2]; simp [h_up]) (by rw [← f2]; simp [h_up]) (fun c hc => zc c (by omega) (by omega))⟩
    · simp [h_up]
    · rw [z8, ← f2]; simp [h_up]
    · rw [z9, ← hU.2.1, ← f2]; simp [h_up]
  · rw [if_neg a] at e1 e2
    by_cases b : w = 1 ∧ ¬ v < 0 ∧ ¬ 2000 < v
    · rw [if_pos b] at e1 e2
      have w0 : ¬ w = 0 := by rw [b.1]; decide
      have c : (0 ≤ w ∧ w ≤ 1) ∧ 0 ≤ v ∧ v ≤ (if w = 0 then 1000 else 2000) := by
        rw [if_neg w0, b.1]; exact ⟨by decide, Int32.not_lt.mp b.2.1, Int32.not_lt.mp b.2.2⟩
      rw [if_pos c, if_neg w0] at f1 f2
      rw [if_pos b.1] at f2
      subst e2
      have z8 : I2 76 8 = I 76 8 := by rw [← f2]; simp [h_up]
      have z9 : I2 76 9 = v := by rw [← f2]; simp [h_up]
      have zc : ∀ c, c ≠ 0 → c ≠ 76 → I2 c = I c := by
        intro c q1 q2
        rw [← f2]; simp (disch := omega) only [h_up_ne]
      have v0 := le32.mp (Int32.not_lt.mp b.2.1)
      have v1 := le32.mp (Int32.not_lt.mp b.2.2)
      rw [zero32] at v0
      rw [i_2000] at v1
      refine ⟨e1.symm.trans (hU.2.1.trans (Eq.trans ?_ f1)), ⟨n, sb, ib, nt, ct, hC.fr2 (fun c hc => zc c (by omega) (by omega)) (by rw [← f2]; simp [h_up]) (by rw [← f2]; simp [h_up])⟩, ru_mk hU ?_ ?_ (by rw [z9]; exact v0) (by rw [z9]; exact v1) (by rw [← f2]; simp [h_up]) (by rw [← f2]; simp [h_up]) (fun c hc => zc c (by omega) (by omega))⟩
      · simp [h_up]
      · rw [z8, ← hU.1, ← f2]; simp [h_up]
      · rw [z9, ← f2]; simp [h_up]
    · rw [if_neg b] at e1 e2
      have c : ¬ ((0 ≤ w ∧ w ≤ 1) ∧ 0 ≤ v ∧ v ≤ (if w = 0 then 1000 else 2000)) := by
        rintro ⟨⟨c1, c2⟩, c3, c4⟩
        by_cases w0 : w = 0
        · rw [if_pos w0] at c4
          exact a ⟨w0, Int32.not_lt.mpr c3, Int32.not_lt.mpr c4⟩
        · rw [if_neg w0] at c4
          refine b ⟨?_, Int32.not_lt.mpr c3, Int32.not_lt.mpr c4⟩
          have d1 := le32.mp c1
          have d2 := le32.mp c2
          have d3 : w.toInt ≠ 0 := fun e => w0 (eq32.mpr e)
          have d4 : (1 : Int32).toInt = 1 := rfl
          apply Int32.toInt_inj.mp
          rw [zero32] at d1
          rw [d4] at d2 ⊢
          omega
      rw [if_neg c] at f1 f2
      refine ⟨e1.symm.trans f1, ?_⟩
      rw [← f2, ← e2]; exact h
theorem pc_e {m a b c : Nat} (hR : PlR I n) (ha : a < n) (hb : b < n) (hc : c < n) (hm : m < 2) : (turnC I m a b c).toInt64 = pcr I m a b c := by
  have g : ∀ p, p < n → ∀ r, r < 2 → I 77 (4 * p + 2 * m + r) = I (4 + (2 * m + r)) p ∧ Bd (I (4 + (2 * m + r)) p) := fun p hp r hr => by
    have q := hR.2 p hp (2 * m + r) (by omega)
    rw [← Nat.add_assoc] at q
    exact q
  unfold turnC sideC pcr
  have a0 := g a ha 0 (by decide)
  have a1 := g a ha 1 (by decide)
  have b0 := g b hb 0 (by decide)
  have b1 := g b hb 1 (by decide)
  have c0 := g c hc 0 (by decide)
  have c1 := g c hc 1 (by decide)
  rw [Nat.add_zero, Nat.add_zero] at a0 b0 c0
  rw [a0.1, a1.1, b0.1, b1.1, c0.1, c1.1]
  exact side_64 a0.2 a1.2 b0.2 b1.2 c0.2 c1.2
theorem cu_tri {p q r : Nat} (h : CuR I n sb ib nt ct) (ht : nt < 10) (hp : p < n) (hq : q < n) (hr : r < n) (hZ : Z = addTM (addTr I nt (nI p) (nI q) (nI r)) nt (nI p) (nI q) (nI r)) : CuR Z n sb ib (nt + 1) ct := by
  obtain ⟨hP, ⟨g1, g2, g3, g4⟩, hH⟩ := h
  have zc : ∀ c, c ≠ 8 → ¬ (10 ≤ c ∧ c < 20) → c ≠ 76 → c ≠ 80 → Z c = I c := by
    intro c q1 q2 q3 q4
    rw [hZ]
    simp (disch := omega) only [addTM, addTr, h_up_ne]
  have e80 : addTr I nt (nI p) (nI q) (nI r) 80 = I 80 := by simp (disch := omega) only [addTr, h_up_ne]
  have r80 : ∀ j, Z 80 j = if 80 = 80 ∧ j = 3 * nt + 2 then nI r else if 80 = 80 ∧ j = 3 * nt + 1 then nI q else if 80 = 80 ∧ j = 3 * nt then nI p else I 80 j := by
    intro j; rw [← e80, hZ]; rfl
  have ra : ∀ t, t < 10 → ∀ j, Z (10 + t) j = if 10 + t = 10 + nt ∧ j = 2 then nI r else if 10 + t = 10 + nt ∧ j = 1 then nI q else if 10 + t = 10 + nt ∧ j = 0 then nI p else I (10 + t) j := by
    intro t ht j
    have e : addTM (addTr I nt (nI p) (nI q) (nI r)) nt (nI p) (nI q) (nI r) (10 + t) = addTr I nt (nI p) (nI q) (nI r) (10 + t) := by simp (disch := omega) only [addTM, h_up_ne]
    have e8 : h_up I 8 1 (nI nt + 1) (10 + t) = I (10 + t) := h_up_ne (by omega)
    rw [hZ, e, ← e8]; rfl
  refine ⟨?_, ⟨ht, ?_, ?_, fun t ht2 j hj => ?_⟩, ?_⟩
  · exact hP.c (by rw [zc 2 (by omega) (by omega) (by omega) (by omega)]) (fun r hr p _ => by show Z (4 + r) p = I (4 + r) p; rw [zc (4 + r) (by omega) (by omega) (by omega) (by omega)]) (by rw [zc 2 (by omega) (by omega) (by omega) (by omega)]) (by rw [zc 2 (by omega) (by omega) (by omega) (by omega)]) (by rw [hZ]; simp (disch := omega) only [addTM, addTr, h_up_ne, up_off]) (fun j _ => by rw [zc 77 (by omega) (by omega) (by omega) (by omega)]) (fun p _ => by rw [zc 78 (by omega) (by omega) (by omega) (by omega)]) (fun p _ => by rw [zc 79 (by omega) (by omega) (by omega) (by omega)])
  · have e : addTr I nt (nI p) (nI q) (nI r) 8 1 = nI nt + 1 := by
      unfold addTr
      rw [h_up_ne (by omega), h_up_ne (by omega), h_up_ne (by omega), up_hit]
    rw [nI_succ, ← e, hZ]
    simp (disch := omega) only [addTM, h_up_ne]
  · rw [nI_succ, hZ]; exact up_hit
  · show Z 80 (3 * t + j) = Z (10 + t) j ∧ ∃ k, k < n ∧ Z (10 + t) j = nI k
    by_cases w : t = nt
    · subst w
      rcases (show j = 0 ∨ j = 1 ∨ j = 2 by omega) with rfl | rfl | rfl
      · have z1 : Z 80 (3 * t + 0) = nI p := by rw [r80, if_neg (show ¬ (80 = 80 ∧ 3 * t + 0 = 3 * t + 2) by omega), if_neg (show ¬ (80 = 80 ∧ 3 * t + 0 = 3 * t + 1) by omega)]; exact if_pos ⟨rfl, rfl⟩
        have z2 : Z (10 + t) 0 = nI p := by rw [ra t (by omega), if_neg (show ¬ (10 + t = 10 + t ∧ 0 = 2) by omega), if_neg (show ¬ (10 + t = 10 + t ∧ 0 = 1) by omega)]; exact if_pos ⟨rfl, rfl⟩
        rw [z1, z2]; exact ⟨rfl, p, hp, rfl⟩
      · have z1 : Z 80 (3 * t + 1) = nI q := by rw [r80, if_neg (show ¬ (80 = 80 ∧ 3 * t + 1 = 3 * t + 2) by omega)]; exact if_pos ⟨rfl, rfl⟩
        have z2 : Z (10 + t) 1 = nI q := by rw [ra t (by omega), if_neg (show ¬ (10 + t = 10 + t ∧ 1 = 2) by omega)]; exact if_pos ⟨rfl, rfl⟩
        rw [z1, z2]; exact ⟨rfl, q, hq, rfl⟩
      · have z1 : Z 80 (3 * t + 2) = nI r := by rw [r80]; exact if_pos ⟨rfl, rfl⟩
        have z2 : Z (10 + t) 2 = nI r := by rw [ra t (by omega)]; exact if_pos ⟨rfl, rfl⟩
        rw [z1, z2]; exact ⟨rfl, r, hr, rfl⟩
    · have h2 : t < nt := by omega
      have z1 : Z 80 (3 * t + j) = I 80 (3 * t + j) := by rw [r80, if_neg (show ¬ (80 = 80 ∧ 3 * t + j = 3 * nt + 2) by omega), if_neg (show ¬ (80 = 80 ∧ 3 * t + j = 3 * nt + 1) by omega)]; exact if_neg (by omega)
      have z2 : Z (10 + t) j = I (10 + t) j := by rw [ra t (by omega), if_neg (show ¬ (10 + t = 10 + nt ∧ j = 2) by omega), if_neg (show ¬ (10 + t = 10 + nt ∧ j = 1) by omega)]; exact if_neg (by omega)
      rw [z1, z2]
      exact g4 t h2 j hj
  · exact hH.c (fun i hi => by show Z (20 + 4 * i) 0 = I (20 + 4 * i) 0; rw [zc (20 + 4 * i) (by omega) (by omega) (by omega) (by omega)]) (fun i hi q hq j _ => by show Z (21 + 4 * i + q) j = I (21 + 4 * i + q) j; rw [zc (21 + 4 * i + q) (by omega) (by omega) (by omega) (by omega)]) (fun i hi => by rw [zc 81 (by omega) (by omega) (by omega) (by omega)]) (fun j _ => by rw [zc 82 (by omega) (by omega) (by omega) (by omega)])
theorem op_triangle (h : Rel I) (p q r : Int32) : OpI l G yX7_triangle wsX7_triangle 2 51 yX8_triangle wsX8_triangle 2 43 [.int p, .int q, .int r] I J := by
  obtain ⟨⟨n, sb, ib, nt, ct, hC⟩, hU⟩ := id h
  have h12 := hC.n12
  have h10 := hC.t10
  refine ⟨_, c_X7_triangle l G I J p q r n hC.n0 hC.n12 nt hC.t0 hC.t10, fun ρ I1 J1 hp => ?_⟩
  obtain ⟨e1, e2, e3⟩ := hp
  have e20 : I 76 0 = I 2 0 := hC.n1.trans hC.n0.symm
  have zc1 : ∀ c, 28 ≤ c → I1 c = I c := by
    intro c hc
    rw [← e2]
    by_cases c1 : isP I p ∧ isP I q ∧ isP I r ∧ ¬ p = q ∧ ¬ p = r ∧ ¬ q = r
    · rw [if_pos c1]
      by_cases c2 : turnC I 0 (tn p) (tn q) (tn r) = 0 ∨ turnC I 1 (tn p) (tn q) (tn r) = 0
      · rw [if_pos c2]
      · rw [if_neg c2]
        by_cases c3 : nt < 10
        · rw [if_pos c3]; simp (disch := omega) only [addTr, h_up_ne]
        · rw [if_neg c3]
    · rw [if_neg c1]
  refine ⟨_, c_X8_triangle l G I1 J1 p q r n (by rw [zc1 76 (by omega)]; exact hC.n1) hC.n12 nt (by rw [zc1 76 (by omega)]; exact hC.t1) hC.t10, fun ρ' I2 J2 hq => ?_⟩
  obtain ⟨f1, f2, f3⟩ := hq
  have ep : ∀ m a b c, pcr I1 m a b c = pcr I m a b c := fun m a b c => by unfold pcr; rw [zc1 77 (by omega)]
  rw [zc1 76 (by omega), e20, ep, ep] at f1 f2
  by_cases c1 : isP I p ∧ isP I q ∧ isP I r ∧ ¬ p = q ∧ ¬ p = r ∧ ¬ q = r
  · rw [if_pos c1] at e1 e2 f1 f2
    have hp := has_tn c1.1 hC.n0 (by omega)
    have hq := has_tn c1.2.1 hC.n0 (by omega)
    have hr := has_tn c1.2.2.1 hC.n0 (by omega)
    have hz : (pcr I 0 (tn p) (tn q) (tn r) = 0 ∨ pcr I 1 (tn p) (tn q) (tn r) = 0) ↔ (turnC I 0 (tn p) (tn q) (tn r) = 0 ∨ turnC I 1 (tn p) (tn q) (tn r) = 0) := by
      rw [← pc_e hC.pl hp hq hr (by decide), ← pc_e hC.pl hp hq hr (by decide), s64_eq0, s64_eq0]
    by_cases c2 : turnC I 0 (tn p) (tn q) (tn r) = 0 ∨ turnC I 1 (tn p) (tn q) (tn r) = 0
    · rw [if_pos c2] at e1 e2
      rw [if_pos (hz.mpr c2)] at f1 f2
      refine ⟨e1.symm.trans f1, ?_⟩
      rw [← f2, ← e2]; exact h
    · rw [if_neg c2] at e1 e2
      rw [if_neg (mt hz.mp c2)] at f1 f2
      by_cases c3 : nt < 10
      · rw [if_pos c3] at e1 e2 f1 f2
        obtain ⟨a, ha, rfl⟩ := has_of c1.1 hC.n0 (by omega)
        obtain ⟨b, hb, rfl⟩ := has_of c1.2.1 hC.n0 (by omega)
        obtain ⟨c, hc, rfl⟩ := has_of c1.2.2.1 hC.n0 (by omega)
        subst e2
        refine ⟨e1.symm.trans f1, ⟨_, _, _, _, _, cu_tri hC c3 ha hb hc f2.symm⟩, ?_⟩
        have zc : ∀ c, c ≠ 8 → ¬ (10 ≤ c ∧ c < 20) → c ≠ 76 → c ≠ 80 → I2 c = I c := by
          intro c q1 q2 q3 q4
          rw [← f2]
          simp (disch := omega) only [addTM, addTr, h_up_ne]
        have z76 : ∀ j, j ≠ 4 → I2 76 j = I 76 j := by
          intro j hj
          rw [← f2]
          simp (disch := omega) only [addTM, addTr, h_up_ne, up_off]
        exact hU.fr (zc 0 (by omega) (by omega) (by omega) (by omega)) (z76 8 (by omega)) (z76 9 (by omega)) (z76 10 (by omega)) (fun c hc => zc c (by omega) (by omega) (by omega) (by omega))
      · rw [if_neg c3] at e1 e2 f1 f2
        refine ⟨e1.symm.trans f1, ?_⟩
        rw [← f2, ← e2]; exact h
  · rw [if_neg c1] at e1 e2 f1 f2
    refine ⟨e1.symm.trans f1, ?_⟩
    rw [← f2, ← e2]; exact h
/-- the things of one map, changed alike in both -/
theorem cu_th {ct' : Nat → Nat} (h : CuR I n sb ib nt ct) (zc : ∀ c, (2 ≤ c ∧ c < 20 ∨ 76 ≤ c) → c ≠ 81 → c ≠ 82 → Z c = I c) (hH : ThR ct' (fun m => Z (20 + 4 * m) 0) (fun m q => Z (21 + 4 * m + q)) (Z 81) (Z 82)) : CuR Z n sb ib nt ct' := by
  obtain ⟨hP, hT, -⟩ := h
  refine ⟨?_, ?_, hH⟩
  · exact hP.c (by rw [zc 2 (by omega) (by omega) (by omega)]) (fun r hr p _ => by show Z (4 + r) p = I (4 + r) p; rw [zc (4 + r) (by omega) (by omega) (by omega)]) (by rw [zc 2 (by omega) (by omega) (by omega)]) (by rw [zc 2 (by omega) (by omega) (by omega)]) (by rw [zc 76 (by omega) (by omega) (by omega)]) (fun j _ => by rw [zc 77 (by omega) (by omega) (by omega)]) (fun p _ => by rw [zc 78 (by omega) (by omega) (by omega)]) (fun p _ => by rw [zc 79 (by omega) (by omega) (by omega)])
  · exact hT.c (by rw [zc 8 (by omega) (by omega) (by omega)]) (fun t ht j _ => by show Z (10 + t) j = I (10 + t) j; rw [zc (10 + t) (by omega) (by omega) (by omega)]) (by rw [zc 76 (by omega) (by omega) (by omega)]) (fun j _ => by rw [zc 80 (by omega) (by omega) (by omega)])
def ctW (ct : Nat → Nat) (m v : Nat) : Nat → Nat := fun i => if i = m then v else ct i
theorem th_add {m : Nat} {kd x y : Int32} (h : CuR I n sb ib nt ct) (hm : m < 2) (h6 : ct m < 6) (hx : Bd x) (hy : Bd y) (hZ : Z = addThM (addTh I (20 + 4 * m) (ct m) kd x y) m (ct m) kd x y) : ThR (ctW ct m (ct m + 1)) (fun m => Z (20 + 4 * m) 0) (fun m q => Z (21 + 4 * m + q)) (Z 81) (Z 82) := by
  have e81 : addTh I (20 + 4 * m) (ct m) kd x y 81 = I 81 := by simp (disch := omega) only [addTh, h_up_ne]
  have e82 : addTh I (20 + 4 * m) (ct m) kd x y 82 = I 82 := by simp (disch := omega) only [addTh, h_up_ne]
  have r81 : ∀ j, Z 81 j = if j = m then nI (ct m) + 1 else I 81 j := by
    intro j
    rw [hZ]
    by_cases w : j = m
    · rw [if_pos w, w]; exact up_hit
    · rw [if_neg w, ← e81]
      unfold addThM
      rw [up_off w, h_up_ne (by omega), h_up_ne (by omega), h_up_ne (by omega)]
  have r82 : ∀ j, Z 82 j = if 82 = 82 ∧ j = 18 * m + 3 * ct m + 2 then y else if 82 = 82 ∧ j = 18 * m + 3 * ct m + 1 then x else if 82 = 82 ∧ j = 18 * m + 3 * ct m then kd else I 82 j := by
    intro j
    rw [hZ, ← e82]
    unfold addThM
    rw [h_up_ne (show 82 ≠ 81 by omega)]
    rfl
  have rc : ∀ i, i < 2 → Z (20 + 4 * i) 0 = if i = m then nI (ct m) + 1 else I (20 + 4 * i) 0 := by
    intro i hi
    have e : Z (20 + 4 * i) = addTh I (20 + 4 * m) (ct m) kd x y (20 + 4 * i) := by rw [hZ]; simp (disch := omega) only [addThM, h_up_ne]
    rw [e]
    unfold addTh
    rw [h_up_ne (by omega), h_up_ne (by omega), h_up_ne (by omega)]
    by_cases w : i = m
    · rw [if_pos w, w]; exact up_hit
    · rw [if_neg w, h_up_ne (by omega)]
  have ra : ∀ i, i < 2 → ∀ q, q < 3 → ∀ j, Z (21 + 4 * i + q) j = if i = m ∧ j = ct m then (if q = 2 then y else if q = 1 then x else kd) else I (21 + 4 * i + q) j := by
    intro i hi q hq j
    have e : Z (21 + 4 * i + q) = addTh I (20 + 4 * m) (ct m) kd x y (21 + 4 * i + q) := by rw [hZ]; simp (disch := omega) only [addThM, h_up_ne]
    rw [e]
    unfold addTh
    by_cases w : i = m
    · subst w
      by_cases v : j = ct i
      · rw [if_pos ⟨rfl, v⟩, v]
        rcases (show q = 0 ∨ q = 1 ∨ q = 2 by omega) with rfl | rfl | rfl
        · rw [h_up_ne (by omega), h_up_ne (by omega), show 21 + 4 * i + 0 = 20 + 4 * i + 1 by omega, up_hit]; rfl
        · rw [h_up_ne (by omega), show 21 + 4 * i + 1 = 20 + 4 * i + 2 by omega, up_hit]; rfl
        · rw [show 21 + 4 * i + 2 = 20 + 4 * i + 3 by omega, up_hit]; rfl
      · rw [if_neg (fun z => v z.2)]
        rcases (show q = 0 ∨ q = 1 ∨ q = 2 by omega) with rfl | rfl | rfl
        · rw [h_up_ne (by omega), h_up_ne (by omega), show 21 + 4 * i + 0 = 20 + 4 * i + 1 by omega, up_off v, h_up_ne (by omega)]
        · rw [h_up_ne (by omega), show 21 + 4 * i + 1 = 20 + 4 * i + 2 by omega, up_off v, h_up_ne (by omega), h_up_ne (by omega)]
        · rw [show 21 + 4 * i + 2 = 20 + 4 * i + 3 by omega, up_off v, h_up_ne (by omega), h_up_ne (by omega), h_up_ne (by omega)]
    · rw [if_neg (fun z => w z.1), h_up_ne (by omega), h_up_ne (by omega), h_up_ne (by omega), h_up_ne (by omega)]
  intro i hi
  obtain ⟨g1, g2, g3, g4⟩ := h.2.2 i hi
  by_cases w : i = m
  · subst w
    have ec : ctW ct i (ct i + 1) i = ct i + 1 := if_pos rfl
    rw [ec]
    refine ⟨by omega, ?_, ?_, fun j hj q hq => ?_⟩
    · show Z (20 + 4 * i) 0 = _
      rw [rc i hi, if_pos rfl, nI_succ]
    · rw [r81, if_pos rfl, nI_succ]
    · show Z 82 (18 * i + 3 * j + q) = Z (21 + 4 * i + q) j ∧ (1 ≤ q → Bd (Z (21 + 4 * i + q) j))
      by_cases v : j = ct i
      · subst v
        rw [ra i hi q hq, if_pos ⟨rfl, rfl⟩]
        rcases (show q = 0 ∨ q = 1 ∨ q = 2 by omega) with rfl | rfl | rfl
        · have z : Z 82 (18 * i + 3 * ct i + 0) = kd := by rw [r82, if_neg (show ¬ (82 = 82 ∧ 18 * i + 3 * ct i + 0 = 18 * i + 3 * ct i + 2) by omega), if_neg (show ¬ (82 = 82 ∧ 18 * i + 3 * ct i + 0 = 18 * i + 3 * ct i + 1) by omega)]; exact if_pos ⟨rfl, rfl⟩
          exact ⟨z, fun q => absurd q (by decide)⟩
        · have z : Z 82 (18 * i + 3 * ct i + 1) = x := by rw [r82, if_neg (show ¬ (82 = 82 ∧ 18 * i + 3 * ct i + 1 = 18 * i + 3 * ct i + 2) by omega)]; exact if_pos ⟨rfl, rfl⟩
          exact ⟨z, fun _ => hx⟩
        · have z : Z 82 (18 * i + 3 * ct i + 2) = y := by rw [r82]; exact if_pos ⟨rfl, rfl⟩
          exact ⟨z, fun _ => hy⟩
      · have z1 : Z 82 (18 * i + 3 * j + q) = I 82 (18 * i + 3 * j + q) := by rw [r82, if_neg (show ¬ (82 = 82 ∧ 18 * i + 3 * j + q = 18 * i + 3 * ct i + 2) by omega), if_neg (show ¬ (82 = 82 ∧ 18 * i + 3 * j + q = 18 * i + 3 * ct i + 1) by omega)]; exact if_neg (by omega)
        rw [z1, ra i hi q hq, if_neg (fun z => v z.2)]
        exact g4 j (by omega) q hq
  · have ec : ctW ct m (ct m + 1) i = ct i := if_neg w
    rw [ec]
    refine ⟨g1, ?_, ?_, fun j hj q hq => ?_⟩
    · show Z (20 + 4 * i) 0 = _
      rw [rc i hi, if_neg w]; exact g2
    · rw [r81, if_neg w]; exact g3
    · show Z 82 (18 * i + 3 * j + q) = Z (21 + 4 * i + q) j ∧ (1 ≤ q → Bd (Z (21 + 4 * i + q) j))
      have z1 : Z 82 (18 * i + 3 * j + q) = I 82 (18 * i + 3 * j + q) := by rw [r82, if_neg (show ¬ (82 = 82 ∧ 18 * i + 3 * j + q = 18 * m + 3 * ct m + 2) by omega), if_neg (show ¬ (82 = 82 ∧ 18 * i + 3 * j + q = 18 * m + 3 * ct m + 1) by omega)]; exact if_neg (by omega)
      rw [z1, ra i hi q hq, if_neg (fun z => w z.1)]
      exact g4 j hj q hq
theorem op_thing (h : Rel I) (m kd x y : Int32) : OpI l G yX7_thing wsX7_thing 1 24 yX8_thing wsX8_thing 2 43 [.int m, .int kd, .int x, .int y] I J := by
  obtain ⟨⟨n, sb, ib, nt, ct, hC⟩, hU⟩ := id h
  have h6 : ∀ m, m < 2 → ct m ≤ 6 := fun m hm => (hC.2.2 m hm).1
  refine ⟨_, c_X7_thing l G I J m kd x y ct (fun m hm => (hC.2.2 m hm).2.1) h6, fun ρ I1 J1 hp => ?_⟩
  obtain ⟨e1, e2, e3⟩ := hp
  have zc1 : ∀ c, c < 20 ∨ 28 ≤ c → I1 c = I c := by
    intro c hc
    rw [← e2]
    by_cases c1 : isMp m ∧ ¬ kd < 0 ∧ ¬ 6 ≤ kd ∧ Pl x y
    · have hm := mp_tn c1.1
      rw [if_pos c1]
      by_cases c3 : ct (tn m) < 6
      · rw [if_pos c3]; simp (disch := omega) only [addTh, h_up_ne]
      · rw [if_neg c3]
    · rw [if_neg c1]
  refine ⟨_, c_X8_thing l G I1 J1 m kd x y ct (fun m hm => by rw [zc1 81 (by omega)]; exact (hC.2.2 m hm).2.2.1) h6, fun ρ' I2 J2 hq => ?_⟩
  obtain ⟨f1, f2, f3⟩ := hq
  have hi : (isMp m ∧ ¬ kd < 0 ∧ ¬ 6 ≤ kd ∧ Pl x y) ↔ ((0 ≤ m ∧ m ≤ 1) ∧ (0 ≤ kd ∧ kd ≤ 5) ∧ Pl x y) := by
    have k5 : ¬ 6 ≤ kd ↔ kd ≤ 5 := by
      rw [le32, le32]
      have : (6 : Int32).toInt = 6 := rfl
      have : (5 : Int32).toInt = 5 := rfl
      omega
    rw [mp_iff, Int32.not_lt, k5]
    exact ⟨fun ⟨a, b, c, d⟩ => ⟨a, ⟨b, c⟩, d⟩, fun ⟨a, ⟨b, c⟩, d⟩ => ⟨a, b, c, d⟩⟩
  by_cases c1 : isMp m ∧ ¬ kd < 0 ∧ ¬ 6 ≤ kd ∧ Pl x y
  · have hm := mp_tn c1.1
    rw [if_pos c1] at e1 e2
    rw [if_pos (hi.mp c1)] at f1 f2
    by_cases c3 : ct (tn m) < 6
    · rw [if_pos c3] at e1 e2 f1 f2
      subst e2
      have zc : ∀ c, c < 20 ∨ 28 ≤ c → c ≠ 81 → c ≠ 82 → I2 c = I c := by
        intro c hc q1 q2
        rw [← f2, ← zc1 c hc]
        simp (disch := omega) only [addThM, h_up_ne]
      refine ⟨e1.symm.trans f1, ⟨_, _, _, _, _, cu_th hC (fun c hc q1 q2 => zc c (by omega) q1 q2) (th_add hC hm c3 c1.2.2.2.bx c1.2.2.2.by f2.symm)⟩, ?_⟩
      have z76 := zc 76 (by omega) (by omega) (by omega)
      exact hU.fr (zc 0 (by omega) (by omega) (by omega)) (by rw [z76]) (by rw [z76]) (by rw [z76]) (fun c hc => zc c (by omega) (by omega) (by omega))
    · rw [if_neg c3] at e1 e2 f1 f2
      refine ⟨e1.symm.trans f1, ?_⟩
      rw [← f2, ← e2]; exact h
  · rw [if_neg c1] at e1 e2
    rw [if_neg (mt hi.mpr c1)] at f1 f2
    refine ⟨e1.symm.trans f1, ?_⟩
    rw [← f2, ← e2]; exact h
theorem op_sweep (h : Rel I) (m : Int32) : OpI l G yX7_sweep wsX7_sweep 1 21 yX8_sweep wsX8_sweep 2 42 [.int m] I J := by
  obtain ⟨⟨n, sb, ib, nt, ct, hC⟩, hU⟩ := id h
  refine ⟨_, c_X7_sweep l G I J m, fun ρ I1 J1 hp => ?_⟩
  obtain ⟨e1, e2, e3⟩ := hp
  refine ⟨_, c_X8_sweep l G I1 J1 m, fun ρ' I2 J2 hq => ?_⟩
  obtain ⟨f1, f2, f3⟩ := hq
  by_cases c1 : isMp m
  · have hm := mp_tn c1
    rw [if_pos c1] at e1 e2
    rw [if_pos (mp_iff.mp c1)] at f1 f2
    generalize tn m = k at e1 e2 f1 f2 hm
    have e81 : I1 81 = I 81 := by rw [← e2, h_up_ne (by omega)]
    rw [e81] at f1
    obtain ⟨g1, g2, g3, g4⟩ := hC.2.2 k hm
    have zc : ∀ c, c ≠ 20 + 4 * k → c ≠ 81 → I2 c = I c := by
      intro c q1 q2
      rw [← f2, h_up_ne q2, ← e2, h_up_ne q1]
    refine ⟨e1.symm.trans ((g2.trans g3.symm).trans f1), ⟨n, sb, ib, nt, ctW ct k 0, cu_th hC (fun c hc q1 q2 => zc c (by omega) q1) ?_⟩, ?_⟩
    · intro i hi
      obtain ⟨g1, g2, g3, g4⟩ := hC.2.2 i hi
      by_cases w : i = k
      · subst w
        have ec : ctW ct i 0 i = 0 := if_pos rfl
        rw [ec]
        refine ⟨by omega, ?_, ?_, fun j hj => absurd hj (by omega)⟩
        · show I2 (20 + 4 * i) 0 = nI 0
          rw [← f2, h_up_ne (by omega), ← e2, up_hit]; rfl
        · rw [← f2, up_hit]; rfl
      · have ec : ctW ct k 0 i = ct i := if_neg w
        rw [ec]
        refine ⟨g1, ?_, ?_, fun j hj q hq => ?_⟩
        · show I2 (20 + 4 * i) 0 = nI (ct i)
          rw [zc (20 + 4 * i) (by omega) (by omega)]; exact g2
        · rw [← f2, up_off w, e81]; exact g3
        · show I2 82 (18 * i + 3 * j + q) = I2 (21 + 4 * i + q) j ∧ (1 ≤ q → Bd (I2 (21 + 4 * i + q) j))
          rw [zc 82 (by omega) (by omega), zc (21 + 4 * i + q) (by omega) (by omega)]
          exact g4 j hj q hq
    · have z76 := zc 76 (by omega) (by omega)
      exact hU.fr (zc 0 (by omega) (by omega)) (by rw [z76]) (by rw [z76]) (by rw [z76]) (fun c hc => zc c (by omega) (by omega))
  · rw [if_neg c1] at e1 e2
    rw [if_neg (mt mp_iff.mpr c1)] at f1 f2
    refine ⟨e1.symm.trans f1, ?_⟩
    rw [← f2, ← e2]; exact h
theorem cM_c {I I' : hI} (h8 : I' 78 = I 78) (h9 : I' 79 = I 79) : ∀ n, cM I' n = cM I n
  | 0 => rfl
  | n + 1 => by unfold cM; rw [cM_c h8 h9 n, h8, h9]
theorem dr_bit {a : Bool} {o p : Nat} (hp : p < 31) : (if ¬ bI a = 0 ∧ nI o >>> (nI p &&& 31) &&& 1 = 0 then (1 : Int32) else 0) = bI (a && !o.testBit p) := by
  rw [bit_val o p hp]
  cases a <;> cases o.testBit p <;> decide
theorem op_drop (h : Rel I) (k : Int32) : OpI l G yX7_drop wsX7_drop 6 140 yX8_drop wsX8_drop 5 124 [.int k] I J := by
  obtain ⟨⟨n, sb, ib, nt, ct, hC⟩, hU⟩ := id h
  have h12 := hC.n12
  have h4 := pow12 hC.slt h12
  refine ⟨_, c_X7_drop l G I J k, fun ρ I1 J1 hp => ?_⟩
  obtain ⟨e1, S⟩ := hp
  rw [hC.cb] at e1 S
  generalize hL : lyK (atC I) k (nI (sb &&& ib)) (I 0 5) = L at e1 S
  have zc1 : ∀ c, c < 55 ∨ 76 ≤ c → c ≠ 2 → I1 c = I c := by
    intro c hc q
    rw [S.1 c hc]
    by_cases w : 0 ≤ L
    · rw [if_pos w, h_up_ne q]
    · rw [if_neg w]
  have hP1 : PlR I1 n := ⟨h12, fun p hp r hr => by
    rw [zc1 77 (by omega) (by omega), zc1 (4 + r) (by omega) (by omega)]; exact hC.pl.2 p hp r hr⟩
  have hat : atC I1 = atC I := by
    funext r j
    show (if r < 4 then I1 (4 + r) j else 0) = if r < 4 then I (4 + r) j else 0
    by_cases w : r < 4
    · rw [if_pos w, if_pos w, zc1 (4 + r) (by omega) (by omega)]
    · rw [if_neg w, if_neg w]
  have hl1 : I1 0 5 = I1 76 8 := by rw [zc1 0 (by omega) (by omega), zc1 76 (by omega) (by omega)]; exact hU.1
  have hM : lyM I1 n (sb &&& ib) k = L := by
    rw [← ly_e hP1 hC.slt hl1, hat, zc1 0 (by omega) (by omega)]; exact hL
  have hcm : cM I1 n = nI (sb &&& ib) := by rw [cM_c (zc1 78 (by omega) (by omega)) (zc1 79 (by omega) (by omega)), hC.cm]
  refine ⟨_, c_X8_drop l G I1 J1 k n (by rw [zc1 76 (by omega) (by omega)]; exact hC.n1) h12 (sb &&& ib) hcm h4, fun ρ' I2 J2 hq => ?_⟩
  obtain ⟨f1, f2, f3, f4⟩ := hq
  rw [hM] at f1 f3
  have zc2 : ∀ c, c < 55 ∨ 76 ≤ c → c ≠ 2 → c ≠ 79 → I2 c = I c := fun c hc q1 q2 => by rw [f2 c q2, zc1 c hc q1]
  have hR2 : RuR I2 := hU.fr (zc2 0 (by omega) (by omega) (by omega)) (by rw [zc2 76 (by omega) (by omega) (by omega)]) (by rw [zc2 76 (by omega) (by omega) (by omega)]) (by rw [zc2 76 (by omega) (by omega) (by omega)]) (fun c hc => zc2 c (by omega) (by omega) (by omega))
  have hv := ly_val (I := I1) (n := n) (k := k) h4
  rw [hM] at hv
  by_cases w : 0 ≤ L
  · have ho : ∃ o, o ≤ sb &&& ib ∧ L = nI o := by
      rcases hv with e | e | e | e
      · rw [e] at w; exact absurd w (by decide)
      · rw [e] at w; exact absurd w (by decide)
      · rw [e] at w; exact absurd w (by decide)
      · exact e
    obtain ⟨o, ho, rfl⟩ := ho
    rw [if_pos w] at e1 S f1
    have i2 : I2 2 = h_up I 2 3 (I 2 3 &&& (nI o ^^^ -1)) 2 := by rw [f2 2 (by omega), S.1 2 (by omega)]
    refine ⟨e1.symm.trans ((pop_mof o (by omega)).trans f1), ⟨n, sb, dif ib o, nt, ct, cu_in hC (Nat.lt_of_le_of_lt (dif_le _ _) hC.1.2.2.1) (fun c hc q1 q2 => zc2 c (by omega) q1 q2) ?_ ?_ ?_ (fun p hp => ?_)⟩, hR2⟩
    · rw [i2]; exact up_off (by decide)
    · rw [i2]; exact up_off (by decide)
    · rw [i2, up_hit, hC.1.2.2.2.2.2.1, and_not]
    · rw [f3 p hp, if_pos w, dif_tb _ _ (by omega)]
      unfold drI
      rw [zc1 79 (by omega) (by omega), (hC.1.2.2.2.2.2.2.2.2 p hp).2]
      exact dr_bit (by omega)
  · rw [if_neg w] at e1 S f1
    have i2 : I2 2 = I 2 := by rw [f2 2 (by omega), S.1 2 (by omega)]
    refine ⟨e1.symm.trans f1, ⟨n, sb, ib, nt, ct, cu_in hC hC.1.2.2.1 (fun c hc q1 q2 => zc2 c (by omega) q1 q2) (by rw [i2]) (by rw [i2]) (by rw [i2]; exact hC.1.2.2.2.2.2.1) (fun p hp => ?_)⟩, hR2⟩
    rw [f3 p hp, if_neg w, zc1 79 (by omega) (by omega)]
    exact (hC.1.2.2.2.2.2.2.2.2 p hp).2
end OPU
