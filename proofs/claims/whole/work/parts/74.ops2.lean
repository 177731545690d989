/-! the methods that change the table: one answer, and the tie holds -/
theorem or_lt {s n : Nat} (h : s < 2 ^ n) : s ||| 2 ^ n < 2 ^ (n + 1) := Nat.or_lt_two_pow (Nat.lt_of_lt_of_le h (Nat.pow_le_pow_right (by decide) (by omega))) (Nat.pow_lt_pow_right (by decide) (by omega))
theorem or_tb {s p q : Nat} : (s ||| 2 ^ p).testBit q = (s.testBit q || decide (p = q)) := by rw [Nat.testBit_or, Nat.testBit_two_pow]
theorem bI_inj {a b : Bool} (h : bI a = bI b) : a = b := by
  cases a <;> cases b <;> first | rfl | exact absurd h (by decide)
def btW (s k : Nat) (b : Int32) : Nat := if b = 0 then dif s (2 ^ k) else s ||| 2 ^ k
theorem btW_w {s k : Nat} {b : Int32} (hk : k < 13) : wbit (nI s) (nI k) b = nI (btW s k b) := by
  unfold wbit btW
  by_cases q : b = 0
  · rw [if_pos q, if_pos q, one_sh12 k hk, and_not]
  · rw [if_neg q, if_neg q, one_sh12 k hk, nx_or]
theorem btW_lt {s n k : Nat} {b : Int32} (hs : s < 2 ^ n) (hk : k < n) : btW s k b < 2 ^ n := by
  unfold btW
  by_cases q : b = 0
  · rw [if_pos q]; exact Nat.lt_of_le_of_lt (dif_le _ _) hs
  · rw [if_neg q]; exact Nat.or_lt_two_pow hs (Nat.pow_lt_pow_right (by decide) hk)
theorem btW_tb {s k i : Nat} {b : Int32} (hb : b = 0 ∨ b = 1) (hi : i < 32) : bI ((btW s k b).testBit i) = if i = k then b else bI (s.testBit i) := by
  unfold btW
  rcases hb with rfl | rfl
  · rw [if_pos rfl, dif_tb _ _ hi, Nat.testBit_two_pow]
    by_cases q : i = k
    · rw [if_pos q, decide_eq_true q.symm]; cases s.testBit i <;> rfl
    · rw [if_neg q, decide_eq_false (fun e => q e.symm)]; cases s.testBit i <;> rfl
  · rw [if_neg (by decide), or_tb]
    by_cases q : i = k
    · rw [if_pos q, decide_eq_true q.symm]; cases s.testBit i <;> rfl
    · rw [if_neg q, decide_eq_false (fun e => q e.symm), Bool.or_false]
theorem btW_eq {s n k : Nat} {b : Int32} (hs : s < 2 ^ n) (hn : n ≤ 12) (hk : k < n) (hb : b = 0 ∨ b = 1) : nI (btW s k b) = nI s ↔ bI (s.testBit k) = b := by
  have h1 := pow12 (btW_lt (b := b) hs hk) hn
  have h2 := pow12 hs hn
  rw [nI_eq (by omega) (by omega)]
  constructor
  · intro e
    have t := btW_tb (s := s) (k := k) (i := k) hb (by omega)
    rw [if_pos rfl, e] at t
    exact t
  · intro e
    refine tb_inj h1 h2 (fun i hi => ?_)
    have t := btW_tb (s := s) (k := k) (i := i) hb (by omega)
    by_cases q : i = k
    · subst q
      rw [if_pos rfl] at t
      exact bI_inj (t.trans e.symm)
    · rw [if_neg q] at t
      exact bI_inj t
theorem CuR.fr2 {I I' : hI} {n sb ib nt : Nat} {ct : Nat → Nat} (h : CuR I n sb ib nt ct) (e : ∀ c, (2 ≤ c ∧ c < 28) ∨ (77 ≤ c ∧ c ≤ 82) → I' c = I c) (e0 : I' 76 0 = I 76 0) (e4 : I' 76 4 = I 76 4) : CuR I' n sb ib nt ct := by
  obtain ⟨h1, h2, h3⟩ := h
  exact ⟨h1.c (by rw [e 2 (by omega)]) (fun r hr p _ => by show I' (4 + r) p = I (4 + r) p; rw [e (4 + r) (by omega)]) (by rw [e 2 (by omega)]) (by rw [e 2 (by omega)]) e0 (fun j _ => by rw [e 77 (by omega)]) (fun p _ => by rw [e 78 (by omega)]) (fun p _ => by rw [e 79 (by omega)]), h2.c (by rw [e 8 (by omega)]) (fun t ht j _ => by show I' (10 + t) j = I (10 + t) j; rw [e (10 + t) (by omega)]) e4 (fun j _ => by rw [e 80 (by omega)]), h3.c (fun m hm => by show I' (20 + 4 * m) 0 = I (20 + 4 * m) 0; rw [e (20 + 4 * m) (by omega)]) (fun m hm q hq i _ => by show I' (21 + 4 * m + q) i = I (21 + 4 * m + q) i; rw [e (21 + 4 * m + q) (by omega)]) (fun m hm => by rw [e 81 (by omega)]) (fun j _ => by rw [e 82 (by omega)])⟩
theorem TrR.mono {n n' nt : Nat} {c c' : Int32} {co : Nat → Nat → Int32} {co' : Nat → Int32} (h : TrR n nt c co c' co') (hn : n ≤ n') : TrR n' nt c co c' co' := by
  obtain ⟨h1, h2, h3, h4⟩ := h
  refine ⟨h1, h2, h3, fun t ht j hj => ?_⟩
  obtain ⟨a, k, hk, b⟩ := h4 t ht j hj
  exact ⟨a, k, by omega, b⟩
theorem ru_mk {I I' : hI} (h : RuR I) (a : I' 0 5 = I' 76 8) (b : I' 0 6 = I' 76 9) (c : 0 ≤ (I' 76 9).toInt) (d : (I' 76 9).toInt ≤ 2000) (e4 : I' 0 4 = I 0 4) (e10 : I' 76 10 = I 76 10) (e : ∀ c, (28 ≤ c ∧ c < 55) ∨ (83 ≤ c ∧ c ≤ 87) → I' c = I c) : RuR I' :=
  ⟨a, b, c, d, by rw [e4, e10]; exact h.2.2.2.2.1, fun q => (h.2.2.2.2.2 (by rw [e4] at q; exact q)).fr e⟩
section OPT
variable {l : Launch} {G : hQ} {I Z : hI} {J : hJ} {n sb ib nt : Nat} {ct : Nat → Nat}
theorem cu_point {x y X Y : Int32} (h : CuR I n sb ib nt ct) (hn : n < 12) (h1 : Pl x y) (h2 : Pl X Y) (hZ : Z = addPM (addPt I n x y X Y) n x y X Y) : CuR Z (n + 1) (sb ||| 2 ^ n) (ib ||| 2 ^ n) nt ct := by
  obtain ⟨⟨g1, g2, g3, g4, g5, g6, g7, g8, g9⟩, hT, hH⟩ := h
  have zc : ∀ c, c ≠ 2 → ¬ (4 ≤ c ∧ c < 8) → ¬ (76 ≤ c ∧ c < 80) → Z c = I c := by
    intro c q1 q2 q3
    rw [hZ]
    simp (disch := omega) only [addPM, addPt, placeC, h_up_ne]
  have r77 : ∀ j, Z 77 j = if j = 4 * n + 3 then Y else if j = 4 * n + 2 then X else if j = 4 * n + 1 then y else if j = 4 * n then x else I 77 j := by
    intro j; rw [hZ]; simp [addPM, addPt, placeC, h_up]
  have ra : ∀ r, r < 4 → ∀ p, Z (4 + r) p = if p = n then (if r = 0 then x else if r = 1 then y else if r = 2 then X else Y) else I (4 + r) p := by
    intro r hr p
    rw [hZ]
    rcases (show r = 0 ∨ r = 1 ∨ r = 2 ∨ r = 3 by omega) with rfl | rfl | rfl | rfl <;> by_cases q : p = n <;> simp [addPM, addPt, placeC, h_up, q]
  have r78 : ∀ j, Z 78 j = if j = n then 1 else I 78 j := by
    intro j; rw [hZ]; by_cases q : j = n <;> simp [addPM, addPt, placeC, h_up, q]
  have r79 : ∀ j, Z 79 j = if j = n then 1 else I 79 j := by
    intro j; rw [hZ]; by_cases q : j = n <;> simp [addPM, addPt, placeC, h_up, q]
  refine ⟨⟨hn, or_lt g2, or_lt g3, ?_, ?_, ?_, ?_, fun p hp r hr => ?_, fun p hp => ?_⟩, ?_, ?_⟩
  · rw [nI_succ, hZ]; simp [addPM, addPt, placeC, h_up]
  · have e : wbit (I 2 2) (nI n) 1 = nI (sb ||| 2 ^ n) := by rw [g5]; exact btW_w (b := 1) (by omega)
    rw [← e, hZ]; simp [addPM, addPt, placeC, h_up]
  · have e : wbit (I 2 3) (nI n) 1 = nI (ib ||| 2 ^ n) := by rw [g6]; exact btW_w (b := 1) (by omega)
    rw [← e, hZ]; simp [addPM, addPt, placeC, h_up]
  · rw [nI_succ, hZ]; simp [addPM, h_up]
  · show Z 77 (4 * p + r) = Z (4 + r) p ∧ Bd (Z (4 + r) p)
    rw [ra r hr p]
    by_cases q : p = n
    · subst q
      rw [if_pos rfl]
      rcases (show r = 0 ∨ r = 1 ∨ r = 2 ∨ r = 3 by omega) with rfl | rfl | rfl | rfl
      · have z : Z 77 (4 * p + 0) = x := by rw [r77, if_neg (by omega), if_neg (by omega), if_neg (by omega), if_pos (by omega)]
        exact ⟨z, h1.bx⟩
      · have z : Z 77 (4 * p + 1) = y := by rw [r77, if_neg (by omega), if_neg (by omega), if_pos (by omega)]
        exact ⟨z, h1.by⟩
      · have z : Z 77 (4 * p + 2) = X := by rw [r77, if_neg (by omega), if_pos (by omega)]
        exact ⟨z, h2.bx⟩
      · have z : Z 77 (4 * p + 3) = Y := by rw [r77, if_pos (by omega)]
        exact ⟨z, h2.by⟩
    · have hp2 : p < n := by omega
      rw [if_neg q, r77, if_neg (by omega), if_neg (by omega), if_neg (by omega), if_neg (by omega)]
      exact g8 p hp2 r hr
  · rw [r78, r79, or_tb, or_tb]
    by_cases q : p = n
    · subst q
      rw [if_pos rfl, if_pos rfl, decide_eq_true rfl, Bool.or_true, Bool.or_true]
      exact ⟨rfl, rfl⟩
    · rw [if_neg q, if_neg q, decide_eq_false (fun e => q e.symm), Bool.or_false, Bool.or_false]
      exact g9 p (by omega)
  · exact (hT.mono (Nat.le_succ n)).c (by rw [zc 8 (by omega) (by omega) (by omega)]) (fun t ht j _ => by show Z (10 + t) j = I (10 + t) j; rw [zc (10 + t) (by omega) (by omega) (by omega)]) (by rw [hZ]; simp [addPM, addPt, placeC, h_up]) (fun j _ => by rw [zc 80 (by omega) (by omega) (by omega)])
  · exact hH.c (fun m hm => by show Z (20 + 4 * m) 0 = I (20 + 4 * m) 0; rw [zc (20 + 4 * m) (by omega) (by omega) (by omega)]) (fun m hm q hq i _ => by show Z (21 + 4 * m + q) i = I (21 + 4 * m + q) i; rw [zc (21 + 4 * m + q) (by omega) (by omega) (by omega)]) (fun m hm => by rw [zc 81 (by omega) (by omega) (by omega)]) (fun j _ => by rw [zc 82 (by omega) (by omega) (by omega)])
theorem ru_point {x y X Y : Int32} (h : RuR I) (hZ : Z = addPM (addPt I n x y X Y) n x y X Y) : RuR Z := by
  have zc : ∀ c, c ≠ 2 → ¬ (4 ≤ c ∧ c < 8) → ¬ (76 ≤ c ∧ c < 80) → Z c = I c := by
    intro c q1 q2 q3
    rw [hZ]
    simp (disch := omega) only [addPM, addPt, placeC, h_up_ne]
  exact h.fr (zc 0 (by omega) (by omega) (by omega)) (by rw [hZ]; simp [addPM, addPt, placeC, h_up]) (by rw [hZ]; simp [addPM, addPt, placeC, h_up]) (by rw [hZ]; simp [addPM, addPt, placeC, h_up]) (fun c hc => zc c (by omega) (by omega) (by omega))
theorem op_point (h : Rel I) (x y X Y : Int32) : OpI l G yX7_point wsX7_point 2 49 yX8_point wsX8_point 2 43 [.int x, .int y, .int X, .int Y] I J := by
  obtain ⟨⟨n, sb, ib, nt, ct, hC⟩, hU⟩ := id h
  refine ⟨_, c_X7_point l G I J x y X Y n hC.n0 hC.n12, fun ρ I1 J1 hp => ?_⟩
  obtain ⟨e1, e2, e3⟩ := hp
  have hn1 : I1 76 0 = nI n := by
    rw [← hC.n1, ← e2]
    by_cases hP : Pl x y ∧ Pl X Y
    · rw [if_pos hP]
      by_cases hn : n < 12
      · rw [if_pos hn]; simp [addPt, placeC, h_up]
      · rw [if_neg hn]
    · rw [if_neg hP]
  refine ⟨_, c_X8_point l G I1 J1 x y X Y n hn1 hC.n12, fun ρ' I2 J2 hq => ?_⟩
  obtain ⟨f1, f2, f3⟩ := hq
  refine ⟨e1.symm.trans f1, ?_⟩
  by_cases hP : Pl x y ∧ Pl X Y
  · rw [if_pos hP] at e2 f2
    by_cases hn : n < 12
    · rw [if_pos hn] at e2 f2
      subst e2
      exact ⟨⟨_, _, _, _, _, cu_point hC hn hP.1 hP.2 f2.symm⟩, ru_point hU f2.symm⟩
    · rw [if_neg hn] at e2 f2; rw [← f2, ← e2]; exact h
  · rw [if_neg hP] at e2 f2; rw [← f2, ← e2]; exact h
theorem cu_move {p m : Nat} {x y : Int32} (h : CuR I n sb ib nt ct) (hp : p < n) (hm : m < 2) (hx : Bd x) (hy : Bd y) (hZ : Z = placeM (placeC I p m x y) p m x y) : CuR Z n sb ib nt ct := by
  obtain ⟨⟨g1, g2, g3, g4, g5, g6, g7, g8, g9⟩, hT, hH⟩ := h
  have zc : ∀ c, ¬ (4 ≤ c ∧ c < 8) → c ≠ 77 → Z c = I c := by
    intro c q1 q2
    rw [hZ]
    simp (disch := omega) only [placeM, placeC, h_up_ne]
  have e77 : placeC I p m x y 77 = I 77 := by simp (disch := omega) only [placeC, h_up_ne]
  have r77 : ∀ j, Z 77 j = if 77 = 77 ∧ j = 4 * p + 2 * m + 1 then y else if 77 = 77 ∧ j = 4 * p + 2 * m then x else I 77 j := by
    intro j; rw [hZ, ← e77]; rfl
  have ra : ∀ r, r < 4 → ∀ q, Z (4 + r) q = if 4 + r = 4 + (2 * m + 1) ∧ q = p then y else if 4 + r = 4 + 2 * m ∧ q = p then x else I (4 + r) q := by
    intro r hr q
    have e : placeM (placeC I p m x y) p m x y (4 + r) = placeC I p m x y (4 + r) := by simp (disch := omega) only [placeM, h_up_ne]
    rw [hZ, e]; rfl
  refine ⟨⟨g1, g2, g3, by rw [zc 2 (by omega) (by omega)]; exact g4, by rw [zc 2 (by omega) (by omega)]; exact g5, by rw [zc 2 (by omega) (by omega)]; exact g6, by rw [zc 76 (by omega) (by omega)]; exact g7, fun q hq r hr => ?_, fun q hq => ?_⟩, ?_, ?_⟩
  · show Z 77 (4 * q + r) = Z (4 + r) q ∧ Bd (Z (4 + r) q)
    by_cases a : q = p ∧ r = 2 * m + 1
    · have z1 : Z 77 (4 * q + r) = y := by rw [r77]; exact if_pos ⟨rfl, by omega⟩
      have z2 : Z (4 + r) q = y := by rw [ra r hr q]; exact if_pos ⟨by omega, a.1⟩
      rw [z1, z2]; exact ⟨rfl, hy⟩
    · by_cases b : q = p ∧ r = 2 * m
      · have z1 : Z 77 (4 * q + r) = x := by rw [r77, if_neg (show ¬ (77 = 77 ∧ 4 * q + r = 4 * p + 2 * m + 1) by omega)]; exact if_pos ⟨rfl, by omega⟩
        have z2 : Z (4 + r) q = x := by rw [ra r hr q, if_neg (show ¬ (4 + r = 4 + (2 * m + 1) ∧ q = p) by omega)]; exact if_pos ⟨by omega, b.1⟩
        rw [z1, z2]; exact ⟨rfl, hx⟩
      · rw [r77, if_neg (show ¬ (77 = 77 ∧ 4 * q + r = 4 * p + 2 * m + 1) by omega), if_neg (show ¬ (77 = 77 ∧ 4 * q + r = 4 * p + 2 * m) by omega), ra r hr q, if_neg (show ¬ (4 + r = 4 + (2 * m + 1) ∧ q = p) by omega), if_neg (show ¬ (4 + r = 4 + 2 * m ∧ q = p) by omega)]
        exact g8 q hq r hr
  · rw [zc 78 (by omega) (by omega), zc 79 (by omega) (by omega)]; exact g9 q hq
  · exact hT.c (by rw [zc 8 (by omega) (by omega)]) (fun t ht j _ => by show Z (10 + t) j = I (10 + t) j; rw [zc (10 + t) (by omega) (by omega)]) (by rw [zc 76 (by omega) (by omega)]) (fun j _ => by rw [zc 80 (by omega) (by omega)])
  · exact hH.c (fun i hi => by show Z (20 + 4 * i) 0 = I (20 + 4 * i) 0; rw [zc (20 + 4 * i) (by omega) (by omega)]) (fun i hi q hq j _ => by show Z (21 + 4 * i + q) j = I (21 + 4 * i + q) j; rw [zc (21 + 4 * i + q) (by omega) (by omega)]) (fun i hi => by rw [zc 81 (by omega) (by omega)]) (fun j _ => by rw [zc 82 (by omega) (by omega)])
theorem op_move (h : Rel I) (p m x y : Int32) : OpI l G yX7_move wsX7_move 1 24 yX8_move wsX8_move 2 43 [.int p, .int m, .int x, .int y] I J := by
  obtain ⟨⟨n, sb, ib, nt, ct, hC⟩, hU⟩ := id h
  have h12 := hC.n12
  refine ⟨_, c_X7_move l G I J p m x y n hC.n0 hC.n12, fun ρ I1 J1 hp => ?_⟩
  obtain ⟨e1, e2, e3⟩ := hp
  have e20 : I 76 0 = I 2 0 := hC.n1.trans hC.n0.symm
  have e76 : I1 76 = I 76 := by
    rw [← e2]
    by_cases hP : isP I p ∧ isMp m ∧ Pl x y
    · have hm := mp_tn hP.2.1
      rw [if_pos hP]
      simp (disch := omega) only [placeC, h_up_ne]
    · rw [if_neg hP]
  refine ⟨_, c_X8_move l G I1 J1 p m x y n (by rw [e76]; exact hC.n1) hC.n12, fun ρ' I2 J2 hq => ?_⟩
  obtain ⟨f1, f2, f3⟩ := hq
  rw [e76, e20] at f1 f2
  by_cases hP : isP I p ∧ isMp m ∧ Pl x y
  · have hP2 : (0 ≤ p ∧ p < I 2 0) ∧ (0 ≤ m ∧ m ≤ 1) ∧ Pl x y := ⟨hP.1, mp_iff.mp hP.2.1, hP.2.2⟩
    have hm := mp_tn hP.2.1
    rw [if_pos hP] at e1 e2
    rw [if_pos hP2] at f1 f2
    subst e2
    refine ⟨e1.symm.trans f1, ⟨_, _, _, _, _, cu_move hC (has_tn hP.1 hC.n0 (by omega)) hm hP.2.2.bx hP.2.2.by f2.symm⟩, ?_⟩
    have zc : ∀ c, ¬ (4 ≤ c ∧ c < 8) → c ≠ 77 → I2 c = I c := by
      intro c q1 q2
      rw [← f2]
      simp (disch := omega) only [placeM, placeC, h_up_ne]
    exact hU.fr (zc 0 (by omega) (by omega)) (by rw [zc 76 (by omega) (by omega)]) (by rw [zc 76 (by omega) (by omega)]) (by rw [zc 76 (by omega) (by omega)]) (fun c hc => zc c (by omega) (by omega))
  · have hP2 : ¬ ((0 ≤ p ∧ p < I 2 0) ∧ (0 ≤ m ∧ m ≤ 1) ∧ Pl x y) := fun w => hP ⟨w.1, mp_iff.mpr w.2.1, w.2.2⟩
    rw [if_neg hP] at e1 e2
    rw [if_neg hP2] at f1 f2
    refine ⟨e1.symm.trans f1, ?_⟩
    rw [← f2, ← e2]; exact h
/-- the bits that say who is in, changed alike in both -/
theorem cu_in {ib' : Nat} (h : CuR I n sb ib nt ct) (hl : ib' < 2 ^ n) (zc : ∀ c, (2 ≤ c ∧ c < 28 ∨ 76 ≤ c) → c ≠ 2 → c ≠ 79 → Z c = I c) (z0 : Z 2 0 = I 2 0) (z2 : Z 2 2 = I 2 2) (z3 : Z 2 3 = nI ib') (zp : ∀ p, p < n → Z 79 p = bI (ib'.testBit p)) : CuR Z n sb ib' nt ct := by
  obtain ⟨⟨g1, g2, g3, g4, g5, g6, g7, g8, g9⟩, hT, hH⟩ := h
  refine ⟨⟨g1, g2, hl, z0.trans g4, z2.trans g5, z3, by rw [zc 76 (by omega) (by omega) (by omega)]; exact g7, fun p hp r hr => ?_, fun p hp => ?_⟩, ?_, ?_⟩
  · show Z 77 (4 * p + r) = Z (4 + r) p ∧ Bd (Z (4 + r) p)
    rw [zc 77 (by omega) (by omega) (by omega), zc (4 + r) (by omega) (by omega) (by omega)]
    exact g8 p hp r hr
  · rw [zc 78 (by omega) (by omega) (by omega)]
    exact ⟨(g9 p hp).1, zp p hp⟩
  · exact hT.c (by rw [zc 8 (by omega) (by omega) (by omega)]) (fun t ht j _ => by show Z (10 + t) j = I (10 + t) j; rw [zc (10 + t) (by omega) (by omega) (by omega)]) (by rw [zc 76 (by omega) (by omega) (by omega)]) (fun j _ => by rw [zc 80 (by omega) (by omega) (by omega)])
  · exact hH.c (fun i hi => by show Z (20 + 4 * i) 0 = I (20 + 4 * i) 0; rw [zc (20 + 4 * i) (by omega) (by omega) (by omega)]) (fun i hi q hq j _ => by show Z (21 + 4 * i + q) j = I (21 + 4 * i + q) j; rw [zc (21 + 4 * i + q) (by omega) (by omega) (by omega)]) (fun i hi => by rw [zc 81 (by omega) (by omega) (by omega)]) (fun j _ => by rw [zc 82 (by omega) (by omega) (by omega)])
/-- the bits that say who is sure, changed alike in both -/
theorem cu_su {sb' : Nat} (h : CuR I n sb ib nt ct) (hl : sb' < 2 ^ n) (zc : ∀ c, (2 ≤ c ∧ c < 28 ∨ 76 ≤ c) → c ≠ 2 → c ≠ 78 → Z c = I c) (z0 : Z 2 0 = I 2 0) (z2 : Z 2 2 = nI sb') (z3 : Z 2 3 = I 2 3) (zp : ∀ p, p < n → Z 78 p = bI (sb'.testBit p)) : CuR Z n sb' ib nt ct := by
  obtain ⟨⟨g1, g2, g3, g4, g5, g6, g7, g8, g9⟩, hT, hH⟩ := h
  refine ⟨⟨g1, hl, g3, z0.trans g4, z2, z3.trans g6, by rw [zc 76 (by omega) (by omega) (by omega)]; exact g7, fun p hp r hr => ?_, fun p hp => ?_⟩, ?_, ?_⟩
  · show Z 77 (4 * p + r) = Z (4 + r) p ∧ Bd (Z (4 + r) p)
    rw [zc 77 (by omega) (by omega) (by omega), zc (4 + r) (by omega) (by omega) (by omega)]
    exact g8 p hp r hr
  · rw [zc 79 (by omega) (by omega) (by omega)]
    exact ⟨zp p hp, (g9 p hp).2⟩
  · exact hT.c (by rw [zc 8 (by omega) (by omega) (by omega)]) (fun t ht j _ => by show Z (10 + t) j = I (10 + t) j; rw [zc (10 + t) (by omega) (by omega) (by omega)]) (by rw [zc 76 (by omega) (by omega) (by omega)]) (fun j _ => by rw [zc 80 (by omega) (by omega) (by omega)])
  · exact hH.c (fun i hi => by show Z (20 + 4 * i) 0 = I (20 + 4 * i) 0; rw [zc (20 + 4 * i) (by omega) (by omega) (by omega)]) (fun i hi q hq j _ => by show Z (21 + 4 * i + q) j = I (21 + 4 * i + q) j; rw [zc (21 + 4 * i + q) (by omega) (by omega) (by omega)]) (fun i hi => by rw [zc 81 (by omega) (by omega) (by omega)]) (fun j _ => by rw [zc 82 (by omega) (by omega) (by omega)])
theorem nar_b {b : Int32} (hb : b = 0 ∨ b = 1) : vp_nar .boolean b = b := by
  rcases hb with rfl | rfl <;> decide +kernel
theorem op_sure (h : Rel I) (p b : Int32) (hb : b = 0 ∨ b = 1) : OpI l G yX7_sure wsX7_sure 1 22 yX8_sure wsX8_sure 2 43 [.int p, .int b] I J := by
  obtain ⟨⟨n, sb, ib, nt, ct, hC⟩, hU⟩ := id h
  have h12 := hC.n12
  refine ⟨_, c_X7_sure l G I J p b, fun ρ I1 J1 hp => ?_⟩
  obtain ⟨e1, e2, e3⟩ := hp
  have e20 : I 76 0 = I 2 0 := hC.n1.trans hC.n0.symm
  have zc1 : ∀ c, c ≠ 2 → I1 c = I c := by
    intro c q
    rw [← e2]
    by_cases hP : isP I p
    · rw [if_pos hP, h_up_ne q]
    · rw [if_neg hP]
  refine ⟨_, c_X8_sure l G I1 J1 p b (nar_b hb) n (by rw [zc1 76 (by omega)]; exact hC.n1) hC.n12, fun ρ' I2 J2 hq => ?_⟩
  obtain ⟨f1, f2, f3⟩ := hq
  rw [zc1 76 (by omega), e20] at f1 f2
  rw [zc1 78 (by omega)] at f1
  by_cases hP : isP I p
  · obtain ⟨k, hk, rfl⟩ := has_of hP hC.n0 (by omega)
    rw [if_pos hP, hC.1.2.2.2.2.1, btW_w (by omega)] at e1 e2
    rw [if_pos hP, tn_n (by omega)] at f1 f2
    have hb9 := (hC.1.2.2.2.2.2.2.2.2 k hk).1
    rw [hb9] at f1
    refine ⟨e1.symm.trans (Eq.trans ?_ f1), ⟨_, _, _, _, _, cu_su (sb' := btW sb k b) hC (btW_lt hC.1.2.1 hk) (fun c _ q1 q2 => by rw [← f2, h_up_ne q2, zc1 c q1]) ?_ ?_ ?_ (fun q hq => ?_)⟩, ?_⟩
    · exact ite_c (btW_eq hC.1.2.1 h12 hk hb) (fun _ => rfl)
    · rw [← f2, ← e2]; simp [h_up]
    · rw [← f2, ← e2]; simp [h_up]
    · rw [← f2, ← e2]; simp [h_up]
    · rw [btW_tb hb (by omega), ← f2]
      by_cases w : q = k
      · rw [if_pos w, w, up_hit]
      · rw [if_neg w, up_off w, zc1 78 (by omega)]; exact (hC.1.2.2.2.2.2.2.2.2 q hq).1
    · have zc2 : ∀ c, c ≠ 2 → c ≠ 78 → I2 c = I c := fun c q1 q2 => by rw [← f2, h_up_ne q2, zc1 c q1]
      exact hU.fr (zc2 0 (by omega) (by omega)) (by rw [zc2 76 (by omega) (by omega)]) (by rw [zc2 76 (by omega) (by omega)]) (by rw [zc2 76 (by omega) (by omega)]) (fun c hc => zc2 c (by omega) (by omega))
  · rw [if_neg hP] at e1 e2 f1 f2
    refine ⟨e1.symm.trans f1, ?_⟩
    rw [← f2, ← e2]; exact h
theorem op_put (h : Rel I) (p b : Int32) (hb : b = 0 ∨ b = 1) : OpI l G yX7_put wsX7_put 1 22 yX8_put wsX8_put 2 43 [.int p, .int b] I J := by
  obtain ⟨⟨n, sb, ib, nt, ct, hC⟩, hU⟩ := id h
  have h12 := hC.n12
  refine ⟨_, c_X7_put l G I J p b, fun ρ I1 J1 hp => ?_⟩
  obtain ⟨e1, e2, e3⟩ := hp
  have e20 : I 76 0 = I 2 0 := hC.n1.trans hC.n0.symm
  have zc1 : ∀ c, c ≠ 2 → I1 c = I c := by
    intro c q
    rw [← e2]
    by_cases hP : isP I p
    · rw [if_pos hP, h_up_ne q]
    · rw [if_neg hP]
  refine ⟨_, c_X8_put l G I1 J1 p b (nar_b hb) n (by rw [zc1 76 (by omega)]; exact hC.n1) hC.n12, fun ρ' I2 J2 hq => ?_⟩
  obtain ⟨f1, f2, f3⟩ := hq
  rw [zc1 76 (by omega), e20] at f1 f2
  rw [zc1 79 (by omega)] at f1
  by_cases hP : isP I p
  · obtain ⟨k, hk, rfl⟩ := has_of hP hC.n0 (by omega)
    rw [if_pos hP, hC.1.2.2.2.2.2.1, btW_w (by omega)] at e1 e2
    rw [if_pos hP, tn_n (by omega)] at f1 f2
    have hb9 := (hC.1.2.2.2.2.2.2.2.2 k hk).2
    rw [hb9] at f1
    refine ⟨e1.symm.trans (Eq.trans ?_ f1), ⟨_, _, _, _, _, cu_in (ib' := btW ib k b) hC (btW_lt hC.1.2.2.1 hk) (fun c _ q1 q2 => by rw [← f2, h_up_ne q2, zc1 c q1]) ?_ ?_ ?_ (fun q hq => ?_)⟩, ?_⟩
    · exact ite_c (btW_eq hC.1.2.2.1 h12 hk hb) (fun _ => rfl)
    · rw [← f2, ← e2]; simp [h_up]
    · rw [← f2, ← e2]; simp [h_up]
    · rw [← f2, ← e2]; simp [h_up]
    · rw [btW_tb hb (by omega), ← f2]
      by_cases w : q = k
      · rw [if_pos w, w, up_hit]
      · rw [if_neg w, up_off w, zc1 79 (by omega)]; exact (hC.1.2.2.2.2.2.2.2.2 q hq).2
    · have zc2 : ∀ c, c ≠ 2 → c ≠ 79 → I2 c = I c := fun c q1 q2 => by rw [← f2, h_up_ne q2, zc1 c q1]
      exact hU.fr (zc2 0 (by omega) (by omega)) (by rw [zc2 76 (by omega) (by omega)]) (by rw [zc2 76 (by omega) (by omega)]) (by rw [zc2 76 (by omega) (by omega)]) (fun c hc => zc2 c (by omega) (by omega))
  · rw [if_neg hP] at e1 e2 f1 f2
    refine ⟨e1.symm.trans f1, ?_⟩
    rw [← f2, ← e2]; exact h
end OPT
