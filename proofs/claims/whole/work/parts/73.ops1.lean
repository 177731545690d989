/-! the methods that only answer: one answer, and the tie holds -/
theorem kd_tn {k : Int32} (h : isKd k) : tn k < 3 := by
  obtain ⟨kd, hk, rfl⟩ := kd_of h
  rw [tn_n (by omega)]; exact hk
theorem mp_tn {k : Int32} (h : isMp k) : tn k < 2 := by
  obtain ⟨kd, hk, rfl⟩ := mp_of h
  rw [tn_n (by omega)]; exact hk
theorem pt_tn {k : Int32} (h : isPt k) : tn k < 4 := by
  obtain ⟨kd, hk, rfl⟩ := pt_of h
  rw [tn_n (by omega)]; exact hk
theorem has_tn {x c : Int32} {n : Nat} (h : 0 ≤ x ∧ x < c) (hn : c = nI n) (h31 : n < 2 ^ 31) : tn x < n := by
  obtain ⟨p, hp, rfl⟩ := has_of h hn h31
  rw [tn_n (by omega)]; exact hp
theorem Scr.ap {I I1 : hI} {J J1 : hJ} (h : Scr I J I1 J1) (kd : Nat) (b : Int32) : apP I1 kd b = apP I kd b := by
  funext o j
  unfold apP
  rw [h.at, h.1 21 (by omega), h.1 22 (by omega), h.1 23 (by omega), h.1 25 (by omega), h.1 26 (by omega), h.1 27 (by omega)]
section OPS
variable {l : Launch} {G : hQ} {I : hI} {J : hJ}
theorem op_of (h : Rel I) (p w : Int32) : OpI l G yX7_of wsX7_of 1 21 yX8_of wsX8_of 2 43 [.int p, .int w] I J := by
  obtain ⟨⟨n, sb, ib, nt, ct, hC⟩, hU⟩ := id h
  have h12 := hC.n12
  refine ⟨_, c_X7_of l G I J p w n hC.n0 hC.n12, fun ρ I1 J1 hp => ?_⟩
  obtain ⟨e1, rfl, rfl⟩ := hp
  refine ⟨_, c_X8_of l G I J p w n hC.n1 hC.n12, fun ρ' I2 J2 hq => ?_⟩
  obtain ⟨e2, rfl, rfl⟩ := hq
  refine ⟨e1.symm.trans (Eq.trans ?_ e2), h⟩
  refine ite_c ?_ ?_
  · unfold isP; rw [hC.n0, hC.n1, Int32.not_lt]
  · rintro ⟨a, b, c⟩
    obtain ⟨k, hk, rfl⟩ := has_of a hC.n0 (by omega)
    obtain ⟨m, hm, rfl⟩ := rg_of (M := 5) (m := 5) rfl b (Int32.not_lt.mpr c)
    have hb := hC.1.2.2.2.2.2.2.2.2 k hk
    rw [tn_n (by omega), tn_n (by omega), hC.1.2.2.2.2.1, hC.1.2.2.2.2.2.1, hb.1, hb.2, bit_val sb k (by omega), bit_val ib k (by omega)]
    have e4 : nI m = 4 ↔ m = 4 := nI_eq (b := 4) (by omega) (by omega)
    have e5 : nI m = 5 ↔ m = 5 := nI_eq (b := 5) (by omega) (by omega)
    by_cases q4 : m = 4
    · rw [if_pos (e4.mpr q4), if_neg (show ¬ m < 4 by omega), if_pos q4]
      cases sb.testBit k <;> decide
    · rw [if_neg (mt e4.mp q4)]
      by_cases q5 : m = 5
      · rw [if_pos (e5.mpr q5), if_neg (show ¬ m < 4 by omega), if_neg q4]
        cases ib.testBit k <;> decide
      · rw [if_neg (mt e5.mp q5), if_pos (show m < 4 by omega)]
        exact ((hC.pl.2 k hk m (by omega)).1).symm
theorem op_bend (h : Rel I) (k w : Int32) : OpL l G yX7_bend wsX7_bend 4 102 yX8_bend wsX8_bend 4 100 [.int k, .int w] I J := by
  obtain ⟨⟨n, sb, ib, nt, ct, hC⟩, hU⟩ := id h
  refine ⟨_, c_X7_bend l G I J k w, fun ρ I1 J1 hp => ?_⟩
  obtain ⟨e1, S⟩ := hp
  have hC1 : CuR I1 n sb ib nt ct := hC.fr (fun c hc => S.1 c (by omega)) (by rw [S.1 76 (by omega)]) (by rw [S.1 76 (by omega)])
  refine ⟨_, c_X8_bend l G I1 J1 k w n hC1.n1 hC1.n12 (fun kd hk ho => by rw [hC1.cm] at ho ⊢; exact (low_ok hC1.pl hC1.slt hk ho).1), fun ρ' I2 J2 hq => ?_⟩
  obtain ⟨e2, rfl, -⟩ := hq
  refine ⟨e1.symm.trans (Eq.trans ?_ e2), h.fr (fun c hc => S.1 c (by omega))⟩
  rw [← S.at, ← S.cb, hC1.cb, hC1.cm]
  refine ite_c ?_ ?_
  · rw [Int32.not_lt, Int32.not_lt, ok_ok hC1.pl hC1.slt]
    exact ⟨fun ⟨a, b, c, d⟩ => ⟨a, ⟨b, c⟩, d⟩, fun ⟨a, ⟨b, c⟩, d⟩ => ⟨a, b, c, d⟩⟩
  · rintro ⟨a, b, c, d⟩
    exact bend_e hC1.pl hC1.slt (kd_tn a) ((ok_ok hC1.pl hC1.slt).mpr d)
theorem op_carry (h : Rel I) (k x y w : Int32) : OpL l G yX7_carry wsX7_carry 4 102 yX8_carry wsX8_carry 4 100 [.int k, .int x, .int y, .int w] I J := by
  obtain ⟨⟨n, sb, ib, nt, ct, hC⟩, hU⟩ := id h
  refine ⟨_, c_X7_carry l G I J k x y w, fun ρ I1 J1 hp => ?_⟩
  obtain ⟨e1, S⟩ := hp
  have hC1 : CuR I1 n sb ib nt ct := hC.fr (fun c hc => S.1 c (by omega)) (by rw [S.1 76 (by omega)]) (by rw [S.1 76 (by omega)])
  refine ⟨_, c_X8_carry l G I1 J1 k x y w n hC1.n1 hC1.n12 (fun kd hk ho => by rw [hC1.cm] at ho ⊢; exact (low_ok hC1.pl hC1.slt hk ho).1), fun ρ' I2 J2 hq => ?_⟩
  obtain ⟨e2, rfl, -⟩ := hq
  refine ⟨e1.symm.trans (Eq.trans ?_ e2), h.fr (fun c hc => S.1 c (by omega))⟩
  rw [← S.at, ← S.cb, hC1.cb, hC1.cm]
  refine ite_c ?_ ?_
  · rw [ok_ok hC1.pl hC1.slt]
  · rintro ⟨a, b, c, d⟩
    exact carry_e hC1.pl hC1.slt (kd_tn a) ((ok_ok hC1.pl hC1.slt).mpr d) (pt_tn c)
theorem op_off (h : Rel I) (k p w : Int32) : OpL l G yX7_off wsX7_off 4 102 yX8_off wsX8_off 4 100 [.int k, .int p, .int w] I J := by
  obtain ⟨⟨n, sb, ib, nt, ct, hC⟩, hU⟩ := id h
  refine ⟨_, c_X7_off l G I J k p w n hC.n0 hC.n12, fun ρ I1 J1 hp => ?_⟩
  obtain ⟨e1, S⟩ := hp
  have hC1 : CuR I1 n sb ib nt ct := hC.fr (fun c hc => S.1 c (by omega)) (by rw [S.1 76 (by omega)]) (by rw [S.1 76 (by omega)])
  have h12 := hC.n12
  refine ⟨_, c_X8_off l G I1 J1 k p w n hC1.n1 hC1.n12 (fun kd hk ho => by rw [hC1.cm] at ho ⊢; exact (low_ok hC1.pl hC1.slt hk ho).1), fun ρ' I2 J2 hq => ?_⟩
  obtain ⟨e2, rfl, -⟩ := hq
  refine ⟨e1.symm.trans (Eq.trans ?_ e2), h.fr (fun c hc => S.1 c (by omega))⟩
  rw [← S.at, ← S.cb, hC1.cb, hC1.cm]
  refine ite_c ?_ ?_
  · unfold isP; rw [hC.n0, hC1.n1, ok_ok hC1.pl hC1.slt]
  · rintro ⟨a, b, c, d⟩
    exact offs_e hC1.pl hC1.slt (kd_tn b) ((ok_ok hC1.pl hC1.slt).mpr d) (has_tn a hC.n0 (by omega)) (pt_tn c)
theorem op_miss (h : Rel I) (k w : Int32) : OpL l G yX7_miss wsX7_miss 4 102 yX8_miss wsX8_miss 4 100 [.int k, .int w] I J := by
  obtain ⟨⟨n, sb, ib, nt, ct, hC⟩, hU⟩ := id h
  refine ⟨_, c_X7_miss l G I J k w, fun ρ I1 J1 hp => ?_⟩
  obtain ⟨e1, S⟩ := hp
  have hC1 : CuR I1 n sb ib nt ct := hC.fr (fun c hc => S.1 c (by omega)) (by rw [S.1 76 (by omega)]) (by rw [S.1 76 (by omega)])
  refine ⟨_, c_X8_miss l G I1 J1 k w n hC1.n1 hC1.n12 (fun kd hk ho => by rw [hC1.cm] at ho ⊢; exact (low_ok hC1.pl hC1.slt hk ho).1), fun ρ' I2 J2 hq => ?_⟩
  obtain ⟨e2, rfl, -⟩ := hq
  refine ⟨e1.symm.trans (Eq.trans ?_ e2), h.fr (fun c hc => S.1 c (by omega))⟩
  rw [← S.at, ← S.cb, hC1.cb, hC1.cm]
  refine ite_c ?_ ?_
  · rw [Int32.not_lt, Int32.not_lt, ok_ok hC1.pl hC1.slt]
    exact ⟨fun ⟨a, b, c, d⟩ => ⟨a, ⟨b, c⟩, d⟩, fun ⟨a, ⟨b, c⟩, d⟩ => ⟨a, b, c, d⟩⟩
  · rintro ⟨a, b, c, d⟩
    refine miss_e hC1.pl hC1.slt (kd_tn a) ((ok_ok hC1.pl hC1.slt).mpr d) ?_
    by_cases q : k = 2
    · rw [if_pos q] at c
      obtain ⟨m, hm, rfl⟩ := rg_of (M := 3) (m := 3) rfl b c
      subst q
      exact Or.inl ⟨by decide +kernel, by rw [tn_n (by omega)]; omega⟩
    · rw [if_neg q] at c
      obtain ⟨m, hm, rfl⟩ := rg_of (M := 1) (m := 1) rfl b c
      exact Or.inr (by rw [tn_n (by omega)]; omega)
theorem op_beyond (h : Rel I) (k : Int32) : OpI l G yX7_beyond wsX7_beyond 4 102 yX8_beyond wsX8_beyond 4 100 [.int k] I J := by
  obtain ⟨⟨n, sb, ib, nt, ct, hC⟩, hU⟩ := id h
  refine ⟨_, c_X7_beyond l G I J k, fun ρ I1 J1 hp => ?_⟩
  obtain ⟨e1, S⟩ := hp
  have hC1 : CuR I1 n sb ib nt ct := hC.fr (fun c hc => S.1 c (by omega)) (by rw [S.1 76 (by omega)]) (by rw [S.1 76 (by omega)])
  have hR1 : Rel I1 := h.fr (fun c hc => S.1 c (by omega))
  refine ⟨_, c_X8_beyond l G I1 J1 k n hC1.n1 hC1.n12, fun ρ' I2 J2 hq => ?_⟩
  obtain ⟨e2, rfl, -⟩ := hq
  refine ⟨e1.symm.trans (Eq.trans ?_ e2), hR1⟩
  rw [← S.at, ← S.cb, ← S.lim, hC1.cb, hC1.cm]
  refine ite_c Iff.rfl (fun a => ite_c (ok_ok hC1.pl hC1.slt).symm (fun _ => ?_))
  exact fb_e hC1.pl hC1.slt (kd_tn a) hR1.2.1
theorem op_lying (h : Rel I) (k : Int32) : OpI l G yX7_lying wsX7_lying 6 140 yX8_lying wsX8_lying 4 100 [.int k] I J := by
  obtain ⟨⟨n, sb, ib, nt, ct, hC⟩, hU⟩ := id h
  refine ⟨_, c_X7_lying l G I J k, fun ρ I1 J1 hp => ?_⟩
  obtain ⟨e1, S⟩ := hp
  have hC1 : CuR I1 n sb ib nt ct := hC.fr (fun c hc => S.1 c (by omega)) (by rw [S.1 76 (by omega)]) (by rw [S.1 76 (by omega)])
  have hR1 : Rel I1 := h.fr (fun c hc => S.1 c (by omega))
  refine ⟨_, c_X8_lying l G I1 J1 k n hC1.n1 hC1.n12 (sb &&& ib) hC1.cm (pow12 hC1.slt hC1.n12), fun ρ' I2 J2 hq => ?_⟩
  obtain ⟨e2, rfl, -⟩ := hq
  refine ⟨e1.symm.trans (Eq.trans ?_ e2), hR1⟩
  rw [← S.at, ← S.cb, ← S.lim, hC1.cb]
  exact ly_e hC1.pl hC1.slt hR1.2.1
theorem op_state (h : Rel I) (t : Int32) : OpI l G yX7_state wsX7_state 4 97 yX8_state wsX8_state 5 123 [.int t] I J := by
  obtain ⟨⟨n, sb, ib, nt, ct, hC⟩, hU⟩ := id h
  have h10 := hC.t10
  refine ⟨_, c_X7_state l G I J t nt hC.t0 hC.t10 hC.tok, fun ρ I1 J1 hp => ?_⟩
  obtain ⟨e1, rfl, rfl⟩ := hp
  refine ⟨_, c_X8_state l G I J t nt hC.t1 hC.t10 hC.tokM, fun ρ' I2 J2 hq => ?_⟩
  obtain ⟨e2, rfl, rfl⟩ := hq
  refine ⟨e1.symm.trans (Eq.trans ?_ e2), h⟩
  refine ite_c ?_ (fun a => ?_)
  · unfold isT; rw [hC.t0, hC.t1]
  · exact (st_e hC.pl (hC.tq _ (has_tn a hC.t0 (by omega)))).symm
theorem op_within (h : Rel I) (m x y : Int32) : OpI l G yX7_within wsX7_within 5 125 yX8_within wsX8_within 5 131 [.int m, .int x, .int y] I J := by
  obtain ⟨⟨n, sb, ib, nt, ct, hC⟩, hU⟩ := id h
  refine ⟨_, c_X7_within l G I J m x y nt hC.t0 hC.t10 hC.tok, fun ρ I1 J1 hp => ?_⟩
  obtain ⟨e1, rfl, rfl⟩ := hp
  refine ⟨_, c_X8_within l G I J m x y nt hC.t1 hC.t10 hC.tokM, fun ρ' I2 J2 hq => ?_⟩
  obtain ⟨e2, rfl, rfl⟩ := hq
  refine ⟨e1.symm.trans (Eq.trans ?_ e2), h⟩
  refine ite_c (and_congr_left (fun _ => mp_iff)) (fun a => ?_)
  refine fst_cb nt 0 (fun t _ ht => ?_)
  exact hol_e hC.pl (hC.tq t (by omega)) (mp_tn a.1) a.2.bx a.2.by
theorem op_carried (h : Rel I) (t m x y w : Int32) : OpL l G yX7_carried wsX7_carried 4 107 yX8_carried wsX8_carried 4 102 [.int t, .int m, .int x, .int y, .int w] I J := by
  obtain ⟨⟨n, sb, ib, nt, ct, hC⟩, hU⟩ := id h
  have h10 := hC.t10
  refine ⟨_, c_X7_carried l G I J t m x y w nt hC.t0 hC.t10 hC.tok, fun ρ I1 J1 hp => ?_⟩
  obtain ⟨e1, rfl, rfl⟩ := hp
  refine ⟨_, c_X8_carried l G I J t m x y w nt hC.t1 hC.t10 hC.tokM, fun ρ' I2 J2 hq => ?_⟩
  obtain ⟨e2, rfl, rfl⟩ := hq
  refine ⟨e1.symm.trans (Eq.trans ?_ e2), h⟩
  refine ite_c ?_ ?_
  · constructor
    · rintro ⟨a, b, c, d, e⟩
      exact ⟨by unfold isT at a; rw [hC.t0] at a; rw [hC.t1]; exact a, mp_iff.mp b, c, d, mt (fl_e hC.pl (hC.tq _ (has_tn a hC.t0 (by omega)))).mpr e⟩
    · rintro ⟨a, b, c, d, e⟩
      have a2 : isT I t := by unfold isT; rw [hC.t0]; rw [hC.t1] at a; exact a
      exact ⟨a2, mp_iff.mpr b, c, d, mt (fl_e hC.pl (hC.tq _ (has_tn a2 hC.t0 (by omega)))).mp e⟩
  · rintro ⟨a, b, c, d, e⟩
    have hw := pt_tn d
    exact carr_e hC.pl (hC.tq _ (has_tn a hC.t0 (by omega))) e (mp_tn b) (by omega) c.bx c.by
theorem op_meet (h : Rel I) (t u m : Int32) : OpI l G yX7_meet wsX7_meet 5 136 yX8_meet wsX8_meet 5 133 [.int t, .int u, .int m] I J := by
  obtain ⟨⟨n, sb, ib, nt, ct, hC⟩, hU⟩ := id h
  have h10 := hC.t10
  refine ⟨_, c_X7_meet l G I J t u m nt hC.t0 hC.t10 hC.tok, fun ρ I1 J1 hp => ?_⟩
  obtain ⟨e1, rfl, rfl⟩ := hp
  refine ⟨_, c_X8_meet l G I J t u m nt hC.t1 hC.t10 hC.tokM, fun ρ' I2 J2 hq => ?_⟩
  obtain ⟨e2, rfl, rfl⟩ := hq
  refine ⟨e1.symm.trans (Eq.trans ?_ e2), h⟩
  refine ite_c ?_ ?_
  · unfold isT; rw [hC.t0, hC.t1, mp_iff]
  · rintro ⟨a, b, c, d⟩
    have ta := hC.tq _ (has_tn a hC.t0 (by omega))
    have tb := hC.tq _ (has_tn b hC.t0 (by omega))
    have ea := fl_e hC.pl ta
    have eb := fl_e hC.pl tb
    by_cases q : fl I (tn t) ∨ fl I (tn u)
    · rw [if_pos q, if_pos (q.imp ea.mp eb.mp)]
    · have q2 := not_or.mp q
      rw [if_neg q, if_neg (show ¬ (fltM I (tn t) ∨ fltM I (tn u)) from fun z => q (z.imp ea.mpr eb.mpr))]
      exact ite_c (ovl_e hC.pl ta tb q2.1 q2.2 (mp_tn c)) (fun _ => rfl)
theorem op_area (h : Rel I) (t m : Int32) : OpI l G yX7_area wsX7_area 3 74 yX8_area wsX8_area 3 81 [.int t, .int m] I J := by
  obtain ⟨⟨n, sb, ib, nt, ct, hC⟩, hU⟩ := id h
  have h10 := hC.t10
  refine ⟨_, c_X7_area l G I J t m nt hC.t0 hC.t10 hC.tok, fun ρ I1 J1 hp => ?_⟩
  obtain ⟨e1, rfl, rfl⟩ := hp
  refine ⟨_, c_X8_area l G I J t m nt hC.t1 hC.t10 hC.tokM, fun ρ' I2 J2 hq => ?_⟩
  obtain ⟨e2, rfl, rfl⟩ := hq
  refine ⟨e1.symm.trans (Eq.trans ?_ e2), h⟩
  refine ite_c ?_ ?_
  · unfold isT; rw [hC.t0, hC.t1, mp_iff]
  · rintro ⟨a, b⟩
    exact area_e hC.pl (hC.tq _ (has_tn a hC.t0 (by omega))) (mp_tn b)
theorem CuR.o0 {n sb ib nt : Nat} {ct : Nat → Nat} (h : CuR I n sb ib nt ct) : I 20 0 = nI (ct 0) ∧ I 24 0 = nI (ct 1) ∧ I 81 0 = nI (ct 0) ∧ I 81 1 = nI (ct 1) ∧ ct 0 ≤ 6 ∧ ct 1 ≤ 6 := by
  obtain ⟨a1, a2, a3, -⟩ := h.2.2 0 (by decide)
  obtain ⟨b1, b2, b3, -⟩ := h.2.2 1 (by decide)
  exact ⟨a2, b2, a3, b3, a1, b1⟩
theorem op_many (h : Rel I) (w : Int32) : OpI l G yX7_many wsX7_many 6 160 yX8_many wsX8_many 6 157 [.int w] I J := by
  obtain ⟨⟨n, sb, ib, nt, ct, hC⟩, hU⟩ := id h
  obtain ⟨o1, o2, o3, o4, -, -⟩ := hC.o0
  refine ⟨_, c_X7_many l G I J w nt hC.t0 hC.t10 hC.tok, fun ρ I1 J1 hp => ?_⟩
  obtain ⟨e1, rfl, rfl⟩ := hp
  refine ⟨_, c_X8_many l G I J w n hC.n1 hC.n12 nt hC.t1 hC.t10 hC.tokM, fun ρ' I2 J2 hq => ?_⟩
  obtain ⟨e2, rfl, rfl⟩ := hq
  refine ⟨e1.symm.trans (Eq.trans ?_ e2), h⟩
  exact many_e hC.pl hC.tq (hC.n0.trans hC.n1.symm) (by rw [hC.cb, hC.cm]; exact pop_mof _ (pow12 hC.slt hC.n12)) (hC.t0.trans hC.t1.symm) (o1.trans o3.symm) (o2.trans o4.symm)
theorem CuR.mt {n sb ib nt kd : Nat} {ct : Nat → Nat} (h : CuR I n sb ib nt ct) (hU : RuR I) (hk : kd < 3) (ho : okM I n kd (cM I n)) : MtR I n (sb &&& ib) kd (ct 0) (ct 1) := by
  obtain ⟨-, -, -, -, o5, o6⟩ := h.o0
  rw [h.cm] at ho
  exact ⟨h.pl, h.slt, hk, (ok_ok h.pl h.slt).mp ho, h.ht, o5, o6, h.cm, hU.2.1, hU.2.2.1, hU.2.2.2.1⟩
theorem op_match (h : Rel I) (k p : Int32) : OpI l G yX7_match wsX7_match 4 102 yX8_match wsX8_match 5 125 [.int k, .int p] I J := by
  obtain ⟨⟨n, sb, ib, nt, ct, hC⟩, hU⟩ := id h
  obtain ⟨o1, o2, o3, o4, o5, o6⟩ := hC.o0
  refine ⟨_, c_X7_match l G I J k p (ct 0) o1 o5 (ct 1) o2 o6, fun ρ I1 J1 hp => ?_⟩
  obtain ⟨e1, S⟩ := hp
  have hC1 : CuR I1 n sb ib nt ct := hC.fr (fun c hc => S.1 c (by omega)) (by rw [S.1 76 (by omega)]) (by rw [S.1 76 (by omega)])
  have hR1 : Rel I1 := h.fr (fun c hc => S.1 c (by omega))
  obtain ⟨p1, p2, p3, p4, -, -⟩ := hC1.o0
  refine ⟨_, c_X8_match l G I1 J1 k p n hC1.n1 hC1.n12 (ct 0) p3 o5 (ct 1) p4 o6 (fun kd hk ho => by rw [hC1.cm] at ho ⊢; exact (low_ok hC1.pl hC1.slt hk ho).2) (fun kd hk ho => bf_pos (hC1.mt hR1.2 hk ho)), fun ρ' I2 J2 hq => ?_⟩
  obtain ⟨e2, f2, -⟩ := hq
  refine ⟨e1.symm.trans (Eq.trans ?_ e2), hR1.fr (fun c hc => f2 c (by omega) (by omega))⟩
  rw [← S.ap, ← S.at, ← S.cb, hC1.cb, ← S.1 0 (by omega)]
  refine ite_c ?_ ?_
  · rw [o1, p3]
  · rintro ⟨a, b⟩
    refine ite_c ?_ (fun q => ?_)
    · rw [hC1.cm]; exact (ok_ok hC1.pl hC1.slt).symm
    · exact match_e (hC1.mt hR1.2 (kd_tn a) (by rw [hC1.cm]; exact (ok_ok hC1.pl hC1.slt).mpr q)) (has_tn b o1 (by omega))
theorem op_cost (h : Rel I) (k : Int32) : OpI l G yX7_cost wsX7_cost 4 102 yX8_cost wsX8_cost 5 125 [.int k] I J := by
  obtain ⟨⟨n, sb, ib, nt, ct, hC⟩, hU⟩ := id h
  obtain ⟨o1, o2, o3, o4, o5, o6⟩ := hC.o0
  refine ⟨_, c_X7_cost l G I J k (ct 0) o1 o5 (ct 1) o2 o6, fun ρ I1 J1 hp => ?_⟩
  obtain ⟨e1, S⟩ := hp
  have hC1 : CuR I1 n sb ib nt ct := hC.fr (fun c hc => S.1 c (by omega)) (by rw [S.1 76 (by omega)]) (by rw [S.1 76 (by omega)])
  have hR1 : Rel I1 := h.fr (fun c hc => S.1 c (by omega))
  obtain ⟨p1, p2, p3, p4, -, -⟩ := hC1.o0
  refine ⟨_, c_X8_cost l G I1 J1 k n hC1.n1 hC1.n12 (ct 0) p3 o5 (ct 1) p4 o6 (fun kd hk ho => by rw [hC1.cm] at ho ⊢; exact (low_ok hC1.pl hC1.slt hk ho).2) (fun kd hk ho => bf_pos (hC1.mt hR1.2 hk ho)), fun ρ' I2 J2 hq => ?_⟩
  obtain ⟨e2, f2, -⟩ := hq
  refine ⟨e1.symm.trans (Eq.trans ?_ e2), hR1.fr (fun c hc => f2 c (by omega) (by omega))⟩
  rw [← S.ap, ← S.at, ← S.cb, hC1.cb, ← S.1 0 (by omega)]
  refine ite_c Iff.rfl (fun a => ite_c ?_ (fun q => ?_))
  · rw [hC1.cm]; exact (ok_ok hC1.pl hC1.slt).symm
  · exact cost_e (hC1.mt hR1.2 (kd_tn a) (by rw [hC1.cm]; exact (ok_ok hC1.pl hC1.slt).mpr q))
theorem op_left (h : Rel I) (k : Int32) : OpI l G yX7_left wsX7_left 4 102 yX8_left wsX8_left 5 125 [.int k] I J := by
  obtain ⟨⟨n, sb, ib, nt, ct, hC⟩, hU⟩ := id h
  obtain ⟨o1, o2, o3, o4, o5, o6⟩ := hC.o0
  refine ⟨_, c_X7_left l G I J k (ct 0) o1 o5 (ct 1) o2 o6, fun ρ I1 J1 hp => ?_⟩
  obtain ⟨e1, S⟩ := hp
  have hC1 : CuR I1 n sb ib nt ct := hC.fr (fun c hc => S.1 c (by omega)) (by rw [S.1 76 (by omega)]) (by rw [S.1 76 (by omega)])
  have hR1 : Rel I1 := h.fr (fun c hc => S.1 c (by omega))
  obtain ⟨p1, p2, p3, p4, -, -⟩ := hC1.o0
  refine ⟨_, c_X8_left l G I1 J1 k n hC1.n1 hC1.n12 (ct 0) p3 o5 (ct 1) p4 o6 (fun kd hk ho => by rw [hC1.cm] at ho ⊢; exact (low_ok hC1.pl hC1.slt hk ho).2) (fun kd hk ho => bf_pos (hC1.mt hR1.2 hk ho)), fun ρ' I2 J2 hq => ?_⟩
  obtain ⟨e2, f2, -⟩ := hq
  refine ⟨e1.symm.trans (Eq.trans ?_ e2), hR1.fr (fun c hc => f2 c (by omega) (by omega))⟩
  rw [← S.ap, ← S.at, ← S.cb, hC1.cb, ← S.1 0 (by omega)]
  refine ite_c Iff.rfl (fun a => ite_c ?_ (fun q => ?_))
  · rw [hC1.cm]; exact (ok_ok hC1.pl hC1.slt).symm
  · exact left_e (hC1.mt hR1.2 (kd_tn a) (by rw [hC1.cm]; exact (ok_ok hC1.pl hC1.slt).mpr q))
end OPS
