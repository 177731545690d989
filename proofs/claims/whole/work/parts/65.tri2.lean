/-! triangles: carried, area, the sums over pairs -/
theorem neg_div64 {x g : Int64} (h1 : -4000000000000000000 ≤ x.toInt) (h2 : x.toInt ≤ 4000000000000000000) : -(x / g) = (-x) / g := by
  have hm : (Int64.minValue).toInt = -9223372036854775808 := rfl
  have n1 : x ≠ Int64.minValue := fun q => by rw [q, hm] at h1; omega
  have hb : -((x.toInt).natAbs : Int) ≤ x.toInt.tdiv g.toInt ∧ x.toInt.tdiv g.toInt ≤ ((x.toInt).natAbs : Int) := by
    have h2 : (x.toInt.tdiv g.toInt).natAbs ≤ x.toInt.natAbs := by rw [Int.natAbs_tdiv]; exact Nat.div_le_self _ _
    omega
  have en : (-x).toInt = -x.toInt := by
    rw [Int64.toInt_neg]
    exact Int.bmod_eq_of_le (by omega) (by omega)
  have n2 : -x ≠ Int64.minValue := fun q => by
    have := congrArg Int64.toInt q
    rw [en, hm] at this
    omega
  apply Int64.toInt_inj.mp
  rw [Int64.toInt_neg, Int64.toInt_div_of_ne_left _ _ n1, Int64.toInt_div_of_ne_left _ _ n2, en, Int.neg_tdiv]
  exact Int.bmod_eq_of_le (by omega) (by omega)
theorem ng_neg {a : Int64} (h1 : -4000000000000000000 ≤ a.toInt) (h2 : a.toInt ≤ 4000000000000000000) : ng64 (-a) = ab64 a := by
  have en : (-a).toInt = -a.toInt := by
    rw [Int64.toInt_neg]
    exact Int.bmod_eq_of_le (by omega) (by omega)
  unfold ng64 ab64
  by_cases h : 0 < a
  · have h' := lt64.mp h
    rw [zero64] at h'
    rw [if_pos h, if_neg (by rw [le64, en, zero64]; omega), Int64.neg_neg]
  · have h' := mt lt64.mpr h
    rw [zero64] at h'
    rw [if_neg h, if_pos (by rw [le64, en, zero64]; omega)]
theorem clr_neg {a b : Int64} {w : Nat} (h1 : -4000000000000000000 ≤ a.toInt) (h2 : a.toInt ≤ 4000000000000000000) (h3 : -4000000000000000000 ≤ b.toInt) (hb : b < 0) : clr a b (nI (w % 2)) = toldM (-a) (-b) (par2 w) := by
  have hb' := lt64.mp hb
  rw [zero64] at hb'
  have b0 : ¬ b = 0 := fun q => by rw [q, zero64] at hb'; omega
  have b1 : ¬ 0 ≤ b := by rw [le64, zero64]; omega
  have b2 : ab64 b = -b := if_neg (by rw [lt64, zero64]; omega)
  have en : (-b).toInt = -b.toInt := by
    rw [Int64.toInt_neg]
    exact Int.bmod_eq_of_le (by omega) (by omega)
  have b3 : ¬ -b = 0 := fun q => by
    have := congrArg Int64.toInt q
    rw [en, zero64] at this
    omega
  have hg : ¬ gcdS 100 (ab64 a) (-b) = 0 := gcdS_ne b3
  unfold clr toldM par2
  rw [b2, if_neg (not_or.mpr ⟨b0, hg⟩), if_neg b1, ng_neg h1 h2]
  rcases (show w % 2 = 0 ∨ w % 2 = 1 by omega) with e | e
  · rw [e, if_pos (show nI 0 = 0 from rfl), if_pos (show (if (0 : Nat) = 1 then (1 : Int32) else 0) = 0 by decide), neg_div64 h1 h2]
  · rw [e, if_neg (show ¬ nI 1 = 0 by decide), if_neg (show ¬ (if (1 : Nat) = 1 then (1 : Int32) else 0) = 0 by decide), neg_div64 h3 (by omega)]
theorem crs_sum (ax ay bx bY cx cy x y : Int64) : crs ax ay bx bY cx cy = crs ax ay bx bY x y + crs bx bY cx cy x y + crs cx cy ax ay x y := by
  unfold crs
  grind
theorem top_ring (a b c X Y Z : Int64) : X * (a + b + c) + c * (Y - X) + a * (Z - X) = b * X + c * Y + a * Z := by grind
section TQ2
variable {I : hI} {n t u : Nat}
theorem bent_e {m wh : Nat} {x y : Int32} (hR : PlR I n) (hT : TQ I n t) (hm : m < 2) (hw : wh < 2) (hx : Bd x) (hy : Bd y) : bent I t m wh x y = topM I t m wh x.toInt64 y.toInt64 := by
  unfold bent topM
  rw [rd_e hR hT hm]
  have e2 := sd_e hR hT (show 2 < 3 by decide) hm hx hy
  have e0 := sd_e hR hT (show 0 < 3 by decide) hm hx hy
  rw [show (2 + 1) % 3 = 0 from rfl] at e2
  rw [show (0 + 1) % 3 = 1 from rfl] at e0
  rw [e2, e0, crM_e hR hT (show 0 < 3 by decide) (show 1 - m < 2 by omega) hw, crM_e hR hT (show 1 < 3 by decide) (show 1 - m < 2 by omega) hw, crM_e hR hT (show 2 < 3 by decide) (show 1 - m < 2 by omega) hw]
  have es : rdM I t m = sdM I t 0 m x.toInt64 y.toInt64 + sdM I t 1 m x.toInt64 y.toInt64 + sdM I t 2 m x.toInt64 y.toInt64 := crs_sum ..
  rw [es]
  exact top_ring ..
theorem bent_bd {m wh : Nat} {x y : Int32} (hR : PlR I n) (hT : TQ I n t) (hm : m < 2) (hw : wh < 2) (hx : Bd x) (hy : Bd y) : -4000000000000000000 ≤ (bent I t m wh x y).toInt ∧ (bent I t m wh x y).toInt ≤ 4000000000000000000 := by
  have e2 := sd_sm hR hT (show 2 < 3 by decide) hm hx hy
  have e0 := sd_sm hR hT (show 0 < 3 by decide) hm hx hy
  rw [show (2 + 1) % 3 = 0 from rfl] at e2
  rw [show (0 + 1) % 3 = 1 from rfl] at e0
  have eT := rd_sm hR hT hm
  have x0 := (at_bd hR hT (show 0 < 3 by decide) (show 1 - m < 2 by omega) hw).i
  have x1 := (at_bd hR hT (show 1 < 3 by decide) (show 1 - m < 2 by omega) hw).i
  have x2 := (at_bd hR hT (show 2 < 3 by decide) (show 1 - m < 2 by omega) hw).i
  unfold bent
  generalize (I (4 + (2 * (1 - m) + wh)) (cn I t 0)) = X0 at x0 ⊢
  generalize (I (4 + (2 * (1 - m) + wh)) (cn I t 1)) = X1 at x1 ⊢
  generalize (I (4 + (2 * (1 - m) + wh)) (cn I t 2)) = X2 at x2 ⊢
  generalize (sideC I m (cn I t 2) (cn I t 0) x y) = s2 at e2 ⊢
  generalize (sideC I m (cn I t 0) (cn I t 1) x y) = s0 at e0 ⊢
  generalize (tT I t m) = T at eT ⊢
  have m1 := mul_bd (a := X0.toInt) (b := T.toInt) (m := 1000) (n := 8000000) (by omega) (by omega)
  have m2 := mul_bd (a := s2.toInt) (b := X1.toInt - X0.toInt) (m := 8000000) (n := 2000) (by omega) (by omega)
  have m3 := mul_bd (a := s0.toInt) (b := X2.toInt - X0.toInt) (m := 8000000) (n := 2000) (by omega) (by omega)
  have e : X0.toInt64 * T.toInt64 + s2.toInt64 * (X1.toInt64 - X0.toInt64) + s0.toInt64 * (X2.toInt64 - X0.toInt64) = Int64.ofInt (X0.toInt * T.toInt + s2.toInt * (X1.toInt - X0.toInt) + s0.toInt * (X2.toInt - X0.toInt)) := by
    simp only [i64_of, Int64.ofInt_add, Int64.ofInt_sub, Int64.ofInt_mul]
  rw [e, i64_toInt (by omega) (by omega)]
  omega
theorem carr_e {m wh w : Nat} {x y : Int32} (hR : PlR I n) (hT : TQ I n t) (hf : ¬ fl I t) (hm : m < 2) (hw : wh < 2) (hx : Bd x) (hy : Bd y) : clr (bent I t m wh x y) (tT I t m).toInt64 (nI (w % 2)) = toldM (sgM (rdM I t m) (topM I t m wh x.toInt64 y.toInt64)) (sgM (rdM I t m) (rdM I t m)) (par2 w) := by
  have hb := bent_bd hR hT hm hw hx hy
  rw [bent_e hR hT hm hw hx hy] at hb ⊢
  have hs := rd_sm hR hT hm
  have hn := nfl hf hm
  have hv : (tT I t m).toInt64.toInt = (tT I t m).toInt := Int32.toInt_toInt64 _
  rw [eq32] at hn
  rw [← rd_e hR hT hm]
  unfold sgM
  rcases Int.lt_or_gt_of_ne hn with h | h
  · have l1 : (tT I t m).toInt64 < 0 := by rw [lt64, hv, zero64]; exact h
    have l2 : ¬ 0 ≤ (tT I t m).toInt64 := by rw [le64, hv, zero64]; omega
    rw [if_neg l2, if_neg l2]
    exact clr_neg hb.1 hb.2 (by omega) l1
  · have l1 : 0 < (tT I t m).toInt64 := by rw [lt64, hv, zero64]; exact h
    rw [if_pos (Int64.le_of_lt l1), if_pos (Int64.le_of_lt l1)]
    exact clr_told l1
theorem area_e {m : Nat} (hR : PlR I n) (hT : TQ I n t) (hm : m < 2) : ab32 (tT I t m) = (ng64 (rdM I t m)).toInt32 := by
  have hs := rd_sm hR hT hm
  rw [← rd_e hR hT hm]
  generalize tT I t m = T at hs ⊢
  have hv : T.toInt64.toInt = T.toInt := Int32.toInt_toInt64 _
  have e : ng64 T.toInt64 = (ab32 T).toInt64 := by
    unfold ng64 ab32
    by_cases h : 0 ≤ T
    · rw [if_pos h, if_pos (s64_ge0.mpr h)]
    · rw [if_neg h, if_neg (mt s64_ge0.mp h), Int32.zero_sub]
      apply Int64.toInt_inj.mp
      rw [Int32.toInt_toInt64, neg_i (by omega), Int64.toInt_neg, hv]
      exact Int.bmod_eq_of_le (by omega) (by omega)
  rw [e, Int32.toInt32_toInt64]
end TQ2
theorem sumI_c {f g : Nat → Int32} : ∀ {n : Nat}, (∀ k, k < n → f k = g k) → sumI f n = sumI g n
  | 0, _ => rfl
  | n + 1, h => by unfold sumI; rw [sumI_c (fun k hk => h k (by omega)), h n (by omega)]
theorem sumI_add {f g : Nat → Int32} : ∀ {n : Nat}, sumI (fun k => f k + g k) n = sumI f n + sumI g n
  | 0 => rfl
  | n + 1 => by unfold sumI; rw [sumI_add]; grind
theorem pairs (f : Nat → Nat → Int32) : ∀ nt, sumI (fun t => sumI (fun d => f t (t + 1 + d)) (nt - (t + 1))) nt = sumI (fun t => sumI (fun u => f u t) t) nt
  | 0 => rfl
  | nt + 1 => by
    have e1 : sumI (fun t => sumI (fun d => f t (t + 1 + d)) (nt + 1 - (t + 1))) nt = sumI (fun t => sumI (fun d => f t (t + 1 + d)) (nt - (t + 1)) + f t nt) nt := by
      refine sumI_c (fun t ht => ?_)
      rw [show nt + 1 - (t + 1) = (nt - (t + 1)) + 1 by omega]
      show _ + f t (t + 1 + (nt - (t + 1))) = _
      rw [show t + 1 + (nt - (t + 1)) = nt by omega]
    show sumI (fun t => sumI (fun d => f t (t + 1 + d)) (nt + 1 - (t + 1))) nt + sumI (fun d => f nt (nt + 1 + d)) (nt + 1 - (nt + 1)) = sumI (fun t => sumI (fun u => f u t) t) nt + sumI (fun u => f u nt) nt
    rw [e1, sumI_add, pairs f nt, Nat.sub_self]
    show _ + (0 : Int32) = _
    rw [Int32.add_zero]
theorem meets {I : hI} {n nt mp : Nat} (hR : PlR I n) (hT : ∀ t, t < nt → TQ I n t) (hm : mp < 2) : sumI (fun t => sumI (fun d => if ¬ fl I t ∧ ¬ fl I (t + 1 + d) ∧ ovl I t (t + 1 + d) mp then 1 else 0) (nt - (t + 1))) nt = sumI (fun t => sumI (fun u => if ¬ fltM I t ∧ ¬ fltM I u ∧ metM I t u mp then 1 else 0) t) nt := by
  refine (pairs (fun t u => if ¬ fl I t ∧ ¬ fl I u ∧ ovl I t u mp then 1 else 0) nt).trans ?_
  refine sumI_c (fun t ht => sumI_c (fun u hu => ?_))
  have hU := hT u (by omega)
  have h2 := hT t ht
  have key : (¬ fl I u ∧ ¬ fl I t ∧ ovl I u t mp) ↔ (¬ fltM I t ∧ ¬ fltM I u ∧ metM I t u mp) := by
    rw [← fl_e hR hU, ← fl_e hR h2]
    constructor
    · rintro ⟨a, b, c⟩
      exact ⟨b, a, (ovl_e hR h2 hU b a hm).mp ⟨c.2, c.1⟩⟩
    · rintro ⟨a, b, c⟩
      have d := (ovl_e hR h2 hU a b hm).mpr c
      exact ⟨b, a, d.2, d.1⟩
  by_cases q : ¬ fl I u ∧ ¬ fl I t ∧ ovl I u t mp
  · rw [if_pos q, if_pos (key.mp q)]
  · rw [if_neg q, if_neg (mt key.mpr q)]
theorem many_e {I : hI} {n nt : Nat} {w : Int32} (hR : PlR I n) (hT : ∀ t, t < nt → TQ I n t) (h0 : I 2 0 = I 76 0) (h1 : pop (I 2 2 &&& I 2 3) = mof (cM I n)) (h2 : I 8 1 = I 76 4) (h5 : I 20 0 = I 81 0) (h6 : I 24 0 = I 81 1) : C_many I nt w = M_many I n nt w := by
  unfold C_many M_many
  have e3 : sumI (fun t => if ov I t then (1 : Int32) else 0) nt = sumI (fun t => if stM I t = 1 then 1 else 0) nt := sumI_c (fun t ht => by simp only [st1_e hR (hT t ht)])
  have e4 : sumI (fun t => if fl I t then (1 : Int32) else 0) nt = sumI (fun t => if stM I t = 2 then 1 else 0) nt := sumI_c (fun t ht => by simp only [st2_e hR (hT t ht)])
  rw [h0, h1, h2, h5, h6, e3, e4, meets hR hT (show 0 < 2 by decide), meets hR hT (show 1 < 2 by decide)]
