/-! the table that is kept, and taken back: one answer, and the tie holds -/
section KP
variable {I : hI}
theorem k_ne {c : Nat} (h : c < 28 ∨ 76 ≤ c) : cpTa1 I c = I c := by simp (disch := omega) only [cpTa1, cpTh, cpTr1, cpPt1, h_cp_ne, h_up_ne]
theorem b_ne {c : Nat} (h : c = 0 ∨ 28 ≤ c) : cpTa0 I c = I c := by simp (disch := omega) only [cpTa0, cpTh, cpTr0, cpPt0, h_cp_ne, h_up_ne]
theorem k_29_0 : cpTa1 I 29 0 = I 2 0 := by simp (disch := omega) only [cpTa1, cpTh, cpTr1, cpPt1, h_cp_ne, h_up_ne, cp_hit, up_hit, up_off]
theorem b_2_0 : cpTa0 I 2 0 = I 29 0 := by simp (disch := omega) only [cpTa0, cpTh, cpTr0, cpPt0, h_cp_ne, h_up_ne, cp_hit, up_hit, up_off]
theorem k_29_2 : cpTa1 I 29 2 = I 2 2 := by simp (disch := omega) only [cpTa1, cpTh, cpTr1, cpPt1, h_cp_ne, h_up_ne, cp_hit, up_hit, up_off]
theorem b_2_2 : cpTa0 I 2 2 = I 29 2 := by simp (disch := omega) only [cpTa0, cpTh, cpTr0, cpPt0, h_cp_ne, h_up_ne, cp_hit, up_hit, up_off]
theorem k_29_3 : cpTa1 I 29 3 = I 2 3 := by simp (disch := omega) only [cpTa1, cpTh, cpTr1, cpPt1, h_cp_ne, h_up_ne, cp_hit, up_hit, up_off]
theorem b_2_3 : cpTa0 I 2 3 = I 29 3 := by simp (disch := omega) only [cpTa0, cpTh, cpTr0, cpPt0, h_cp_ne, h_up_ne, cp_hit, up_hit, up_off]
theorem k_35_1 : cpTa1 I 35 1 = I 8 1 := by simp (disch := omega) only [cpTa1, cpTh, cpTr1, cpPt1, h_cp_ne, h_up_ne, cp_hit, up_hit, up_off]
theorem b_8_1 : cpTa0 I 8 1 = I 35 1 := by simp (disch := omega) only [cpTa0, cpTh, cpTr0, cpPt0, h_cp_ne, h_up_ne, cp_hit, up_hit, up_off]
theorem k_47_0 : cpTa1 I 47 0 = I 20 0 := by simp (disch := omega) only [cpTa1, cpTh, cpTr1, cpPt1, h_cp_ne, h_up_ne, cp_hit, up_hit, up_off]
theorem b_20_0 : cpTa0 I 20 0 = I 47 0 := by simp (disch := omega) only [cpTa0, cpTh, cpTr0, cpPt0, h_cp_ne, h_up_ne, cp_hit, up_hit, up_off]
theorem k_51_0 : cpTa1 I 51 0 = I 24 0 := by simp (disch := omega) only [cpTa1, cpTh, cpTr1, cpPt1, h_cp_ne, h_up_ne, cp_hit, up_hit, up_off]
theorem b_24_0 : cpTa0 I 24 0 = I 51 0 := by simp (disch := omega) only [cpTa0, cpTh, cpTr0, cpPt0, h_cp_ne, h_up_ne, cp_hit, up_hit, up_off]
theorem k_31 {j : Nat} (hj : j < 12) : cpTa1 I 31 j = I 4 j := by simp (disch := omega) only [cpTa1, cpTh, cpTr1, cpPt1, h_cp_ne, h_up_ne, cp_hit, up_hit, up_off]
theorem b_4 {j : Nat} (hj : j < 12) : cpTa0 I 4 j = I 31 j := by simp (disch := omega) only [cpTa0, cpTh, cpTr0, cpPt0, h_cp_ne, h_up_ne, cp_hit, up_hit, up_off]
theorem k_32 {j : Nat} (hj : j < 12) : cpTa1 I 32 j = I 5 j := by simp (disch := omega) only [cpTa1, cpTh, cpTr1, cpPt1, h_cp_ne, h_up_ne, cp_hit, up_hit, up_off]
theorem b_5 {j : Nat} (hj : j < 12) : cpTa0 I 5 j = I 32 j := by simp (disch := omega) only [cpTa0, cpTh, cpTr0, cpPt0, h_cp_ne, h_up_ne, cp_hit, up_hit, up_off]
theorem k_33 {j : Nat} (hj : j < 12) : cpTa1 I 33 j = I 6 j := by simp (disch := omega) only [cpTa1, cpTh, cpTr1, cpPt1, h_cp_ne, h_up_ne, cp_hit, up_hit, up_off]
theorem b_6 {j : Nat} (hj : j < 12) : cpTa0 I 6 j = I 33 j := by simp (disch := omega) only [cpTa0, cpTh, cpTr0, cpPt0, h_cp_ne, h_up_ne, cp_hit, up_hit, up_off]
theorem k_34 {j : Nat} (hj : j < 12) : cpTa1 I 34 j = I 7 j := by simp (disch := omega) only [cpTa1, cpTh, cpTr1, cpPt1, h_cp_ne, h_up_ne, cp_hit, up_hit, up_off]
theorem b_7 {j : Nat} (hj : j < 12) : cpTa0 I 7 j = I 34 j := by simp (disch := omega) only [cpTa0, cpTh, cpTr0, cpPt0, h_cp_ne, h_up_ne, cp_hit, up_hit, up_off]
theorem k_37 {j : Nat} (hj : j < 3) : cpTa1 I 37 j = I 10 j := by simp (disch := omega) only [cpTa1, cpTh, cpTr1, cpPt1, h_cp_ne, h_up_ne, cp_hit, up_hit, up_off]
theorem b_10 {j : Nat} (hj : j < 3) : cpTa0 I 10 j = I 37 j := by simp (disch := omega) only [cpTa0, cpTh, cpTr0, cpPt0, h_cp_ne, h_up_ne, cp_hit, up_hit, up_off]
theorem k_38 {j : Nat} (hj : j < 3) : cpTa1 I 38 j = I 11 j := by simp (disch := omega) only [cpTa1, cpTh, cpTr1, cpPt1, h_cp_ne, h_up_ne, cp_hit, up_hit, up_off]
theorem b_11 {j : Nat} (hj : j < 3) : cpTa0 I 11 j = I 38 j := by simp (disch := omega) only [cpTa0, cpTh, cpTr0, cpPt0, h_cp_ne, h_up_ne, cp_hit, up_hit, up_off]
theorem k_39 {j : Nat} (hj : j < 3) : cpTa1 I 39 j = I 12 j := by simp (disch := omega) only [cpTa1, cpTh, cpTr1, cpPt1, h_cp_ne, h_up_ne, cp_hit, up_hit, up_off]
theorem b_12 {j : Nat} (hj : j < 3) : cpTa0 I 12 j = I 39 j := by simp (disch := omega) only [cpTa0, cpTh, cpTr0, cpPt0, h_cp_ne, h_up_ne, cp_hit, up_hit, up_off]
theorem k_40 {j : Nat} (hj : j < 3) : cpTa1 I 40 j = I 13 j := by simp (disch := omega) only [cpTa1, cpTh, cpTr1, cpPt1, h_cp_ne, h_up_ne, cp_hit, up_hit, up_off]
theorem b_13 {j : Nat} (hj : j < 3) : cpTa0 I 13 j = I 40 j := by simp (disch := omega) only [cpTa0, cpTh, cpTr0, cpPt0, h_cp_ne, h_up_ne, cp_hit, up_hit, up_off]
theorem k_41 {j : Nat} (hj : j < 3) : cpTa1 I 41 j = I 14 j := by simp (disch := omega) only [cpTa1, cpTh, cpTr1, cpPt1, h_cp_ne, h_up_ne, cp_hit, up_hit, up_off]
theorem b_14 {j : Nat} (hj : j < 3) : cpTa0 I 14 j = I 41 j := by simp (disch := omega) only [cpTa0, cpTh, cpTr0, cpPt0, h_cp_ne, h_up_ne, cp_hit, up_hit, up_off]
theorem k_42 {j : Nat} (hj : j < 3) : cpTa1 I 42 j = I 15 j := by simp (disch := omega) only [cpTa1, cpTh, cpTr1, cpPt1, h_cp_ne, h_up_ne, cp_hit, up_hit, up_off]
theorem b_15 {j : Nat} (hj : j < 3) : cpTa0 I 15 j = I 42 j := by simp (disch := omega) only [cpTa0, cpTh, cpTr0, cpPt0, h_cp_ne, h_up_ne, cp_hit, up_hit, up_off]
theorem k_43 {j : Nat} (hj : j < 3) : cpTa1 I 43 j = I 16 j := by simp (disch := omega) only [cpTa1, cpTh, cpTr1, cpPt1, h_cp_ne, h_up_ne, cp_hit, up_hit, up_off]
theorem b_16 {j : Nat} (hj : j < 3) : cpTa0 I 16 j = I 43 j := by simp (disch := omega) only [cpTa0, cpTh, cpTr0, cpPt0, h_cp_ne, h_up_ne, cp_hit, up_hit, up_off]
theorem k_44 {j : Nat} (hj : j < 3) : cpTa1 I 44 j = I 17 j := by simp (disch := omega) only [cpTa1, cpTh, cpTr1, cpPt1, h_cp_ne, h_up_ne, cp_hit, up_hit, up_off]
theorem b_17 {j : Nat} (hj : j < 3) : cpTa0 I 17 j = I 44 j := by simp (disch := omega) only [cpTa0, cpTh, cpTr0, cpPt0, h_cp_ne, h_up_ne, cp_hit, up_hit, up_off]
theorem k_45 {j : Nat} (hj : j < 3) : cpTa1 I 45 j = I 18 j := by simp (disch := omega) only [cpTa1, cpTh, cpTr1, cpPt1, h_cp_ne, h_up_ne, cp_hit, up_hit, up_off]
theorem b_18 {j : Nat} (hj : j < 3) : cpTa0 I 18 j = I 45 j := by simp (disch := omega) only [cpTa0, cpTh, cpTr0, cpPt0, h_cp_ne, h_up_ne, cp_hit, up_hit, up_off]
theorem k_46 {j : Nat} (hj : j < 3) : cpTa1 I 46 j = I 19 j := by simp (disch := omega) only [cpTa1, cpTh, cpTr1, cpPt1, h_cp_ne, h_up_ne, cp_hit, up_hit, up_off]
theorem b_19 {j : Nat} (hj : j < 3) : cpTa0 I 19 j = I 46 j := by simp (disch := omega) only [cpTa0, cpTh, cpTr0, cpPt0, h_cp_ne, h_up_ne, cp_hit, up_hit, up_off]
theorem k_48 {j : Nat} (hj : j < 6) : cpTa1 I 48 j = I 21 j := by simp (disch := omega) only [cpTa1, cpTh, cpTr1, cpPt1, h_cp_ne, h_up_ne, cp_hit, up_hit, up_off]
theorem b_21 {j : Nat} (hj : j < 6) : cpTa0 I 21 j = I 48 j := by simp (disch := omega) only [cpTa0, cpTh, cpTr0, cpPt0, h_cp_ne, h_up_ne, cp_hit, up_hit, up_off]
theorem k_49 {j : Nat} (hj : j < 6) : cpTa1 I 49 j = I 22 j := by simp (disch := omega) only [cpTa1, cpTh, cpTr1, cpPt1, h_cp_ne, h_up_ne, cp_hit, up_hit, up_off]
theorem b_22 {j : Nat} (hj : j < 6) : cpTa0 I 22 j = I 49 j := by simp (disch := omega) only [cpTa0, cpTh, cpTr0, cpPt0, h_cp_ne, h_up_ne, cp_hit, up_hit, up_off]
theorem k_50 {j : Nat} (hj : j < 6) : cpTa1 I 50 j = I 23 j := by simp (disch := omega) only [cpTa1, cpTh, cpTr1, cpPt1, h_cp_ne, h_up_ne, cp_hit, up_hit, up_off]
theorem b_23 {j : Nat} (hj : j < 6) : cpTa0 I 23 j = I 50 j := by simp (disch := omega) only [cpTa0, cpTh, cpTr0, cpPt0, h_cp_ne, h_up_ne, cp_hit, up_hit, up_off]
theorem k_52 {j : Nat} (hj : j < 6) : cpTa1 I 52 j = I 25 j := by simp (disch := omega) only [cpTa1, cpTh, cpTr1, cpPt1, h_cp_ne, h_up_ne, cp_hit, up_hit, up_off]
theorem b_25 {j : Nat} (hj : j < 6) : cpTa0 I 25 j = I 52 j := by simp (disch := omega) only [cpTa0, cpTh, cpTr0, cpPt0, h_cp_ne, h_up_ne, cp_hit, up_hit, up_off]
theorem k_53 {j : Nat} (hj : j < 6) : cpTa1 I 53 j = I 26 j := by simp (disch := omega) only [cpTa1, cpTh, cpTr1, cpPt1, h_cp_ne, h_up_ne, cp_hit, up_hit, up_off]
theorem b_26 {j : Nat} (hj : j < 6) : cpTa0 I 26 j = I 53 j := by simp (disch := omega) only [cpTa0, cpTh, cpTr0, cpPt0, h_cp_ne, h_up_ne, cp_hit, up_hit, up_off]
theorem k_54 {j : Nat} (hj : j < 6) : cpTa1 I 54 j = I 27 j := by simp (disch := omega) only [cpTa1, cpTh, cpTr1, cpPt1, h_cp_ne, h_up_ne, cp_hit, up_hit, up_off]
theorem b_27 {j : Nat} (hj : j < 6) : cpTa0 I 27 j = I 54 j := by simp (disch := omega) only [cpTa0, cpTh, cpTr0, cpPt0, h_cp_ne, h_up_ne, cp_hit, up_hit, up_off]
theorem k_r {r p : Nat} (hr : r < 4) (hp : p < 12) : cpTa1 I (31 + r) p = I (4 + r) p := by
  rcases (show r = 0 ∨ r = 1 ∨ r = 2 ∨ r = 3 by omega) with rfl | rfl | rfl | rfl
  · exact k_31 hp
  · exact k_32 hp
  · exact k_33 hp
  · exact k_34 hp
theorem k_t {t j : Nat} (ht : t < 10) (hj : j < 3) : cpTa1 I (37 + t) j = I (10 + t) j := by
  rcases (show t = 0 ∨ t = 1 ∨ t = 2 ∨ t = 3 ∨ t = 4 ∨ t = 5 ∨ t = 6 ∨ t = 7 ∨ t = 8 ∨ t = 9 by omega) with rfl | rfl | rfl | rfl | rfl | rfl | rfl | rfl | rfl | rfl
  · exact k_37 hj
  · exact k_38 hj
  · exact k_39 hj
  · exact k_40 hj
  · exact k_41 hj
  · exact k_42 hj
  · exact k_43 hj
  · exact k_44 hj
  · exact k_45 hj
  · exact k_46 hj
theorem k_m {m : Nat} (hm : m < 2) : cpTa1 I (47 + 4 * m) 0 = I (20 + 4 * m) 0 := by
  rcases (show m = 0 ∨ m = 1 by omega) with rfl | rfl
  · exact k_47_0
  · exact k_51_0
theorem k_q {m q j : Nat} (hm : m < 2) (hq : q < 3) (hj : j < 6) : cpTa1 I (48 + 4 * m + q) j = I (21 + 4 * m + q) j := by
  rcases (show m = 0 ∨ m = 1 by omega) with rfl | rfl <;> rcases (show q = 0 ∨ q = 1 ∨ q = 2 by omega) with rfl | rfl | rfl
  · exact k_48 hj
  · exact k_49 hj
  · exact k_50 hj
  · exact k_52 hj
  · exact k_53 hj
  · exact k_54 hj
theorem b_r {r p : Nat} (hr : r < 4) (hp : p < 12) : cpTa0 I (4 + r) p = I (31 + r) p := by
  rcases (show r = 0 ∨ r = 1 ∨ r = 2 ∨ r = 3 by omega) with rfl | rfl | rfl | rfl
  · exact b_4 hp
  · exact b_5 hp
  · exact b_6 hp
  · exact b_7 hp
theorem b_t {t j : Nat} (ht : t < 10) (hj : j < 3) : cpTa0 I (10 + t) j = I (37 + t) j := by
  rcases (show t = 0 ∨ t = 1 ∨ t = 2 ∨ t = 3 ∨ t = 4 ∨ t = 5 ∨ t = 6 ∨ t = 7 ∨ t = 8 ∨ t = 9 by omega) with rfl | rfl | rfl | rfl | rfl | rfl | rfl | rfl | rfl | rfl
  · exact b_10 hj
  · exact b_11 hj
  · exact b_12 hj
  · exact b_13 hj
  · exact b_14 hj
  · exact b_15 hj
  · exact b_16 hj
  · exact b_17 hj
  · exact b_18 hj
  · exact b_19 hj
theorem b_m {m : Nat} (hm : m < 2) : cpTa0 I (20 + 4 * m) 0 = I (47 + 4 * m) 0 := by
  rcases (show m = 0 ∨ m = 1 by omega) with rfl | rfl
  · exact b_20_0
  · exact b_24_0
theorem b_q {m q j : Nat} (hm : m < 2) (hq : q < 3) (hj : j < 6) : cpTa0 I (21 + 4 * m + q) j = I (48 + 4 * m + q) j := by
  rcases (show m = 0 ∨ m = 1 by omega) with rfl | rfl <;> rcases (show q = 0 ∨ q = 1 ∨ q = 2 by omega) with rfl | rfl | rfl
  · exact b_21 hj
  · exact b_22 hj
  · exact b_23 hj
  · exact b_25 hj
  · exact b_26 hj
  · exact b_27 hj
theorem kk_76 {j : Nat} (h : j ≠ 10) : kpK I 76 j = I 76 j := by simp (disch := omega) only [kpK, h_cp_ne, h_up_ne, up_off]
theorem kk_7610 : kpK I 76 10 = 1 := by simp (disch := omega) only [kpK, h_cp_ne, h_up_ne, up_hit]
theorem kk_83_0 : kpK I 83 0 = I 76 0 := by simp (disch := omega) only [kpK, h_cp_ne, up_hit, up_off]
theorem kk_83_1 : kpK I 83 1 = I 76 4 := by simp (disch := omega) only [kpK, h_cp_ne, up_hit, up_off]
theorem kk_83_2 : kpK I 83 2 = I 81 0 := by simp (disch := omega) only [kpK, h_cp_ne, up_hit, up_off]
theorem kk_83_3 : kpK I 83 3 = I 81 1 := by simp (disch := omega) only [kpK, h_cp_ne, up_hit, up_off]
theorem kk_84 {j : Nat} (h : j < 48) : kpK I 84 j = I 77 j := by simp (disch := omega) only [kpK, h_cp_ne, cp_hit, h_up_ne]
theorem kk_86 {j : Nat} (h : j < 30) : kpK I 86 j = I 80 j := by simp (disch := omega) only [kpK, h_cp_ne, cp_hit, h_up_ne]
theorem kk_87 {j : Nat} (h : j < 36) : kpK I 87 j = I 82 j := by simp (disch := omega) only [kpK, h_cp_ne, cp_hit, h_up_ne]
theorem kk_ne {c : Nat} (h : c ≠ 76) (h2 : c < 83) : kpK I c = I c := by simp (disch := omega) only [kpK, h_cp_ne, h_up_ne]
theorem bk_76 {j : Nat} (h : j ≠ 0) (h4 : j ≠ 4) : bkK I 76 j = I 76 j := by simp (disch := omega) only [bkK, h_cp_ne, h_up_ne, up_off]
theorem bk_760 : bkK I 76 0 = I 83 0 := by simp (disch := omega) only [bkK, h_cp_ne, h_up_ne, up_hit, up_off]
theorem bk_764 : bkK I 76 4 = I 83 1 := by simp (disch := omega) only [bkK, h_cp_ne, h_up_ne, up_hit, up_off]
theorem bk_810 : bkK I 81 0 = I 83 2 := by simp (disch := omega) only [bkK, h_cp_ne, h_up_ne, up_hit, up_off]
theorem bk_811 : bkK I 81 1 = I 83 3 := by simp (disch := omega) only [bkK, h_cp_ne, h_up_ne, up_hit, up_off]
theorem bk_77 {j : Nat} (h : j < 48) : bkK I 77 j = I 84 j := by simp (disch := omega) only [bkK, h_cp_ne, cp_hit, h_up_ne]
theorem bk_80 {j : Nat} (h : j < 30) : bkK I 80 j = I 86 j := by simp (disch := omega) only [bkK, h_cp_ne, cp_hit, h_up_ne]
theorem bk_82 {j : Nat} (h : j < 36) : bkK I 82 j = I 87 j := by simp (disch := omega) only [bkK, h_cp_ne, cp_hit, h_up_ne]
theorem bk_ne {c : Nat} (h : c < 76 ∨ 83 ≤ c) : bkK I c = I c := by simp (disch := omega) only [bkK, h_cp_ne, h_up_ne]
end KP
def ksB (a b : Bool) : Int32 := (if bI a = 0 then 0 else 1) + (if bI b = 0 then 0 else 2)
theorem ks_s (a b : Bool) : (if ksB a b - ksB a b / 2 * 2 = 1 then (1 : Int32) else 0) = bI a := by cases a <;> cases b <;> decide +kernel
theorem ks_i (a b : Bool) : (if ksB a b ≤ 1 then (0 : Int32) else 1) = bI b := by cases a <;> cases b <;> decide +kernel
section OPK
variable {l : Launch} {G : hQ} {I : hI} {J : hJ}
theorem op_keep (h : Rel I) : OpI l G yX7_keep wsX7_keep 3 63 yX8_keep wsX8_keep 1 22 [] I J := by
  obtain ⟨⟨n, sb, ib, nt, ct, hC⟩, hU⟩ := id h
  have h12 := hC.n12
  refine ⟨_, c_X7_keep l G I J, fun ρ I1 J1 hp => ?_⟩
  obtain ⟨e1, e2, e3⟩ := hp
  have i1 : ∀ c, c ≠ 0 → I1 c = cpTa1 I c := fun c hc => by rw [← e2, h_up_ne hc]
  have i0 : ∀ j, j ≠ 4 → I1 0 j = I 0 j := fun j hj => by rw [← e2, up_off hj, k_ne (by omega)]
  have i4 : I1 0 4 = 1 := by rw [← e2, up_hit]
  have i9 : ∀ c, (c ≠ 0 ∧ c < 28) ∨ 76 ≤ c → I1 c = I c := fun c hc => by rw [i1 c (by omega), k_ne (by omega)]
  refine ⟨_, c_X8_keep l G I1 J1, fun ρ' I2 J2 hq => ?_⟩
  obtain ⟨f1, f2, f3, f4⟩ := hq
  refine ⟨e1.symm.trans f1, ?_⟩
  have j1 : ∀ c, c ≠ 76 → c < 83 → I2 c = I1 c := fun c q1 q2 => by rw [f2 c (by omega), kk_ne q1 q2]
  have z76 : ∀ j, j ≠ 10 → I2 76 j = I 76 j := fun j hj => by rw [f2 76 (by omega), kk_76 hj, i9 76 (by omega)]
  have z10 : I2 76 10 = 1 := by rw [f2 76 (by omega), kk_7610]
  have z30 : I2 83 0 = I 76 0 := by rw [f2 83 (by omega), kk_83_0, i9 76 (by omega)]
  have z31 : I2 83 1 = I 76 4 := by rw [f2 83 (by omega), kk_83_1, i9 76 (by omega)]
  have z32 : ∀ m, m < 2 → I2 83 (2 + m) = I 81 m := fun m hm => by
    rcases (show m = 0 ∨ m = 1 by omega) with rfl | rfl
    · rw [f2 83 (by omega)]; exact kk_83_2.trans (by rw [i9 81 (by omega)])
    · rw [f2 83 (by omega)]; exact kk_83_3.trans (by rw [i9 81 (by omega)])
  have z84 : ∀ j, j < 48 → I2 84 j = I 77 j := fun j hj => by rw [f2 84 (by omega), kk_84 hj, i9 77 (by omega)]
  have z86 : ∀ j, j < 30 → I2 86 j = I 80 j := fun j hj => by rw [f2 86 (by omega), kk_86 hj, i9 80 (by omega)]
  have z87 : ∀ j, j < 36 → I2 87 j = I 82 j := fun j hj => by rw [f2 87 (by omega), kk_87 hj, i9 82 (by omega)]
  have z85 : ∀ p, p < n → I2 85 p = ksB (sb.testBit p) (ib.testBit p) := fun p hp => by
    have g := hC.1.2.2.2.2.2.2.2.2 p hp
    rw [f3 p (by omega)]
    unfold ksM ksB
    rw [i9 78 (by omega), i9 79 (by omega), g.1, g.2]
  have j2 : ∀ c, c ≠ 0 → c < 76 → I2 c = cpTa1 I c := fun c q1 q2 => by rw [j1 c (by omega) (by omega), i1 c q1]
  have j3 : I2 0 = I1 0 := j1 0 (by omega) (by omega)
  have hK : KeR I2 n sb ib nt ct := by
    obtain ⟨⟨g1, g2, g3, g4, g5, g6, g7, g8, g9⟩, hT, hH⟩ := hC
    refine ⟨⟨g1, g2, g3, ?_, ?_, ?_, z30.trans g7, fun p hp r hr => ?_, fun p hp => ?_⟩, ?_, ?_⟩
    · rw [j2 29 (by omega) (by omega), k_29_0]; exact g4
    · rw [j2 29 (by omega) (by omega), k_29_2]; exact g5
    · rw [j2 29 (by omega) (by omega), k_29_3]; exact g6
    · show I2 84 (4 * p + r) = I2 (31 + r) p ∧ Bd (I2 (31 + r) p)
      rw [z84 _ (by omega), j2 (31 + r) (by omega) (by omega), k_r hr (by omega)]
      exact g8 p hp r hr
    · unfold bsM biM
      rw [z85 p hp]
      exact ⟨ks_s _ _, ks_i _ _⟩
    · exact hT.c (by rw [j2 35 (by omega) (by omega), k_35_1]) (fun t ht j hj => by show I2 (37 + t) j = I (10 + t) j; rw [j2 (37 + t) (by omega) (by omega), k_t ht hj]) z31 z86
    · exact hH.c (fun m hm => by show I2 (47 + 4 * m) 0 = I (20 + 4 * m) 0; rw [j2 (47 + 4 * m) (by omega) (by omega), k_m hm]) (fun m hm q hq i hi => by show I2 (48 + 4 * m + q) i = I (21 + 4 * m + q) i; rw [j2 (48 + 4 * m + q) (by omega) (by omega), k_q hm hq hi]) z32 z87
  refine ⟨⟨n, sb, ib, nt, ct, hC.fr2 (fun c hc => by rw [j1 c (by omega) (by omega), i9 c (by omega)]) (z76 0 (by omega)) (z76 4 (by omega))⟩, ?_, ?_, ?_, ?_, ?_, fun _ => ⟨_, _, _, _, _, hK⟩⟩
  · rw [j3, i0 5 (by omega), z76 8 (by omega)]; exact hU.1
  · rw [j3, i0 6 (by omega), z76 9 (by omega)]; exact hU.2.1
  · rw [z76 9 (by omega)]; exact hU.2.2.1
  · rw [z76 9 (by omega)]; exact hU.2.2.2.1
  · rw [j3, i4, z10]
theorem op_back (h : Rel I) : OpI l G yX7_back wsX7_back 3 63 yX8_back wsX8_back 1 22 [] I J := by
  obtain ⟨⟨n, sb, ib, nt, ct, hC⟩, hU⟩ := id h
  refine ⟨_, c_X7_back l G I J, fun ρ I1 J1 hp => ?_⟩
  obtain ⟨e1, e2, e3⟩ := hp
  refine ⟨_, c_X8_back l G I1 J1, fun ρ' I2 J2 hq => ?_⟩
  obtain ⟨f1, f2, f3, f4, f5⟩ := hq
  have i9 : ∀ c, c = 0 ∨ 28 ≤ c → I1 c = I c := fun c hc => by
    rw [← e2]
    by_cases w : I 0 4 = 0
    · rw [if_pos w]
    · rw [if_neg w, b_ne hc]
  have hk := hU.2.2.2.2.1
  rw [i9 76 (by omega), ← hk] at f1 f2 f3 f4
  refine ⟨e1.symm.trans f1, ?_⟩
  by_cases w : I 0 4 = 0
  · rw [if_pos w] at e2
    simp only [if_pos w] at f2 f3 f4
    subst e2
    obtain ⟨h1, h2, h3⟩ := hC
    have z : ∀ c, c ≠ 78 → c ≠ 79 → I2 c = I c := fun c q1 q2 => f2 c q1 q2
    refine ⟨⟨n, sb, ib, nt, ct, h1.c (by rw [z 2 (by omega) (by omega)]) (fun r hr p _ => by show I2 (4 + r) p = I (4 + r) p; rw [z (4 + r) (by omega) (by omega)]) (by rw [z 2 (by omega) (by omega)]) (by rw [z 2 (by omega) (by omega)]) (by rw [z 76 (by omega) (by omega)]) (fun j _ => by rw [z 77 (by omega) (by omega)]) f3 f4, h2.c (by rw [z 8 (by omega) (by omega)]) (fun t ht j _ => by show I2 (10 + t) j = I (10 + t) j; rw [z (10 + t) (by omega) (by omega)]) (by rw [z 76 (by omega) (by omega)]) (fun j _ => by rw [z 80 (by omega) (by omega)]), h3.c (fun m hm => by show I2 (20 + 4 * m) 0 = I (20 + 4 * m) 0; rw [z (20 + 4 * m) (by omega) (by omega)]) (fun m hm q hq i _ => by show I2 (21 + 4 * m + q) i = I (21 + 4 * m + q) i; rw [z (21 + 4 * m + q) (by omega) (by omega)]) (fun m hm => by rw [z 81 (by omega) (by omega)]) (fun j _ => by rw [z 82 (by omega) (by omega)])⟩, ?_⟩
    exact hU.fr (z 0 (by omega) (by omega)) (by rw [z 76 (by omega) (by omega)]) (by rw [z 76 (by omega) (by omega)]) (by rw [z 76 (by omega) (by omega)]) (fun c hc => z c (by omega) (by omega))
  · rw [if_neg w] at e2
    simp only [if_neg w] at f2 f3 f4
    obtain ⟨n, sb, ib, nt, ct, hK⟩ := hU.2.2.2.2.2 w
    have j1 : ∀ c, c < 76 → I2 c = cpTa0 I c := fun c q1 => by rw [f2 c (by omega) (by omega), bk_ne (by omega), e2]
    have z76 : ∀ j, j ≠ 0 → j ≠ 4 → I2 76 j = I 76 j := fun j q1 q2 => by rw [f2 76 (by omega) (by omega), bk_76 q1 q2, i9 76 (by omega)]
    have z0 : I2 76 0 = I 83 0 := by rw [f2 76 (by omega) (by omega), bk_760, i9 83 (by omega)]
    have z4 : I2 76 4 = I 83 1 := by rw [f2 76 (by omega) (by omega), bk_764, i9 83 (by omega)]
    have z81 : ∀ m, m < 2 → I2 81 m = I 83 (2 + m) := fun m hm => by
      rcases (show m = 0 ∨ m = 1 by omega) with rfl | rfl
      · rw [f2 81 (by omega) (by omega), bk_810, i9 83 (by omega)]
      · rw [f2 81 (by omega) (by omega), bk_811, i9 83 (by omega)]
    have z77 : ∀ j, j < 48 → I2 77 j = I 84 j := fun j hj => by rw [f2 77 (by omega) (by omega), bk_77 hj, i9 84 (by omega)]
    have z80 : ∀ j, j < 30 → I2 80 j = I 86 j := fun j hj => by rw [f2 80 (by omega) (by omega), bk_80 hj, i9 86 (by omega)]
    have z82 : ∀ j, j < 36 → I2 82 j = I 87 j := fun j hj => by rw [f2 82 (by omega) (by omega), bk_82 hj, i9 87 (by omega)]
    have z78 : ∀ p, p < 12 → I2 78 p = bsM I p := fun p hp => by rw [f3 p hp]; unfold bsM; rw [i9 85 (by omega)]
    have z79 : ∀ p, p < 12 → I2 79 p = biM I p := fun p hp => by rw [f4 p hp]; unfold biM; rw [i9 85 (by omega)]
    obtain ⟨hP, hT, hH⟩ := hK
    refine ⟨⟨n, sb, ib, nt, ct, ?_, ?_, ?_⟩, ?_⟩
    · exact hP.c (by rw [j1 2 (by omega), b_2_0]) (fun r hr p hp => by show I2 (4 + r) p = I (31 + r) p; rw [j1 (4 + r) (by omega), b_r hr hp]) (by rw [j1 2 (by omega), b_2_2]) (by rw [j1 2 (by omega), b_2_3]) z0 z77 z78 z79
    · exact hT.c (by rw [j1 8 (by omega), b_8_1]) (fun t ht j hj => by show I2 (10 + t) j = I (37 + t) j; rw [j1 (10 + t) (by omega), b_t ht hj]) z4 z80
    · exact hH.c (fun m hm => by show I2 (20 + 4 * m) 0 = I (47 + 4 * m) 0; rw [j1 (20 + 4 * m) (by omega), b_m hm]) (fun m hm q hq i hi => by show I2 (21 + 4 * m + q) i = I (48 + 4 * m + q) i; rw [j1 (21 + 4 * m + q) (by omega), b_q hm hq hi]) z81 z82
    · exact hU.fr (by rw [j1 0 (by omega), b_ne (by omega)]) (z76 8 (by omega) (by omega)) (z76 9 (by omega) (by omega)) (z76 10 (by omega) (by omega)) (fun c hc => by
        rcases hc with q | q
        · rw [j1 c (by omega), b_ne (by omega)]
        · rw [f2 c (by omega) (by omega), bk_ne (by omega), i9 c (by omega)])
end OPK
