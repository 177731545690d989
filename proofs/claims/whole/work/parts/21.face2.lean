/-! OldMap's face: things, many, kept, rule of bends -/
theorem sh_way : ∀ r, r < 2 → h_sh (56 + r) = .inl (6, [1, 1, 1, 1]) := by decide +kernel
theorem sh_th : ∀ r, r < 2 → h_sh (20 + 4 * r) = .inl (4, [0, 2, 2, 2]) := by decide +kernel
theorem two_b {b : Int64} (h : ¬ b ≤ 0) : ¬ 2 * b = 0 := by
  intro e
  have e2 : (2 * b).toInt = 0 := by rw [e]; rfl
  have hb : 0 < b.toInt := by
    have := Int64.not_le.mp h
    simpa [Int64.lt_iff_toInt_lt] using this
  have hb2 := b.toInt_lt
  rw [Int64.toInt_mul] at e2
  have h2 : (2 : Int64).toInt = 2 := rfl
  rw [h2] at e2
  have e3 := Int.emod_eq_zero_of_dvd (Int.dvd_of_bmod_eq_zero e2)
  omega
theorem c_X3_thingsOf (l : Launch) (G : hQ) (I : hI) (J : hJ) (m : Nat) (hm : m < 2) : h_Mr l yX3_thingsOf wsX3_thingsOf 0 0 G [rr G 1, .int (nI m)] I J (fun ρ I' J' => 20 + 4 * m = ρ ∧ I = I' ∧ J = J') := by
  rcases (show m = 0 ∨ m = 1 by omega) with rfl | rfl
  · exact c_X3_thingsOf0 l G I J
  · exact c_X3_thingsOf1 l G I J
theorem c_X4_addS (l : Launch) (G : hQ) (I : hI) (J : hJ) (m n : Nat) (kd x y : Int32) (hm : m < 2) (hn : I (20 + 4 * m) 0 = nI n) (h6 : n ≤ 6) : h_Mi l yX4_add wsX4_add 0 0 G [rr G (20 + 4 * m), .int kd, .int x, .int y] I J (fun ρ I' J' => (if n < 6 then nI n else -2) = ρ ∧ (if n < 6 then addTh I (20 + 4 * m) n kd x y else I) = I' ∧ J = J') := by
  rcases (show m = 0 ∨ m = 1 by omega) with rfl | rfl
  · exact c_X4_add20 l G I J n kd x y hn h6
  · exact c_X4_add24 l G I J n kd x y hn h6
set_option maxHeartbeats 1000000 in
set_option maxRecDepth 100000 in
theorem c_X7_thing (l : Launch) (G : hQ) (I : hI) (J : hJ) (m kd x y : Int32) (ct : Nat → Nat) (hct : ∀ m, m < 2 → I (20 + 4 * m) 0 = nI (ct m)) (h6 : ∀ m, m < 2 → ct m ≤ 6) : h_Mi l yX7_thing wsX7_thing 1 24 G [rr G 0, .int m, .int kd, .int x, .int y] I J (fun ρ I' J' => (if isMp m ∧ ¬ kd < 0 ∧ ¬ 6 ≤ kd ∧ Pl x y then (if ct (tn m) < 6 then nI (ct (tn m)) else -2) else -1) = ρ ∧ (if isMp m ∧ ¬ kd < 0 ∧ ¬ 6 ≤ kd ∧ Pl x y then (if ct (tn m) < 6 then addTh I (20 + 4 * tn m) (ct (tn m)) kd x y else I) else I) = I' ∧ J = J') := by
  refine h_Mi.of (ty := .int) (cc := cX7_thing) (maxL := 5) [(0, rr G 0), (1, .int m), (2, .int kd), (3, .int x), (4, .int y)] (by decide +kernel) rfl (Nat.le_of_ble_eq_true rfl) rfl ?_
  intro Γ K ret
  have i_X7 : ∀ w ∈ u_ws RX7 TX7 7, w ∈ wsX7_thing := by decide +kernel
  refine x_iload_n (pc := 0) K 1 dX7_thing_0 rfl rfl ?_
  refine x_calliS (pc := 1) (st := []) (n := 1) K (c_X7_isMap l G _ _ _) gX7_thing_X7_isMap (by decide +kernel) rfl (by decide) (by decide) rfl rfl (Nat.le_of_ble_eq_true rfl) dX7_thing_1 (fun r_1 I_1 J_1 hp_1 => ?_)
  obtain ⟨rfl, rfl, rfl⟩ := hp_1
  refine x_if_eq (pc := 4) (tgt := 26) K dX7_thing_4 (by decide) (fun c_4 => ?_) (fun c_4 => ?_)
  · replace c_4 := bz_0.mp c_4
    refine x_iconst (pc := 26) (v := -1) K dX7_thing_26 (by decide) ?_
    exact ret (pc := 27) dX7_thing_27 (⟨if_neg (fun h => c_4 h.1), if_neg (fun h => c_4 h.1), rfl⟩) rfl
  · replace c_4 := bz_n0.mp c_4
    obtain ⟨mp, hmp, rfl⟩ := mp_of c_4
    refine x_iload_n (pc := 7) K 2 dX7_thing_7 rfl rfl ?_
    refine x_if_lt (pc := 8) (tgt := 26) K dX7_thing_8 (by decide) (fun c_8 => ?_) (fun c_8 => ?_)
    · refine x_iconst (pc := 26) (v := -1) K dX7_thing_26 (by decide) ?_
      exact ret (pc := 27) dX7_thing_27 (⟨if_neg (fun h => h.2.1 c_8), if_neg (fun h => h.2.1 c_8), rfl⟩) rfl
    · refine x_iload_n (pc := 11) K 2 dX7_thing_11 rfl rfl ?_
      refine x_bipush (pc := 12) (v := 6) K dX7_thing_12 (by decide) ?_
      refine x_icmp_ge (pc := 14) (tgt := 26) K dX7_thing_14 (by decide) (fun c_14 => ?_) (fun c_14 => ?_)
      · refine x_iconst (pc := 26) (v := -1) K dX7_thing_26 (by decide) ?_
        exact ret (pc := 27) dX7_thing_27 (⟨if_neg (fun h => h.2.2.1 c_14), if_neg (fun h => h.2.2.1 c_14), rfl⟩) rfl
      · refine x_iload_n (pc := 17) K 3 dX7_thing_17 rfl rfl ?_
        refine x_iload (pc := 18) K 4 dX7_thing_18 rfl ?_
        refine x_calliS (pc := 20) (st := []) (n := 2) K (c_X7_isPlace l G _ _ _ _) gX7_thing_X7_isPlace (by decide +kernel) rfl (by decide) (by decide) rfl rfl (Nat.le_of_ble_eq_true rfl) dX7_thing_20 (fun r_20 I_20 J_20 hp_20 => ?_)
        obtain ⟨rfl, rfl, rfl⟩ := hp_20
        refine x_if_ne (pc := 23) (tgt := 28) K dX7_thing_23 (by decide) (fun c_23 => ?_) (fun c_23 => ?_)
        · replace c_23 := bz_n0.mp c_23
          refine x_aload_n (pc := 28) K 0 dX7_thing_28 rfl rfl ?_
          refine x_getr (r0 := 1) (pc := 29) (index := 10) (C := RX7) (T := TX7) (N := 7) (j0 := 0) (ref := "OldMap") K (by decide) sh_0 rfl i_X7 (by decide) (by decide +kernel) rfl rfl rf_0_0 dX7_thing_29 ?_
          refine x_iload_n (pc := 32) K 1 dX7_thing_32 rfl rfl ?_
          refine x_callrN (pc := 33) (st := []) (n := 1) K (by decide) sh_1 rfl (c_X3_thingsOf l G _ _ mp (by omega)) (host := "OldMap") gX7_thing_X3_thingsOf_n198 (by decide +kernel) (by decide +kernel) (by decide +kernel) (by decide +kernel) (by decide +kernel) rfl (by decide) (by decide) rfl rfl (Nat.le_of_ble_eq_true rfl) dX7_thing_33 (fun r_33 I_33 J_33 hp_33 => ?_)
          obtain ⟨rfl, rfl, rfl⟩ := hp_33
          refine x_iload_n (pc := 36) K 2 dX7_thing_36 rfl rfl ?_
          refine x_iload_n (pc := 37) K 3 dX7_thing_37 rfl rfl ?_
          refine x_iload (pc := 38) K 4 dX7_thing_38 rfl ?_
          refine x_calliN (pc := 40) (st := []) (n := 3) K (show 20 + 4 * mp < 91 by omega) (sh_th mp (by omega)) rfl (c_X4_addS l G _ _ mp (ct mp) _ _ _ (by omega) (hct mp (by omega)) (h6 mp (by omega))) (host := "OldMap") gX7_thing_X4_add_n202 (by decide +kernel) (by decide +kernel) (by decide +kernel) (by decide +kernel) (by decide +kernel) rfl (by decide) (by decide) rfl rfl (Nat.le_of_ble_eq_true rfl) dX7_thing_40 (fun r_40 I_40 J_40 hp_40 => ?_)
          obtain ⟨rfl, rfl, rfl⟩ := hp_40
          exact ret (pc := 43) dX7_thing_43 (⟨by rw [if_pos ⟨c_4, c_8, c_14, c_23⟩, tn_n (by omega)], by rw [if_pos ⟨c_4, c_8, c_14, c_23⟩, tn_n (by omega)], rfl⟩) rfl
        · replace c_23 := bz_0.mp c_23
          refine x_iconst (pc := 26) (v := -1) K dX7_thing_26 (by decide) ?_
          exact ret (pc := 27) dX7_thing_27 (⟨if_neg (fun h => c_23 h.2.2.2), if_neg (fun h => c_23 h.2.2.2), rfl⟩) rfl

set_option maxHeartbeats 1000000 in
set_option maxRecDepth 100000 in
theorem c_X7_sweep (l : Launch) (G : hQ) (I : hI) (J : hJ) (m : Int32) : h_Mi l yX7_sweep wsX7_sweep 1 21 G [rr G 0, .int m] I J (fun ρ I' J' => (if isMp m then I (20 + 4 * tn m) 0 else -1) = ρ ∧ (if isMp m then h_up I (20 + 4 * tn m) 0 0 else I) = I' ∧ J = J') := by
  refine h_Mi.of (ty := .int) (cc := cX7_sweep) (maxL := 4) [(0, rr G 0), (1, .int m)] (by decide +kernel) rfl (Nat.le_of_ble_eq_true rfl) rfl ?_
  intro Γ K ret
  have i_X7 : ∀ w ∈ u_ws RX7 TX7 7, w ∈ wsX7_sweep := by decide +kernel
  have i_X4 : ∀ w ∈ u_ws RX4 TX4 4, w ∈ wsX7_sweep := by decide +kernel
  refine x_iload_n (pc := 0) K 1 dX7_sweep_0 rfl rfl ?_
  refine x_calliS (pc := 1) (st := []) (n := 1) K (c_X7_isMap l G _ _ _) gX7_sweep_X7_isMap (by decide +kernel) rfl (by decide) (by decide) rfl rfl (Nat.le_of_ble_eq_true rfl) dX7_sweep_1 (fun r_1 I_1 J_1 hp_1 => ?_)
  obtain ⟨rfl, rfl, rfl⟩ := hp_1
  refine x_if_ne (pc := 4) (tgt := 9) K dX7_sweep_4 (by decide) (fun c_4 => ?_) (fun c_4 => ?_)
  · replace c_4 := bz_n0.mp c_4
    obtain ⟨mp, hmp, rfl⟩ := mp_of c_4
    refine x_aload_n (pc := 9) K 0 dX7_sweep_9 rfl rfl ?_
    refine x_getr (r0 := 1) (pc := 10) (index := 10) (C := RX7) (T := TX7) (N := 7) (j0 := 0) (ref := "OldMap") K (by decide) sh_0 rfl i_X7 (by decide) (by decide +kernel) rfl rfl rf_0_0 dX7_sweep_10 ?_
    refine x_iload_n (pc := 13) K 1 dX7_sweep_13 rfl rfl ?_
    refine x_callrN (pc := 14) (st := []) (n := 1) K (by decide) sh_1 rfl (c_X3_thingsOf l G _ _ mp (by omega)) (host := "OldMap") gX7_sweep_X3_thingsOf_n198 (by decide +kernel) (by decide +kernel) (by decide +kernel) (by decide +kernel) (by decide +kernel) rfl (by decide) (by decide) rfl rfl (Nat.le_of_ble_eq_true rfl) dX7_sweep_14 (fun r_14 I_14 J_14 hp_14 => ?_)
    obtain ⟨rfl, rfl, rfl⟩ := hp_14
    refine x_astore_n (pc := 17) (lo' := [(2, _), (0, _), (1, _)]) K dX7_sweep_17 rfl (by decide) rfl ?_
    refine x_aload_n (pc := 18) K 0 dX7_sweep_18 rfl rfl ?_
    refine x_getiN (pc := 19) (index := 205) (C := RX4) (T := TX4) (N := 4) (j0 := 0) (host := "OldMap") (ref := "OldMap$Things") K (show 20 + 4 * mp < 91 by omega) (sh_th mp (by omega)) rfl i_X4 (by decide) (by decide +kernel) rfl rfl dX7_sweep_19 ?_
    refine x_istore_n (pc := 22) (lo' := [(3, _), (2, _), (0, _), (1, _)]) K dX7_sweep_22 rfl (by decide) rfl ?_
    refine x_aload_n (pc := 23) K 1 dX7_sweep_23 rfl rfl ?_
    refine x_iconst (pc := 24) (v := 0) K dX7_sweep_24 (by decide) ?_
    refine x_putiN (ty := .int) (pc := 25) (index := 205) (C := RX4) (T := TX4) (N := 4) (j0 := 0) (host := "OldMap") (ref := "OldMap$Things") K (show 20 + 4 * mp < 91 by omega) (sh_th mp (by omega)) rfl i_X4 (by decide) (by decide +kernel) rfl tyX4 tyX4_ok nmX4 rfl (by decide +kernel) rfl rfl rfl dX7_sweep_25 ?_
    refine x_iload_n (pc := 28) K 0 dX7_sweep_28 rfl rfl ?_
    exact ret (pc := 29) dX7_sweep_29 (⟨by rw [if_pos c_4, tn_n (by omega)], by rw [if_pos c_4, tn_n (by omega)], rfl⟩) rfl
  · replace c_4 := bz_0.mp c_4
    refine x_iconst (pc := 7) (v := -1) K dX7_sweep_7 (by decide) ?_
    exact ret (pc := 8) dX7_sweep_8 (⟨if_neg c_4, if_neg c_4, rfl⟩) rfl

def C_many (I : hI) (nt : Nat) (w : Int32) : Int32 := if w = 0 then I 2 0 else if w = 1 then pop (I 2 2 &&& I 2 3) else if w = 2 then I 8 1 else if w = 3 then sumI (fun t => if ov I t then 1 else 0) nt else if w = 4 then sumI (fun t => if fl I t then 1 else 0) nt else if w = 5 then I 20 0 else if w = 6 then I 24 0 else if w = 7 then sumI (fun t => sumI (fun d => if ¬ fl I t ∧ ¬ fl I (t + 1 + d) ∧ ovl I t (t + 1 + d) 0 then 1 else 0) (nt - (t + 1))) nt else if w = 8 then sumI (fun t => sumI (fun d => if ¬ fl I t ∧ ¬ fl I (t + 1 + d) ∧ ovl I t (t + 1 + d) 1 then 1 else 0) (nt - (t + 1))) nt else -1
set_option maxHeartbeats 1000000 in
set_option maxRecDepth 100000 in
theorem c_X7_many (l : Launch) (G : hQ) (I : hI) (J : hJ) (w : Int32) (nt : Nat) (ht : I 8 1 = nI nt) (h10 : nt ≤ 10) (hA : ∀ t, t < nt → TOk I t) : h_Mi l yX7_many wsX7_many 6 160 G [rr G 0, .int w] I J (fun ρ I' J' => C_many I nt w = ρ ∧ I = I' ∧ J = J') := by
  refine h_Mi.of (ty := .int) (cc := cX7_many) (maxL := 3) [(0, rr G 0), (1, .int w)] (by decide +kernel) rfl (Nat.le_of_ble_eq_true rfl) rfl ?_
  intro Γ K ret
  have i_X7 : ∀ w ∈ u_ws RX7 TX7 7, w ∈ wsX7_many := by decide +kernel
  have i_X3 : ∀ w ∈ u_ws RX3 TX3 4, w ∈ wsX7_many := by decide +kernel
  have i_X2 : ∀ w ∈ u_ws RX2 TX2 4, w ∈ wsX7_many := by decide +kernel
  have i_X5 : ∀ w ∈ u_ws RX5 TX5 3, w ∈ wsX7_many := by decide +kernel
  have i_X4 : ∀ w ∈ u_ws RX4 TX4 4, w ∈ wsX7_many := by decide +kernel
  refine x_aload_n (pc := 0) K 0 dX7_many_0 rfl rfl ?_
  refine x_getr (r0 := 1) (pc := 1) (index := 10) (C := RX7) (T := TX7) (N := 7) (j0 := 0) (ref := "OldMap") K (by decide) sh_0 rfl i_X7 (by decide) (by decide +kernel) rfl rfl rf_0_0 dX7_many_1 ?_
  refine x_getrN (r0 := 8) (pc := 4) (index := 163) (C := RX3) (T := TX3) (N := 4) (j0 := 1) (host := "OldMap") (ref := "OldMap$Table") K (by decide) sh_1 rfl i_X3 (by decide) (by decide +kernel) rfl rfl rf_1_1 dX7_many_4 ?_
  refine x_astore_n (pc := 7) (lo' := [(2, _), (0, _), (1, _)]) K dX7_many_7 rfl (by decide) rfl ?_
  refine x_iload_n (pc := 8) K 2 dX7_many_8 rfl rfl ?_
  by_cases hsw : w.toInt < 0 ∨ 8 < w.toInt
  · refine x_tableOut (pc := 9) (tgt := 134) K dX7_many_9 hsw (by decide) ?_
    refine x_iconst (pc := 134) (v := -1) K dX7_many_134 (by decide) ?_
    exact ret (pc := 135) dX7_many_135 (⟨by unfold C_many; repeat (rw [if_neg (by rintro rfl; revert hsw; decide)]), rfl, rfl⟩) rfl
  · have hsw2 : w = 0 ∨ w = 1 ∨ w = 2 ∨ w = 3 ∨ w = 4 ∨ w = 5 ∨ w = 6 ∨ w = 7 ∨ w = 8 := by
      have h1 : w.toInt = (w).toInt ∨ True := Or.inr trivial
      simp only [← Int32.toInt_inj]
      simp
      omega
    rcases hsw2 with rfl | rfl | rfl | rfl | rfl | rfl | rfl | rfl | rfl
    · refine x_tableIn (pc := 9) (tgt := 60) (off := 51) K dX7_many_9 (by decide) (by decide) (by decide) (by decide) ?_
      refine x_aload_n (pc := 60) K 1 dX7_many_60 rfl rfl ?_
      refine x_getr (r0 := 1) (pc := 61) (index := 10) (C := RX7) (T := TX7) (N := 7) (j0 := 0) (ref := "OldMap") K (by decide) sh_0 rfl i_X7 (by decide) (by decide +kernel) rfl rfl rf_0_0 dX7_many_61 ?_
      refine x_getrN (r0 := 2) (pc := 64) (index := 21) (C := RX3) (T := TX3) (N := 4) (j0 := 0) (host := "OldMap") (ref := "OldMap$Table") K (by decide) sh_1 rfl i_X3 (by decide) (by decide +kernel) rfl rfl rf_1_0 dX7_many_64 ?_
      refine x_getiN (pc := 67) (index := 224) (C := RX2) (T := TX2) (N := 4) (j0 := 0) (host := "OldMap") (ref := "OldMap$Points") K (by decide) sh_2 rfl i_X2 (by decide) (by decide +kernel) rfl rfl dX7_many_67 ?_
      exact ret (pc := 70) dX7_many_70 (⟨by simp [C_many], rfl, rfl⟩) rfl
    · refine x_tableIn (pc := 9) (tgt := 71) (off := 62) K dX7_many_9 (by decide) (by decide) (by decide) (by decide) ?_
      refine x_aload_n (pc := 71) K 1 dX7_many_71 rfl rfl ?_
      refine x_getr (r0 := 1) (pc := 72) (index := 10) (C := RX7) (T := TX7) (N := 7) (j0 := 0) (ref := "OldMap") K (by decide) sh_0 rfl i_X7 (by decide) (by decide +kernel) rfl rfl rf_0_0 dX7_many_72 ?_
      refine x_getrN (r0 := 2) (pc := 75) (index := 21) (C := RX3) (T := TX3) (N := 4) (j0 := 0) (host := "OldMap") (ref := "OldMap$Table") K (by decide) sh_1 rfl i_X3 (by decide) (by decide +kernel) rfl rfl rf_1_0 dX7_many_75 ?_
      refine x_calliN (pc := 78) (st := []) (n := 0) K (by decide) sh_2 rfl (c_X2_counting l G _ _ ) (host := "OldMap") gX7_many_X2_counting_n225 (by decide +kernel) (by decide +kernel) (by decide +kernel) (by decide +kernel) (by decide +kernel) rfl (by decide) (by decide) rfl rfl (Nat.le_of_ble_eq_true rfl) dX7_many_78 (fun r_78 I_78 J_78 hp_78 => ?_)
      obtain ⟨rfl, rfl, rfl⟩ := hp_78
      refine x_calliS (pc := 81) (st := []) (n := 1) K (c_J6_bitCount_0f7a4 l G _ _ _) gX7_many_J6_bitCount_0f7a4 (by decide +kernel) rfl (by decide) (by decide) rfl rfl (Nat.le_of_ble_eq_true rfl) dX7_many_81 (fun r_81 I_81 J_81 hp_81 => ?_)
      obtain ⟨rfl, rfl, rfl⟩ := hp_81
      exact ret (pc := 84) dX7_many_84 (⟨by simp [C_many], rfl, rfl⟩) rfl
    · refine x_tableIn (pc := 9) (tgt := 85) (off := 76) K dX7_many_9 (by decide) (by decide) (by decide) (by decide) ?_
      refine x_aload_n (pc := 85) K 0 dX7_many_85 rfl rfl ?_
      refine x_getiN (pc := 86) (index := 228) (C := RX5) (T := TX5) (N := 3) (j0 := 1) (host := "OldMap") (ref := "OldMap$Triangles") K (by decide) sh_8 rfl i_X5 (by decide) (by decide +kernel) rfl rfl dX7_many_86 ?_
      exact ret (pc := 89) dX7_many_89 (⟨by simp [C_many], rfl, rfl⟩) rfl
    · refine x_tableIn (pc := 9) (tgt := 90) (off := 81) K dX7_many_9 (by decide) (by decide) (by decide) (by decide) ?_
      refine x_aload_n (pc := 90) K 0 dX7_many_90 rfl rfl ?_
      refine x_calliN (pc := 91) (st := []) (n := 0) K (by decide) sh_8 rfl (c_X5_manyOver l G _ _ nt ht h10 hA) (host := "OldMap") gX7_many_X5_manyOver_n229 (by decide +kernel) (by decide +kernel) (by decide +kernel) (by decide +kernel) (by decide +kernel) rfl (by decide) (by decide) rfl rfl (Nat.le_of_ble_eq_true rfl) dX7_many_91 (fun r_91 I_91 J_91 hp_91 => ?_)
      obtain ⟨rfl, rfl, rfl⟩ := hp_91
      exact ret (pc := 94) dX7_many_94 (⟨by simp [C_many], rfl, rfl⟩) rfl
    · refine x_tableIn (pc := 9) (tgt := 95) (off := 86) K dX7_many_9 (by decide) (by decide) (by decide) (by decide) ?_
      refine x_aload_n (pc := 95) K 0 dX7_many_95 rfl rfl ?_
      refine x_calliN (pc := 96) (st := []) (n := 0) K (by decide) sh_8 rfl (c_X5_manyFlat l G _ _ nt ht h10 hA) (host := "OldMap") gX7_many_X5_manyFlat_n232 (by decide +kernel) (by decide +kernel) (by decide +kernel) (by decide +kernel) (by decide +kernel) rfl (by decide) (by decide) rfl rfl (Nat.le_of_ble_eq_true rfl) dX7_many_96 (fun r_96 I_96 J_96 hp_96 => ?_)
      obtain ⟨rfl, rfl, rfl⟩ := hp_96
      exact ret (pc := 99) dX7_many_99 (⟨by simp [C_many], rfl, rfl⟩) rfl
    · refine x_tableIn (pc := 9) (tgt := 100) (off := 91) K dX7_many_9 (by decide) (by decide) (by decide) (by decide) ?_
      refine x_aload_n (pc := 100) K 1 dX7_many_100 rfl rfl ?_
      refine x_getr (r0 := 1) (pc := 101) (index := 10) (C := RX7) (T := TX7) (N := 7) (j0 := 0) (ref := "OldMap") K (by decide) sh_0 rfl i_X7 (by decide) (by decide +kernel) rfl rfl rf_0_0 dX7_many_101 ?_
      refine x_getrN (r0 := 20) (pc := 104) (index := 34) (C := RX3) (T := TX3) (N := 4) (j0 := 2) (host := "OldMap") (ref := "OldMap$Table") K (by decide) sh_1 rfl i_X3 (by decide) (by decide +kernel) rfl rfl rf_1_2 dX7_many_104 ?_
      refine x_getiN (pc := 107) (index := 205) (C := RX4) (T := TX4) (N := 4) (j0 := 0) (host := "OldMap") (ref := "OldMap$Things") K (by decide) sh_20 rfl i_X4 (by decide) (by decide +kernel) rfl rfl dX7_many_107 ?_
      exact ret (pc := 110) dX7_many_110 (⟨by simp [C_many], rfl, rfl⟩) rfl
    · refine x_tableIn (pc := 9) (tgt := 111) (off := 102) K dX7_many_9 (by decide) (by decide) (by decide) (by decide) ?_
      refine x_aload_n (pc := 111) K 1 dX7_many_111 rfl rfl ?_
      refine x_getr (r0 := 1) (pc := 112) (index := 10) (C := RX7) (T := TX7) (N := 7) (j0 := 0) (ref := "OldMap") K (by decide) sh_0 rfl i_X7 (by decide) (by decide +kernel) rfl rfl rf_0_0 dX7_many_112 ?_
      refine x_getrN (r0 := 24) (pc := 115) (index := 38) (C := RX3) (T := TX3) (N := 4) (j0 := 3) (host := "OldMap") (ref := "OldMap$Table") K (by decide) sh_1 rfl i_X3 (by decide) (by decide +kernel) rfl rfl rf_1_3 dX7_many_115 ?_
      refine x_getiN (pc := 118) (index := 205) (C := RX4) (T := TX4) (N := 4) (j0 := 0) (host := "OldMap") (ref := "OldMap$Things") K (by decide) sh_24 rfl i_X4 (by decide) (by decide +kernel) rfl rfl dX7_many_118 ?_
      exact ret (pc := 121) dX7_many_121 (⟨by simp [C_many], rfl, rfl⟩) rfl
    · refine x_tableIn (pc := 9) (tgt := 122) (off := 113) K dX7_many_9 (by decide) (by decide) (by decide) (by decide) ?_
      refine x_aload_n (pc := 122) K 0 dX7_many_122 rfl rfl ?_
      refine x_iconst (pc := 123) (v := 0) K dX7_many_123 (by decide) ?_
      refine x_calliN (pc := 124) (st := []) (n := 1) K (by decide) sh_8 rfl (c_X5_manyOverlaps l G _ _ 0 (by omega) nt ht h10 hA) (host := "OldMap") gX7_many_X5_manyOverlaps_n235 (by decide +kernel) (by decide +kernel) (by decide +kernel) (by decide +kernel) (by decide +kernel) rfl (by decide) (by decide) rfl rfl (Nat.le_of_ble_eq_true rfl) dX7_many_124 (fun r_124 I_124 J_124 hp_124 => ?_)
      obtain ⟨rfl, rfl, rfl⟩ := hp_124
      exact ret (pc := 127) dX7_many_127 (⟨by simp [C_many], rfl, rfl⟩) rfl
    · refine x_tableIn (pc := 9) (tgt := 128) (off := 119) K dX7_many_9 (by decide) (by decide) (by decide) (by decide) ?_
      refine x_aload_n (pc := 128) K 0 dX7_many_128 rfl rfl ?_
      refine x_iconst (pc := 129) (v := 1) K dX7_many_129 (by decide) ?_
      refine x_calliN (pc := 130) (st := []) (n := 1) K (by decide) sh_8 rfl (c_X5_manyOverlaps l G _ _ 1 (by omega) nt ht h10 hA) (host := "OldMap") gX7_many_X5_manyOverlaps_n235 (by decide +kernel) (by decide +kernel) (by decide +kernel) (by decide +kernel) (by decide +kernel) rfl (by decide) (by decide) rfl rfl (Nat.le_of_ble_eq_true rfl) dX7_many_130 (fun r_130 I_130 J_130 hp_130 => ?_)
      obtain ⟨rfl, rfl, rfl⟩ := hp_130
      exact ret (pc := 133) dX7_many_133 (⟨by simp [C_many], rfl, rfl⟩) rfl

set_option maxHeartbeats 1000000 in
set_option maxRecDepth 100000 in
theorem c_X7_keep (l : Launch) (G : hQ) (I : hI) (J : hJ) : h_Mi l yX7_keep wsX7_keep 3 63 G [rr G 0] I J (fun ρ I' J' => 1 = ρ ∧ h_up (cpTa1 I) 0 4 1 = I' ∧ J = J') := by
  refine h_Mi.of (ty := .int) (cc := cX7_keep) (maxL := 1) [(0, rr G 0)] (by decide +kernel) rfl (Nat.le_of_ble_eq_true rfl) rfl ?_
  intro Γ K ret
  have i_X7 : ∀ w ∈ u_ws RX7 TX7 7, w ∈ wsX7_keep := by decide +kernel
  refine x_aload_n (pc := 0) K 0 dX7_keep_0 rfl rfl ?_
  refine x_getr (r0 := 28) (pc := 1) (index := 16) (C := RX7) (T := TX7) (N := 7) (j0 := 1) (ref := "OldMap") K (by decide) sh_0 rfl i_X7 (by decide) (by decide +kernel) rfl rfl rf_0_1 dX7_keep_1 ?_
  refine x_aload_n (pc := 4) K 0 dX7_keep_4 rfl rfl ?_
  refine x_getr (r0 := 1) (pc := 5) (index := 10) (C := RX7) (T := TX7) (N := 7) (j0 := 0) (ref := "OldMap") K (by decide) sh_0 rfl i_X7 (by decide) (by decide +kernel) rfl rfl rf_0_0 dX7_keep_5 ?_
  refine x_callvN (pc := 8) (st := []) (n := 1) K (by decide) sh_28 rfl (c_X3_copyFrom1 l G _ _) (host := "OldMap") gX7_keep_X3_copyFrom_n238 (by decide +kernel) (by decide +kernel) (by decide +kernel) (by decide +kernel) (by decide +kernel) rfl (by decide) (by decide) rfl rfl (Nat.le_of_ble_eq_true rfl) dX7_keep_8 (fun I_8 J_8 hp_8 => ?_)
  obtain ⟨rfl, rfl⟩ := hp_8
  refine x_aload_n (pc := 11) K 0 dX7_keep_11 rfl rfl ?_
  refine x_iconst (pc := 12) (v := 1) K dX7_keep_12 (by decide) ?_
  refine x_puti (ty := .boolean) (pc := 13) (index := 48) (C := RX7) (T := TX7) (N := 7) (j0 := 4) (ref := "OldMap") K (by decide) sh_0 rfl i_X7 (by decide) (by decide +kernel) rfl tyX7 tyX7_ok nmX7 rfl (by decide +kernel) rfl rfl rfl dX7_keep_13 ?_
  refine x_iconst (pc := 16) (v := 1) K dX7_keep_16 (by decide) ?_
  exact ret (pc := 17) dX7_keep_17 (⟨rfl, rfl, rfl⟩) rfl

set_option maxHeartbeats 1000000 in
set_option maxRecDepth 100000 in
theorem c_X7_back (l : Launch) (G : hQ) (I : hI) (J : hJ) : h_Mi l yX7_back wsX7_back 3 63 G [rr G 0] I J (fun ρ I' J' => (if I 0 4 = 0 then -5 else 1) = ρ ∧ (if I 0 4 = 0 then I else cpTa0 I) = I' ∧ J = J') := by
  refine h_Mi.of (ty := .int) (cc := cX7_back) (maxL := 1) [(0, rr G 0)] (by decide +kernel) rfl (Nat.le_of_ble_eq_true rfl) rfl ?_
  intro Γ K ret
  have i_X7 : ∀ w ∈ u_ws RX7 TX7 7, w ∈ wsX7_back := by decide +kernel
  refine x_aload_n (pc := 0) K 0 dX7_back_0 rfl rfl ?_
  refine x_geti (pc := 1) (index := 48) (C := RX7) (T := TX7) (N := 7) (j0 := 4) (ref := "OldMap") K (by decide) sh_0 rfl i_X7 (by decide) (by decide +kernel) rfl rfl dX7_back_1 ?_
  refine x_if_ne (pc := 4) (tgt := 10) K dX7_back_4 (by decide) (fun c_4 => ?_) (fun c_4 => ?_)
  · refine x_aload_n (pc := 10) K 0 dX7_back_10 rfl rfl ?_
    refine x_getr (r0 := 1) (pc := 11) (index := 10) (C := RX7) (T := TX7) (N := 7) (j0 := 0) (ref := "OldMap") K (by decide) sh_0 rfl i_X7 (by decide) (by decide +kernel) rfl rfl rf_0_0 dX7_back_11 ?_
    refine x_aload_n (pc := 14) K 0 dX7_back_14 rfl rfl ?_
    refine x_getr (r0 := 28) (pc := 15) (index := 16) (C := RX7) (T := TX7) (N := 7) (j0 := 1) (ref := "OldMap") K (by decide) sh_0 rfl i_X7 (by decide) (by decide +kernel) rfl rfl rf_0_1 dX7_back_15 ?_
    refine x_callvN (pc := 18) (st := []) (n := 1) K (by decide) sh_1 rfl (c_X3_copyFrom0 l G _ _) (host := "OldMap") gX7_back_X3_copyFrom_n238 (by decide +kernel) (by decide +kernel) (by decide +kernel) (by decide +kernel) (by decide +kernel) rfl (by decide) (by decide) rfl rfl (Nat.le_of_ble_eq_true rfl) dX7_back_18 (fun I_18 J_18 hp_18 => ?_)
    obtain ⟨rfl, rfl⟩ := hp_18
    refine x_iconst (pc := 21) (v := 1) K dX7_back_21 (by decide) ?_
    exact ret (pc := 22) dX7_back_22 (⟨if_neg c_4, if_neg c_4, rfl⟩) rfl
  · refine x_bipush (pc := 7) (v := -5) K dX7_back_7 (by decide) ?_
    exact ret (pc := 9) dX7_back_9 (⟨if_pos c_4, if_pos c_4, rfl⟩) rfl

