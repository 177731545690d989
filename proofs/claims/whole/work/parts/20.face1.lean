/-! OldMap's face: points, triangles, things, kept -/
theorem has_of {x : Int32} {c : Int32} {n : Nat} (h : 0 ≤ x ∧ x < c) (hn : c = nI n) (h31 : n < 2 ^ 31) : ∃ p : Nat, p < n ∧ x = nI p := by
  subst hn
  obtain ⟨p, hp, rfl⟩ := nI_of (x := x) (Int32.not_lt.mpr h.1)
  exact ⟨p, (nI_ltI hp h31).mp h.2, rfl⟩
theorem mp_of {x : Int32} (h : isMp x) : ∃ p : Nat, p < 2 ∧ x = nI p := has_of (c := 2) h rfl (by decide)
theorem pt_of {x : Int32} (h : isPt x) : ∃ p : Nat, p < 4 ∧ x = nI p := by
  obtain ⟨j, hj, e⟩ := nI_of2 (x := x) (M := 3) (n := 3) rfl (Int32.not_lt.mpr h.1) h.2
  exact ⟨j, by omega, e⟩
theorem rg_of {x M : Int32} {m : Nat} (hM : M.toInt = m) (h1 : ¬ x < 0) (h2 : ¬ M < x) : ∃ p : Nat, p ≤ m ∧ x = nI p := nI_of2 hM h1 (Int32.not_lt.mp h2)
abbrev isP (I : hI) (p : Int32) : Prop := 0 ≤ p ∧ p < I 2 0
abbrev isT (I : hI) (t : Int32) : Prop := 0 ≤ t ∧ t < I 8 1
def tn (x : Int32) : Nat := x.toNatClampNeg
theorem tn_n {n : Nat} (h : n < 2 ^ 31) : tn (nI n) = n := nI_clamp h
set_option maxHeartbeats 1000000 in
set_option maxRecDepth 100000 in
theorem c_X7_point (l : Launch) (G : hQ) (I : hI) (J : hJ) (x y X Y : Int32) (n : Nat) (hn : I 2 0 = nI n) (h12 : n ≤ 12) : h_Mi l yX7_point wsX7_point 2 49 G [rr G 0, .int x, .int y, .int X, .int Y] I J (fun ρ I' J' => (if Pl x y ∧ Pl X Y then (if n < 12 then nI n else -2) else -1) = ρ ∧ (if Pl x y ∧ Pl X Y then (if n < 12 then addPt I n x y X Y else I) else I) = I' ∧ J = J') := by
  refine h_Mi.of (ty := .int) (cc := cX7_point) (maxL := 5) [(0, rr G 0), (1, .int x), (2, .int y), (3, .int X), (4, .int Y)] (by decide +kernel) rfl (Nat.le_of_ble_eq_true rfl) rfl ?_
  intro Γ K ret
  have i_X7 : ∀ w ∈ u_ws RX7 TX7 7, w ∈ wsX7_point := by decide +kernel
  have i_X3 : ∀ w ∈ u_ws RX3 TX3 4, w ∈ wsX7_point := by decide +kernel
  refine x_iload_n (pc := 0) K 1 dX7_point_0 rfl rfl ?_
  refine x_iload_n (pc := 1) K 2 dX7_point_1 rfl rfl ?_
  refine x_calliS (pc := 2) (st := []) (n := 2) K (c_X7_isPlace l G _ _ _ _) gX7_point_X7_isPlace (by decide +kernel) rfl (by decide) (by decide) rfl rfl (Nat.le_of_ble_eq_true rfl) dX7_point_2 (fun r_2 I_2 J_2 hp_2 => ?_)
  obtain ⟨rfl, rfl, rfl⟩ := hp_2
  refine x_if_eq (pc := 5) (tgt := 17) K dX7_point_5 (by decide) (fun c_5 => ?_) (fun c_5 => ?_)
  · replace c_5 := bz_0.mp c_5
    refine x_iconst (pc := 17) (v := -1) K dX7_point_17 (by decide) ?_
    exact ret (pc := 18) dX7_point_18 (⟨if_neg (fun h => c_5 h.1), if_neg (fun h => c_5 h.1), rfl⟩) rfl
  · replace c_5 := bz_n0.mp c_5
    refine x_iload_n (pc := 8) K 3 dX7_point_8 rfl rfl ?_
    refine x_iload (pc := 9) K 4 dX7_point_9 rfl ?_
    refine x_calliS (pc := 11) (st := []) (n := 2) K (c_X7_isPlace l G _ _ _ _) gX7_point_X7_isPlace (by decide +kernel) rfl (by decide) (by decide) rfl rfl (Nat.le_of_ble_eq_true rfl) dX7_point_11 (fun r_11 I_11 J_11 hp_11 => ?_)
    obtain ⟨rfl, rfl, rfl⟩ := hp_11
    refine x_if_ne (pc := 14) (tgt := 19) K dX7_point_14 (by decide) (fun c_14 => ?_) (fun c_14 => ?_)
    · replace c_14 := bz_n0.mp c_14
      refine x_aload_n (pc := 19) K 0 dX7_point_19 rfl rfl ?_
      refine x_getr (r0 := 1) (pc := 20) (index := 10) (C := RX7) (T := TX7) (N := 7) (j0 := 0) (ref := "OldMap") K (by decide) sh_0 rfl i_X7 (by decide) (by decide +kernel) rfl rfl rf_0_0 dX7_point_20 ?_
      refine x_getrN (r0 := 2) (pc := 23) (index := 21) (C := RX3) (T := TX3) (N := 4) (j0 := 0) (host := "OldMap") (ref := "OldMap$Table") K (by decide) sh_1 rfl i_X3 (by decide) (by decide +kernel) rfl rfl rf_1_0 dX7_point_23 ?_
      refine x_iload_n (pc := 26) K 1 dX7_point_26 rfl rfl ?_
      refine x_iload_n (pc := 27) K 2 dX7_point_27 rfl rfl ?_
      refine x_iload_n (pc := 28) K 3 dX7_point_28 rfl rfl ?_
      refine x_iload (pc := 29) K 4 dX7_point_29 rfl ?_
      refine x_calliN (pc := 31) (st := []) (n := 4) K (by decide) sh_2 rfl (c_X2_add l G _ _ n _ _ _ _ hn h12) (host := "OldMap") gX7_point_X2_add_n63 (by decide +kernel) (by decide +kernel) (by decide +kernel) (by decide +kernel) (by decide +kernel) rfl (by decide) (by decide) rfl rfl (Nat.le_of_ble_eq_true rfl) dX7_point_31 (fun r_31 I_31 J_31 hp_31 => ?_)
      obtain ⟨rfl, rfl, rfl⟩ := hp_31
      exact ret (pc := 34) dX7_point_34 (⟨if_pos ⟨c_5, c_14⟩, if_pos ⟨c_5, c_14⟩, rfl⟩) rfl
    · replace c_14 := bz_0.mp c_14
      refine x_iconst (pc := 17) (v := -1) K dX7_point_17 (by decide) ?_
      exact ret (pc := 18) dX7_point_18 (⟨if_neg (fun h => c_14 h.2), if_neg (fun h => c_14 h.2), rfl⟩) rfl

set_option maxHeartbeats 1000000 in
set_option maxRecDepth 100000 in
theorem c_X7_move (l : Launch) (G : hQ) (I : hI) (J : hJ) (p m x y : Int32) (n : Nat) (hn : I 2 0 = nI n) (h12 : n ≤ 12) : h_Mi l yX7_move wsX7_move 1 24 G [rr G 0, .int p, .int m, .int x, .int y] I J (fun ρ I' J' => (if isP I p ∧ isMp m ∧ Pl x y then 1 else -1) = ρ ∧ (if isP I p ∧ isMp m ∧ Pl x y then placeC I (tn p) (tn m) x y else I) = I' ∧ J = J') := by
  refine h_Mi.of (ty := .int) (cc := cX7_move) (maxL := 5) [(0, rr G 0), (1, .int p), (2, .int m), (3, .int x), (4, .int y)] (by decide +kernel) rfl (Nat.le_of_ble_eq_true rfl) rfl ?_
  intro Γ K ret
  have i_X7 : ∀ w ∈ u_ws RX7 TX7 7, w ∈ wsX7_move := by decide +kernel
  have i_X3 : ∀ w ∈ u_ws RX3 TX3 4, w ∈ wsX7_move := by decide +kernel
  refine x_aload_n (pc := 0) K 0 dX7_move_0 rfl rfl ?_
  refine x_getr (r0 := 1) (pc := 1) (index := 10) (C := RX7) (T := TX7) (N := 7) (j0 := 0) (ref := "OldMap") K (by decide) sh_0 rfl i_X7 (by decide) (by decide +kernel) rfl rfl rf_0_0 dX7_move_1 ?_
  refine x_getrN (r0 := 2) (pc := 4) (index := 21) (C := RX3) (T := TX3) (N := 4) (j0 := 0) (host := "OldMap") (ref := "OldMap$Table") K (by decide) sh_1 rfl i_X3 (by decide) (by decide +kernel) rfl rfl rf_1_0 dX7_move_4 ?_
  refine x_iload_n (pc := 7) K 1 dX7_move_7 rfl rfl ?_
  refine x_calliN (pc := 8) (st := []) (n := 1) K (by decide) sh_2 rfl (c_X2_has l G _ _ _) (host := "OldMap") gX7_move_X2_has_n69 (by decide +kernel) (by decide +kernel) (by decide +kernel) (by decide +kernel) (by decide +kernel) rfl (by decide) (by decide) rfl rfl (Nat.le_of_ble_eq_true rfl) dX7_move_8 (fun r_8 I_8 J_8 hp_8 => ?_)
  obtain ⟨rfl, rfl, rfl⟩ := hp_8
  refine x_if_eq (pc := 11) (tgt := 30) K dX7_move_11 (by decide) (fun c_11 => ?_) (fun c_11 => ?_)
  · replace c_11 := bz_0.mp c_11
    refine x_iconst (pc := 30) (v := -1) K dX7_move_30 (by decide) ?_
    exact ret (pc := 31) dX7_move_31 (⟨if_neg (fun h => c_11 h.1), if_neg (fun h => c_11 h.1), rfl⟩) rfl
  · replace c_11 := bz_n0.mp c_11
    obtain ⟨p, hp, rfl⟩ := has_of c_11 hn (by omega)
    refine x_iload_n (pc := 14) K 2 dX7_move_14 rfl rfl ?_
    refine x_calliS (pc := 15) (st := []) (n := 1) K (c_X7_isMap l G _ _ _) gX7_move_X7_isMap (by decide +kernel) rfl (by decide) (by decide) rfl rfl (Nat.le_of_ble_eq_true rfl) dX7_move_15 (fun r_15 I_15 J_15 hp_15 => ?_)
    obtain ⟨rfl, rfl, rfl⟩ := hp_15
    refine x_if_eq (pc := 18) (tgt := 30) K dX7_move_18 (by decide) (fun c_18 => ?_) (fun c_18 => ?_)
    · replace c_18 := bz_0.mp c_18
      refine x_iconst (pc := 30) (v := -1) K dX7_move_30 (by decide) ?_
      exact ret (pc := 31) dX7_move_31 (⟨if_neg (fun h => c_18 h.2.1), if_neg (fun h => c_18 h.2.1), rfl⟩) rfl
    · replace c_18 := bz_n0.mp c_18
      obtain ⟨mp, hmp, rfl⟩ := mp_of c_18
      refine x_iload_n (pc := 21) K 3 dX7_move_21 rfl rfl ?_
      refine x_iload (pc := 22) K 4 dX7_move_22 rfl ?_
      refine x_calliS (pc := 24) (st := []) (n := 2) K (c_X7_isPlace l G _ _ _ _) gX7_move_X7_isPlace (by decide +kernel) rfl (by decide) (by decide) rfl rfl (Nat.le_of_ble_eq_true rfl) dX7_move_24 (fun r_24 I_24 J_24 hp_24 => ?_)
      obtain ⟨rfl, rfl, rfl⟩ := hp_24
      refine x_if_ne (pc := 27) (tgt := 32) K dX7_move_27 (by decide) (fun c_27 => ?_) (fun c_27 => ?_)
      · replace c_27 := bz_n0.mp c_27
        refine x_aload_n (pc := 32) K 0 dX7_move_32 rfl rfl ?_
        refine x_getr (r0 := 1) (pc := 33) (index := 10) (C := RX7) (T := TX7) (N := 7) (j0 := 0) (ref := "OldMap") K (by decide) sh_0 rfl i_X7 (by decide) (by decide +kernel) rfl rfl rf_0_0 dX7_move_33 ?_
        refine x_getrN (r0 := 2) (pc := 36) (index := 21) (C := RX3) (T := TX3) (N := 4) (j0 := 0) (host := "OldMap") (ref := "OldMap$Table") K (by decide) sh_1 rfl i_X3 (by decide) (by decide +kernel) rfl rfl rf_1_0 dX7_move_36 ?_
        refine x_iload_n (pc := 39) K 1 dX7_move_39 rfl rfl ?_
        refine x_iload_n (pc := 40) K 2 dX7_move_40 rfl rfl ?_
        refine x_iload_n (pc := 41) K 3 dX7_move_41 rfl rfl ?_
        refine x_iload (pc := 42) K 4 dX7_move_42 rfl ?_
        refine x_callvN (pc := 44) (st := []) (n := 4) K (by decide) sh_2 rfl (c_X2_place l G _ _ p mp _ _ (by omega) (by omega)) (host := "OldMap") gX7_move_X2_place_n76 (by decide +kernel) (by decide +kernel) (by decide +kernel) (by decide +kernel) (by decide +kernel) rfl (by decide) (by decide) rfl rfl (Nat.le_of_ble_eq_true rfl) dX7_move_44 (fun I_44 J_44 hp_44 => ?_)
        obtain ⟨rfl, rfl⟩ := hp_44
        refine x_iconst (pc := 47) (v := 1) K dX7_move_47 (by decide) ?_
        exact ret (pc := 48) dX7_move_48 (⟨if_pos ⟨c_11, c_18, c_27⟩, by rw [if_pos ⟨c_11, c_18, c_27⟩, tn_n (by omega), tn_n (by omega)], rfl⟩) rfl
      · replace c_27 := bz_0.mp c_27
        refine x_iconst (pc := 30) (v := -1) K dX7_move_30 (by decide) ?_
        exact ret (pc := 31) dX7_move_31 (⟨if_neg (fun h => c_27 h.2.2), if_neg (fun h => c_27 h.2.2), rfl⟩) rfl

set_option maxHeartbeats 1000000 in
set_option maxRecDepth 100000 in
theorem c_X7_sure (l : Launch) (G : hQ) (I : hI) (J : hJ) (p b : Int32) : h_Mi l yX7_sure wsX7_sure 1 22 G [rr G 0, .int p, .int b] I J (fun ρ I' J' => (if isP I p then (if wbit (I 2 2) p b = I 2 2 then 0 else 1) else -1) = ρ ∧ (if isP I p then h_up I 2 2 (wbit (I 2 2) p b) else I) = I' ∧ J = J') := by
  refine h_Mi.of (ty := .int) (cc := cX7_sure) (maxL := 5) [(0, rr G 0), (1, .int p), (2, .int b)] (by decide +kernel) rfl (Nat.le_of_ble_eq_true rfl) rfl ?_
  intro Γ K ret
  have i_X7 : ∀ w ∈ u_ws RX7 TX7 7, w ∈ wsX7_sure := by decide +kernel
  have i_X3 : ∀ w ∈ u_ws RX3 TX3 4, w ∈ wsX7_sure := by decide +kernel
  have i_X2 : ∀ w ∈ u_ws RX2 TX2 4, w ∈ wsX7_sure := by decide +kernel
  refine x_aload_n (pc := 0) K 0 dX7_sure_0 rfl rfl ?_
  refine x_getr (r0 := 1) (pc := 1) (index := 10) (C := RX7) (T := TX7) (N := 7) (j0 := 0) (ref := "OldMap") K (by decide) sh_0 rfl i_X7 (by decide) (by decide +kernel) rfl rfl rf_0_0 dX7_sure_1 ?_
  refine x_getrN (r0 := 2) (pc := 4) (index := 21) (C := RX3) (T := TX3) (N := 4) (j0 := 0) (host := "OldMap") (ref := "OldMap$Table") K (by decide) sh_1 rfl i_X3 (by decide) (by decide +kernel) rfl rfl rf_1_0 dX7_sure_4 ?_
  refine x_astore_n (pc := 7) (lo' := [(3, _), (0, _), (1, _), (2, _)]) K dX7_sure_7 rfl (by decide) rfl ?_
  refine x_aload_n (pc := 8) K 0 dX7_sure_8 rfl rfl ?_
  refine x_iload_n (pc := 9) K 2 dX7_sure_9 rfl rfl ?_
  refine x_calliN (pc := 10) (st := []) (n := 1) K (by decide) sh_2 rfl (c_X2_has l G _ _ _) (host := "OldMap") gX7_sure_X2_has_n69 (by decide +kernel) (by decide +kernel) (by decide +kernel) (by decide +kernel) (by decide +kernel) rfl (by decide) (by decide) rfl rfl (Nat.le_of_ble_eq_true rfl) dX7_sure_10 (fun r_10 I_10 J_10 hp_10 => ?_)
  obtain ⟨rfl, rfl, rfl⟩ := hp_10
  refine x_if_ne (pc := 13) (tgt := 18) K dX7_sure_13 (by decide) (fun c_13 => ?_) (fun c_13 => ?_)
  · replace c_13 := bz_n0.mp c_13
    refine x_aload_n (pc := 18) K 0 dX7_sure_18 rfl rfl ?_
    refine x_getiN (pc := 19) (index := 80) (C := RX2) (T := TX2) (N := 4) (j0 := 2) (host := "OldMap") (ref := "OldMap$Points") K (by decide) sh_2 rfl i_X2 (by decide) (by decide +kernel) rfl rfl dX7_sure_19 ?_
    refine x_istore (pc := 22) (lo' := [(4, _), (3, _), (0, _), (1, _), (2, _)]) K dX7_sure_22 (by decide) rfl ?_
    refine x_aload_n (pc := 24) K 1 dX7_sure_24 rfl rfl ?_
    refine x_iload (pc := 25) K 0 dX7_sure_25 rfl ?_
    refine x_iload_n (pc := 27) K 3 dX7_sure_27 rfl rfl ?_
    refine x_iload_n (pc := 28) K 4 dX7_sure_28 rfl rfl ?_
    refine x_calliS (pc := 29) (st := [_]) (n := 3) K (c_X7_withBit l G _ _ _ _ _) gX7_sure_X7_withBit (by decide +kernel) rfl (by decide) (by decide) rfl rfl (Nat.le_of_ble_eq_true rfl) dX7_sure_29 (fun r_29 I_29 J_29 hp_29 => ?_)
    obtain ⟨rfl, rfl, rfl⟩ := hp_29
    refine x_putiN (ty := .int) (pc := 32) (index := 80) (C := RX2) (T := TX2) (N := 4) (j0 := 2) (host := "OldMap") (ref := "OldMap$Points") K (by decide) sh_2 rfl i_X2 (by decide) (by decide +kernel) rfl tyX2 tyX2_ok nmX2 rfl (by decide +kernel) rfl rfl rfl dX7_sure_32 ?_
    refine x_aload_n (pc := 35) K 1 dX7_sure_35 rfl rfl ?_
    refine x_getiN (pc := 36) (index := 80) (C := RX2) (T := TX2) (N := 4) (j0 := 2) (host := "OldMap") (ref := "OldMap$Points") K (by decide) sh_2 rfl i_X2 (by decide) (by decide +kernel) rfl rfl dX7_sure_36 ?_
    refine x_topie (wbit (I 2 2) p b) (by simp [h_up]) ?_
    refine x_iload (pc := 39) K 0 dX7_sure_39 rfl ?_
    refine x_icmp_ne (pc := 41) (tgt := 48) K dX7_sure_41 (by decide) (fun c_41 => ?_) (fun c_41 => ?_)
    · refine x_iconst (pc := 48) (v := 1) K dX7_sure_48 (by decide) ?_
      exact ret (pc := 49) dX7_sure_49 (⟨by rw [if_pos c_13, if_neg c_41], if_pos c_13, rfl⟩) rfl
    · refine x_iconst (pc := 44) (v := 0) K dX7_sure_44 (by decide) ?_
      refine x_goto (pc := 45) (tgt := 49) K dX7_sure_45 (by decide) ?_
      exact ret (pc := 49) dX7_sure_49 (⟨by rw [if_pos c_13, if_pos c_41], if_pos c_13, rfl⟩) rfl
  · replace c_13 := bz_0.mp c_13
    refine x_iconst (pc := 16) (v := -1) K dX7_sure_16 (by decide) ?_
    exact ret (pc := 17) dX7_sure_17 (⟨if_neg c_13, if_neg c_13, rfl⟩) rfl

set_option maxHeartbeats 1000000 in
set_option maxRecDepth 100000 in
theorem c_X7_put (l : Launch) (G : hQ) (I : hI) (J : hJ) (p b : Int32) : h_Mi l yX7_put wsX7_put 1 22 G [rr G 0, .int p, .int b] I J (fun ρ I' J' => (if isP I p then (if wbit (I 2 3) p b = I 2 3 then 0 else 1) else -1) = ρ ∧ (if isP I p then h_up I 2 3 (wbit (I 2 3) p b) else I) = I' ∧ J = J') := by
  refine h_Mi.of (ty := .int) (cc := cX7_put) (maxL := 5) [(0, rr G 0), (1, .int p), (2, .int b)] (by decide +kernel) rfl (Nat.le_of_ble_eq_true rfl) rfl ?_
  intro Γ K ret
  have i_X7 : ∀ w ∈ u_ws RX7 TX7 7, w ∈ wsX7_put := by decide +kernel
  have i_X3 : ∀ w ∈ u_ws RX3 TX3 4, w ∈ wsX7_put := by decide +kernel
  have i_X2 : ∀ w ∈ u_ws RX2 TX2 4, w ∈ wsX7_put := by decide +kernel
  refine x_aload_n (pc := 0) K 0 dX7_put_0 rfl rfl ?_
  refine x_getr (r0 := 1) (pc := 1) (index := 10) (C := RX7) (T := TX7) (N := 7) (j0 := 0) (ref := "OldMap") K (by decide) sh_0 rfl i_X7 (by decide) (by decide +kernel) rfl rfl rf_0_0 dX7_put_1 ?_
  refine x_getrN (r0 := 2) (pc := 4) (index := 21) (C := RX3) (T := TX3) (N := 4) (j0 := 0) (host := "OldMap") (ref := "OldMap$Table") K (by decide) sh_1 rfl i_X3 (by decide) (by decide +kernel) rfl rfl rf_1_0 dX7_put_4 ?_
  refine x_astore_n (pc := 7) (lo' := [(3, _), (0, _), (1, _), (2, _)]) K dX7_put_7 rfl (by decide) rfl ?_
  refine x_aload_n (pc := 8) K 0 dX7_put_8 rfl rfl ?_
  refine x_iload_n (pc := 9) K 2 dX7_put_9 rfl rfl ?_
  refine x_calliN (pc := 10) (st := []) (n := 1) K (by decide) sh_2 rfl (c_X2_has l G _ _ _) (host := "OldMap") gX7_put_X2_has_n69 (by decide +kernel) (by decide +kernel) (by decide +kernel) (by decide +kernel) (by decide +kernel) rfl (by decide) (by decide) rfl rfl (Nat.le_of_ble_eq_true rfl) dX7_put_10 (fun r_10 I_10 J_10 hp_10 => ?_)
  obtain ⟨rfl, rfl, rfl⟩ := hp_10
  refine x_if_ne (pc := 13) (tgt := 18) K dX7_put_13 (by decide) (fun c_13 => ?_) (fun c_13 => ?_)
  · replace c_13 := bz_n0.mp c_13
    refine x_aload_n (pc := 18) K 0 dX7_put_18 rfl rfl ?_
    refine x_getiN (pc := 19) (index := 87) (C := RX2) (T := TX2) (N := 4) (j0 := 3) (host := "OldMap") (ref := "OldMap$Points") K (by decide) sh_2 rfl i_X2 (by decide) (by decide +kernel) rfl rfl dX7_put_19 ?_
    refine x_istore (pc := 22) (lo' := [(4, _), (3, _), (0, _), (1, _), (2, _)]) K dX7_put_22 (by decide) rfl ?_
    refine x_aload_n (pc := 24) K 1 dX7_put_24 rfl rfl ?_
    refine x_iload (pc := 25) K 0 dX7_put_25 rfl ?_
    refine x_iload_n (pc := 27) K 3 dX7_put_27 rfl rfl ?_
    refine x_iload_n (pc := 28) K 4 dX7_put_28 rfl rfl ?_
    refine x_calliS (pc := 29) (st := [_]) (n := 3) K (c_X7_withBit l G _ _ _ _ _) gX7_put_X7_withBit (by decide +kernel) rfl (by decide) (by decide) rfl rfl (Nat.le_of_ble_eq_true rfl) dX7_put_29 (fun r_29 I_29 J_29 hp_29 => ?_)
    obtain ⟨rfl, rfl, rfl⟩ := hp_29
    refine x_putiN (ty := .int) (pc := 32) (index := 87) (C := RX2) (T := TX2) (N := 4) (j0 := 3) (host := "OldMap") (ref := "OldMap$Points") K (by decide) sh_2 rfl i_X2 (by decide) (by decide +kernel) rfl tyX2 tyX2_ok nmX2 rfl (by decide +kernel) rfl rfl rfl dX7_put_32 ?_
    refine x_aload_n (pc := 35) K 1 dX7_put_35 rfl rfl ?_
    refine x_getiN (pc := 36) (index := 87) (C := RX2) (T := TX2) (N := 4) (j0 := 3) (host := "OldMap") (ref := "OldMap$Points") K (by decide) sh_2 rfl i_X2 (by decide) (by decide +kernel) rfl rfl dX7_put_36 ?_
    refine x_topie (wbit (I 2 3) p b) (by simp [h_up]) ?_
    refine x_iload (pc := 39) K 0 dX7_put_39 rfl ?_
    refine x_icmp_ne (pc := 41) (tgt := 48) K dX7_put_41 (by decide) (fun c_41 => ?_) (fun c_41 => ?_)
    · refine x_iconst (pc := 48) (v := 1) K dX7_put_48 (by decide) ?_
      exact ret (pc := 49) dX7_put_49 (⟨by rw [if_pos c_13, if_neg c_41], if_pos c_13, rfl⟩) rfl
    · refine x_iconst (pc := 44) (v := 0) K dX7_put_44 (by decide) ?_
      refine x_goto (pc := 45) (tgt := 49) K dX7_put_45 (by decide) ?_
      exact ret (pc := 49) dX7_put_49 (⟨by rw [if_pos c_13, if_pos c_41], if_pos c_13, rfl⟩) rfl
  · replace c_13 := bz_0.mp c_13
    refine x_iconst (pc := 16) (v := -1) K dX7_put_16 (by decide) ?_
    exact ret (pc := 17) dX7_put_17 (⟨if_neg c_13, if_neg c_13, rfl⟩) rfl

set_option maxHeartbeats 1000000 in
set_option maxRecDepth 100000 in
theorem c_X7_of (l : Launch) (G : hQ) (I : hI) (J : hJ) (p w : Int32) (n : Nat) (hn : I 2 0 = nI n) (h12 : n ≤ 12) : h_Mi l yX7_of wsX7_of 1 21 G [rr G 0, .int p, .int w] I J (fun ρ I' J' => (if isP I p ∧ ¬ w < 0 ∧ w ≤ 5 then (if w = 4 then I 2 2 >>> (p &&& 31) &&& 1 else if w = 5 then I 2 3 >>> (p &&& 31) &&& 1 else I (4 + tn w) (tn p)) else -2000) = ρ ∧ I = I' ∧ J = J') := by
  refine h_Mi.of (ty := .int) (cc := cX7_of) (maxL := 4) [(0, rr G 0), (1, .int p), (2, .int w)] (by decide +kernel) rfl (Nat.le_of_ble_eq_true rfl) rfl ?_
  intro Γ K ret
  have i_X7 : ∀ w ∈ u_ws RX7 TX7 7, w ∈ wsX7_of := by decide +kernel
  have i_X3 : ∀ w ∈ u_ws RX3 TX3 4, w ∈ wsX7_of := by decide +kernel
  have i_X2 : ∀ w ∈ u_ws RX2 TX2 4, w ∈ wsX7_of := by decide +kernel
  refine x_aload_n (pc := 0) K 0 dX7_of_0 rfl rfl ?_
  refine x_getr (r0 := 1) (pc := 1) (index := 10) (C := RX7) (T := TX7) (N := 7) (j0 := 0) (ref := "OldMap") K (by decide) sh_0 rfl i_X7 (by decide) (by decide +kernel) rfl rfl rf_0_0 dX7_of_1 ?_
  refine x_getrN (r0 := 2) (pc := 4) (index := 21) (C := RX3) (T := TX3) (N := 4) (j0 := 0) (host := "OldMap") (ref := "OldMap$Table") K (by decide) sh_1 rfl i_X3 (by decide) (by decide +kernel) rfl rfl rf_1_0 dX7_of_4 ?_
  refine x_astore_n (pc := 7) (lo' := [(3, _), (0, _), (1, _), (2, _)]) K dX7_of_7 rfl (by decide) rfl ?_
  refine x_aload_n (pc := 8) K 0 dX7_of_8 rfl rfl ?_
  refine x_iload_n (pc := 9) K 2 dX7_of_9 rfl rfl ?_
  refine x_calliN (pc := 10) (st := []) (n := 1) K (by decide) sh_2 rfl (c_X2_has l G _ _ _) (host := "OldMap") gX7_of_X2_has_n69 (by decide +kernel) (by decide +kernel) (by decide +kernel) (by decide +kernel) (by decide +kernel) rfl (by decide) (by decide) rfl rfl (Nat.le_of_ble_eq_true rfl) dX7_of_10 (fun r_10 I_10 J_10 hp_10 => ?_)
  obtain ⟨rfl, rfl, rfl⟩ := hp_10
  refine x_if_eq (pc := 13) (tgt := 25) K dX7_of_13 (by decide) (fun c_13 => ?_) (fun c_13 => ?_)
  · replace c_13 := bz_0.mp c_13
    refine x_sipush (pc := 25) (v := -2000) K dX7_of_25 (by decide) ?_
    exact ret (pc := 28) dX7_of_28 (⟨if_neg (fun h => c_13 h.1), rfl, rfl⟩) rfl
  · replace c_13 := bz_n0.mp c_13
    refine x_iload_n (pc := 16) K 3 dX7_of_16 rfl rfl ?_
    refine x_if_lt (pc := 17) (tgt := 25) K dX7_of_17 (by decide) (fun c_17 => ?_) (fun c_17 => ?_)
    · refine x_sipush (pc := 25) (v := -2000) K dX7_of_25 (by decide) ?_
      exact ret (pc := 28) dX7_of_28 (⟨if_neg (fun h => h.2.1 c_17), rfl, rfl⟩) rfl
    · refine x_iload_n (pc := 20) K 3 dX7_of_20 rfl rfl ?_
      refine x_iconst (pc := 21) (v := 5) K dX7_of_21 (by decide) ?_
      refine x_icmp_le (pc := 22) (tgt := 29) K dX7_of_22 (by decide) (fun c_22 => ?_) (fun c_22 => ?_)
      · refine x_iload_n (pc := 29) K 3 dX7_of_29 rfl rfl ?_
        refine x_iconst (pc := 30) (v := 4) K dX7_of_30 (by decide) ?_
        refine x_icmp_ne (pc := 31) (tgt := 43) K dX7_of_31 (by decide) (fun c_31 => ?_) (fun c_31 => ?_)
        · refine x_iload_n (pc := 43) K 3 dX7_of_43 rfl rfl ?_
          refine x_iconst (pc := 44) (v := 5) K dX7_of_44 (by decide) ?_
          refine x_icmp_ne (pc := 45) (tgt := 57) K dX7_of_45 (by decide) (fun c_45 => ?_) (fun c_45 => ?_)
          · obtain ⟨q, hq, rfl⟩ := has_of c_13 hn (by omega)
            obtain ⟨v, hv, rfl⟩ := nI_of2 (x := w) (M := 5) (n := 5) rfl c_17 c_22
            have hv4 : v ≠ 4 := fun e => c_31 (by rw [e]; rfl)
            have hv5 : v ≠ 5 := fun e => c_45 (by rw [e]; rfl)
            refine x_aload_n (pc := 57) K 0 dX7_of_57 rfl rfl ?_
            refine x_getrN (r0 := 3) (pc := 58) (index := 90) (C := RX2) (T := TX2) (N := 4) (j0 := 1) (host := "OldMap") (ref := "OldMap$Points") K (by decide) sh_2 rfl i_X2 (by decide) (by decide +kernel) rfl rfl rf_2_1 dX7_of_58 ?_
            refine x_iload_n (pc := 61) K 3 dX7_of_61 rfl rfl ?_
            refine y_aald (r0 := (4 + v)) (j := v) (pc := 62) K (by decide) sh_3 rfl (by omega) (by decide) (rf_3 _) dX7_of_62 ?_
            refine x_iload_n (pc := 63) K 2 dX7_of_63 rfl rfl ?_
            refine y_iald (j := q) (pc := 64) K (shk_at (show v < 4 by omega)) (shr_at _ (show v < 4 by omega)) rfl (by omega) (by decide) dX7_of_64 ?_
            exact ret (pc := 65) dX7_of_65 (⟨by rw [if_pos (And.intro c_13 (And.intro c_17 c_22)), if_neg c_31, if_neg c_45, tn_n (by omega), tn_n (by omega)], rfl, rfl⟩) rfl
          · refine x_aload_n (pc := 48) K 0 dX7_of_48 rfl rfl ?_
            refine x_getiN (pc := 49) (index := 87) (C := RX2) (T := TX2) (N := 4) (j0 := 3) (host := "OldMap") (ref := "OldMap$Points") K (by decide) sh_2 rfl i_X2 (by decide) (by decide +kernel) rfl rfl dX7_of_49 ?_
            refine x_iload_n (pc := 52) K 2 dX7_of_52 rfl rfl ?_
            refine x_ishr (pc := 53) K dX7_of_53 ?_
            refine x_iconst (pc := 54) (v := 1) K dX7_of_54 (by decide) ?_
            refine x_iand (pc := 55) K dX7_of_55 ?_
            exact ret (pc := 56) dX7_of_56 (⟨by rw [if_pos (And.intro c_13 (And.intro c_17 c_22)), if_neg c_31, if_pos c_45], rfl, rfl⟩) rfl
        · refine x_aload_n (pc := 34) K 0 dX7_of_34 rfl rfl ?_
          refine x_getiN (pc := 35) (index := 80) (C := RX2) (T := TX2) (N := 4) (j0 := 2) (host := "OldMap") (ref := "OldMap$Points") K (by decide) sh_2 rfl i_X2 (by decide) (by decide +kernel) rfl rfl dX7_of_35 ?_
          refine x_iload_n (pc := 38) K 2 dX7_of_38 rfl rfl ?_
          refine x_ishr (pc := 39) K dX7_of_39 ?_
          refine x_iconst (pc := 40) (v := 1) K dX7_of_40 (by decide) ?_
          refine x_iand (pc := 41) K dX7_of_41 ?_
          exact ret (pc := 42) dX7_of_42 (⟨by rw [if_pos (And.intro c_13 (And.intro c_17 c_22)), if_pos c_31], rfl, rfl⟩) rfl
      · refine x_sipush (pc := 25) (v := -2000) K dX7_of_25 (by decide) ?_
        exact ret (pc := 28) dX7_of_28 (⟨if_neg (fun h => c_22 h.2.2), rfl, rfl⟩) rfl

set_option maxHeartbeats 1000000 in
set_option maxRecDepth 100000 in
theorem c_X7_rule (l : Launch) (G : hQ) (I : hI) (J : hJ) (w v : Int32) : h_Mi l yX7_rule wsX7_rule 0 0 G [rr G 0, .int w, .int v] I J (fun ρ I' J' => (if w = 0 ∧ ¬ v < 0 ∧ ¬ 1000 < v then I 0 5 else if w = 1 ∧ ¬ v < 0 ∧ ¬ 2000 < v then I 0 6 else -1) = ρ ∧ (if w = 0 ∧ ¬ v < 0 ∧ ¬ 1000 < v then h_up I 0 5 v else if w = 1 ∧ ¬ v < 0 ∧ ¬ 2000 < v then h_up I 0 6 v else I) = I' ∧ J = J') := by
  refine h_Mi.of (ty := .int) (cc := cX7_rule) (maxL := 4) [(0, rr G 0), (1, .int w), (2, .int v)] (by decide +kernel) rfl (Nat.le_of_ble_eq_true rfl) rfl ?_
  intro Γ K ret
  have i_X7 : ∀ w ∈ u_ws RX7 TX7 7, w ∈ wsX7_rule := by decide +kernel
  refine x_iload_n (pc := 0) K 1 dX7_rule_0 rfl rfl ?_
  refine x_if_ne (pc := 1) (tgt := 27) K dX7_rule_1 (by decide) (fun c_1 => ?_) (fun c_1 => ?_)
  · refine x_iload_n (pc := 27) K 1 dX7_rule_27 rfl rfl ?_
    refine x_iconst (pc := 28) (v := 1) K dX7_rule_28 (by decide) ?_
    refine x_icmp_ne (pc := 29) (tgt := 55) K dX7_rule_29 (by decide) (fun c_29 => ?_) (fun c_29 => ?_)
    · refine x_iconst (pc := 55) (v := -1) K dX7_rule_55 (by decide) ?_
      exact ret (pc := 56) dX7_rule_56 (⟨by rw [if_neg (fun h => c_1 h.1), if_neg (fun h => c_29 h.1)], by rw [if_neg (fun h => c_1 h.1), if_neg (fun h => c_29 h.1)], rfl⟩) rfl
    · refine x_iload_n (pc := 32) K 2 dX7_rule_32 rfl rfl ?_
      refine x_if_lt (pc := 33) (tgt := 55) K dX7_rule_33 (by decide) (fun c_33 => ?_) (fun c_33 => ?_)
      · refine x_iconst (pc := 55) (v := -1) K dX7_rule_55 (by decide) ?_
        exact ret (pc := 56) dX7_rule_56 (⟨by rw [if_neg (fun h => c_1 h.1), if_neg (fun h => h.2.1 c_33)], by rw [if_neg (fun h => c_1 h.1), if_neg (fun h => h.2.1 c_33)], rfl⟩) rfl
      · refine x_iload_n (pc := 36) K 2 dX7_rule_36 rfl rfl ?_
        refine x_sipush (pc := 37) (v := 2000) K dX7_rule_37 (by decide) ?_
        refine x_icmp_gt (pc := 40) (tgt := 55) K dX7_rule_40 (by decide) (fun c_40 => ?_) (fun c_40 => ?_)
        · refine x_iconst (pc := 55) (v := -1) K dX7_rule_55 (by decide) ?_
          exact ret (pc := 56) dX7_rule_56 (⟨by rw [if_neg (fun h => c_1 h.1), if_neg (fun h => h.2.2 c_40)], by rw [if_neg (fun h => c_1 h.1), if_neg (fun h => h.2.2 c_40)], rfl⟩) rfl
        · refine x_aload_n (pc := 43) K 0 dX7_rule_43 rfl rfl ?_
          refine x_geti (pc := 44) (index := 56) (C := RX7) (T := TX7) (N := 7) (j0 := 6) (ref := "OldMap") K (by decide) sh_0 rfl i_X7 (by decide) (by decide +kernel) rfl rfl dX7_rule_44 ?_
          refine x_istore_n (pc := 47) (lo' := [(3, _), (0, _), (1, _), (2, _)]) K dX7_rule_47 rfl (by decide) rfl ?_
          refine x_aload_n (pc := 48) K 1 dX7_rule_48 rfl rfl ?_
          refine x_iload_n (pc := 49) K 3 dX7_rule_49 rfl rfl ?_
          refine x_puti (ty := .int) (pc := 50) (index := 56) (C := RX7) (T := TX7) (N := 7) (j0 := 6) (ref := "OldMap") K (by decide) sh_0 rfl i_X7 (by decide) (by decide +kernel) rfl tyX7 tyX7_ok nmX7 rfl (by decide +kernel) rfl rfl rfl dX7_rule_50 ?_
          refine x_iload_n (pc := 53) K 0 dX7_rule_53 rfl rfl ?_
          exact ret (pc := 54) dX7_rule_54 (⟨by rw [if_neg (fun h => c_1 h.1), if_pos ⟨c_29, c_33, c_40⟩], by rw [if_neg (fun h => c_1 h.1), if_pos ⟨c_29, c_33, c_40⟩], rfl⟩) rfl
  · refine x_iload_n (pc := 4) K 2 dX7_rule_4 rfl rfl ?_
    refine x_if_lt (pc := 5) (tgt := 27) K dX7_rule_5 (by decide) (fun c_5 => ?_) (fun c_5 => ?_)
    · refine x_iload_n (pc := 27) K 1 dX7_rule_27 rfl rfl ?_
      refine x_iconst (pc := 28) (v := 1) K dX7_rule_28 (by decide) ?_
      refine x_icmp_ne (pc := 29) (tgt := 55) K dX7_rule_29 (by decide) (fun c_29 => ?_) (fun c_29 => ?_)
      · refine x_iconst (pc := 55) (v := -1) K dX7_rule_55 (by decide) ?_
        exact ret (pc := 56) dX7_rule_56 (⟨by rw [if_neg (fun h => h.2.1 c_5), if_neg (fun h => c_29 h.1)], by rw [if_neg (fun h => h.2.1 c_5), if_neg (fun h => c_29 h.1)], rfl⟩) rfl
      · refine x_iload_n (pc := 32) K 2 dX7_rule_32 rfl rfl ?_
        refine x_if_lt (pc := 33) (tgt := 55) K dX7_rule_33 (by decide) (fun c_33 => ?_) (fun c_33 => ?_)
        · refine x_iconst (pc := 55) (v := -1) K dX7_rule_55 (by decide) ?_
          exact ret (pc := 56) dX7_rule_56 (⟨by rw [if_neg (fun h => h.2.1 c_5), if_neg (fun h => h.2.1 c_33)], by rw [if_neg (fun h => h.2.1 c_5), if_neg (fun h => h.2.1 c_33)], rfl⟩) rfl
        · refine x_iload_n (pc := 36) K 2 dX7_rule_36 rfl rfl ?_
          refine x_sipush (pc := 37) (v := 2000) K dX7_rule_37 (by decide) ?_
          refine x_icmp_gt (pc := 40) (tgt := 55) K dX7_rule_40 (by decide) (fun c_40 => ?_) (fun c_40 => ?_)
          · refine x_iconst (pc := 55) (v := -1) K dX7_rule_55 (by decide) ?_
            exact ret (pc := 56) dX7_rule_56 (⟨by rw [if_neg (fun h => h.2.1 c_5), if_neg (fun h => h.2.2 c_40)], by rw [if_neg (fun h => h.2.1 c_5), if_neg (fun h => h.2.2 c_40)], rfl⟩) rfl
          · refine x_aload_n (pc := 43) K 0 dX7_rule_43 rfl rfl ?_
            refine x_geti (pc := 44) (index := 56) (C := RX7) (T := TX7) (N := 7) (j0 := 6) (ref := "OldMap") K (by decide) sh_0 rfl i_X7 (by decide) (by decide +kernel) rfl rfl dX7_rule_44 ?_
            refine x_istore_n (pc := 47) (lo' := [(3, _), (0, _), (1, _), (2, _)]) K dX7_rule_47 rfl (by decide) rfl ?_
            refine x_aload_n (pc := 48) K 1 dX7_rule_48 rfl rfl ?_
            refine x_iload_n (pc := 49) K 3 dX7_rule_49 rfl rfl ?_
            refine x_puti (ty := .int) (pc := 50) (index := 56) (C := RX7) (T := TX7) (N := 7) (j0 := 6) (ref := "OldMap") K (by decide) sh_0 rfl i_X7 (by decide) (by decide +kernel) rfl tyX7 tyX7_ok nmX7 rfl (by decide +kernel) rfl rfl rfl dX7_rule_50 ?_
            refine x_iload_n (pc := 53) K 0 dX7_rule_53 rfl rfl ?_
            exact ret (pc := 54) dX7_rule_54 (⟨by rw [if_neg (fun h => h.2.1 c_5), if_pos ⟨c_29, c_33, c_40⟩], by rw [if_neg (fun h => h.2.1 c_5), if_pos ⟨c_29, c_33, c_40⟩], rfl⟩) rfl
    · refine x_iload_n (pc := 8) K 2 dX7_rule_8 rfl rfl ?_
      refine x_sipush (pc := 9) (v := 1000) K dX7_rule_9 (by decide) ?_
      refine x_icmp_gt (pc := 12) (tgt := 27) K dX7_rule_12 (by decide) (fun c_12 => ?_) (fun c_12 => ?_)
      · refine x_iload_n (pc := 27) K 1 dX7_rule_27 rfl rfl ?_
        refine x_iconst (pc := 28) (v := 1) K dX7_rule_28 (by decide) ?_
        refine x_icmp_ne (pc := 29) (tgt := 55) K dX7_rule_29 (by decide) (fun c_29 => ?_) (fun c_29 => ?_)
        · refine x_iconst (pc := 55) (v := -1) K dX7_rule_55 (by decide) ?_
          exact ret (pc := 56) dX7_rule_56 (⟨by rw [if_neg (fun h => h.2.2 c_12), if_neg (fun h => c_29 h.1)], by rw [if_neg (fun h => h.2.2 c_12), if_neg (fun h => c_29 h.1)], rfl⟩) rfl
        · refine x_iload_n (pc := 32) K 2 dX7_rule_32 rfl rfl ?_
          refine x_if_lt (pc := 33) (tgt := 55) K dX7_rule_33 (by decide) (fun c_33 => ?_) (fun c_33 => ?_)
          · refine x_iconst (pc := 55) (v := -1) K dX7_rule_55 (by decide) ?_
            exact ret (pc := 56) dX7_rule_56 (⟨by rw [if_neg (fun h => h.2.2 c_12), if_neg (fun h => h.2.1 c_33)], by rw [if_neg (fun h => h.2.2 c_12), if_neg (fun h => h.2.1 c_33)], rfl⟩) rfl
          · refine x_iload_n (pc := 36) K 2 dX7_rule_36 rfl rfl ?_
            refine x_sipush (pc := 37) (v := 2000) K dX7_rule_37 (by decide) ?_
            refine x_icmp_gt (pc := 40) (tgt := 55) K dX7_rule_40 (by decide) (fun c_40 => ?_) (fun c_40 => ?_)
            · refine x_iconst (pc := 55) (v := -1) K dX7_rule_55 (by decide) ?_
              exact ret (pc := 56) dX7_rule_56 (⟨by rw [if_neg (fun h => h.2.2 c_12), if_neg (fun h => h.2.2 c_40)], by rw [if_neg (fun h => h.2.2 c_12), if_neg (fun h => h.2.2 c_40)], rfl⟩) rfl
            · refine x_aload_n (pc := 43) K 0 dX7_rule_43 rfl rfl ?_
              refine x_geti (pc := 44) (index := 56) (C := RX7) (T := TX7) (N := 7) (j0 := 6) (ref := "OldMap") K (by decide) sh_0 rfl i_X7 (by decide) (by decide +kernel) rfl rfl dX7_rule_44 ?_
              refine x_istore_n (pc := 47) (lo' := [(3, _), (0, _), (1, _), (2, _)]) K dX7_rule_47 rfl (by decide) rfl ?_
              refine x_aload_n (pc := 48) K 1 dX7_rule_48 rfl rfl ?_
              refine x_iload_n (pc := 49) K 3 dX7_rule_49 rfl rfl ?_
              refine x_puti (ty := .int) (pc := 50) (index := 56) (C := RX7) (T := TX7) (N := 7) (j0 := 6) (ref := "OldMap") K (by decide) sh_0 rfl i_X7 (by decide) (by decide +kernel) rfl tyX7 tyX7_ok nmX7 rfl (by decide +kernel) rfl rfl rfl dX7_rule_50 ?_
              refine x_iload_n (pc := 53) K 0 dX7_rule_53 rfl rfl ?_
              exact ret (pc := 54) dX7_rule_54 (⟨by rw [if_neg (fun h => h.2.2 c_12), if_pos ⟨c_29, c_33, c_40⟩], by rw [if_neg (fun h => h.2.2 c_12), if_pos ⟨c_29, c_33, c_40⟩], rfl⟩) rfl
      · refine x_aload_n (pc := 15) K 0 dX7_rule_15 rfl rfl ?_
        refine x_geti (pc := 16) (index := 52) (C := RX7) (T := TX7) (N := 7) (j0 := 5) (ref := "OldMap") K (by decide) sh_0 rfl i_X7 (by decide) (by decide +kernel) rfl rfl dX7_rule_16 ?_
        refine x_istore_n (pc := 19) (lo' := [(3, _), (0, _), (1, _), (2, _)]) K dX7_rule_19 rfl (by decide) rfl ?_
        refine x_aload_n (pc := 20) K 1 dX7_rule_20 rfl rfl ?_
        refine x_iload_n (pc := 21) K 3 dX7_rule_21 rfl rfl ?_
        refine x_puti (ty := .int) (pc := 22) (index := 52) (C := RX7) (T := TX7) (N := 7) (j0 := 5) (ref := "OldMap") K (by decide) sh_0 rfl i_X7 (by decide) (by decide +kernel) rfl tyX7 tyX7_ok nmX7 rfl (by decide +kernel) rfl rfl rfl dX7_rule_22 ?_
        refine x_iload_n (pc := 25) K 0 dX7_rule_25 rfl rfl ?_
        exact ret (pc := 26) dX7_rule_26 (⟨by rw [if_pos ⟨c_1, c_5, c_12⟩], by rw [if_pos ⟨c_1, c_5, c_12⟩], rfl⟩) rfl

set_option maxHeartbeats 1000000 in
set_option maxRecDepth 100000 in
theorem c_X7_triangle (l : Launch) (G : hQ) (I : hI) (J : hJ) (p q r : Int32) (n : Nat) (hn : I 2 0 = nI n) (h12 : n ≤ 12) (nt : Nat) (ht : I 8 1 = nI nt) (h10 : nt ≤ 10) : h_Mi l yX7_triangle wsX7_triangle 2 51 G [rr G 0, .int p, .int q, .int r] I J (fun ρ I' J' => (if isP I p ∧ isP I q ∧ isP I r ∧ ¬ p = q ∧ ¬ p = r ∧ ¬ q = r then (if turnC I 0 (tn p) (tn q) (tn r) = 0 ∨ turnC I 1 (tn p) (tn q) (tn r) = 0 then -4 else if nt < 10 then nI nt else -2) else -1) = ρ ∧ (if isP I p ∧ isP I q ∧ isP I r ∧ ¬ p = q ∧ ¬ p = r ∧ ¬ q = r then (if turnC I 0 (tn p) (tn q) (tn r) = 0 ∨ turnC I 1 (tn p) (tn q) (tn r) = 0 then I else if nt < 10 then addTr I nt p q r else I) else I) = I' ∧ J = J') := by
  refine h_Mi.of (ty := .int) (cc := cX7_triangle) (maxL := 5) [(0, rr G 0), (1, .int p), (2, .int q), (3, .int r)] (by decide +kernel) rfl (Nat.le_of_ble_eq_true rfl) rfl ?_
  intro Γ K ret
  have i_X7 : ∀ w ∈ u_ws RX7 TX7 7, w ∈ wsX7_triangle := by decide +kernel
  have i_X3 : ∀ w ∈ u_ws RX3 TX3 4, w ∈ wsX7_triangle := by decide +kernel
  refine x_aload_n (pc := 0) K 0 dX7_triangle_0 rfl rfl ?_
  refine x_getr (r0 := 1) (pc := 1) (index := 10) (C := RX7) (T := TX7) (N := 7) (j0 := 0) (ref := "OldMap") K (by decide) sh_0 rfl i_X7 (by decide) (by decide +kernel) rfl rfl rf_0_0 dX7_triangle_1 ?_
  refine x_getrN (r0 := 2) (pc := 4) (index := 21) (C := RX3) (T := TX3) (N := 4) (j0 := 0) (host := "OldMap") (ref := "OldMap$Table") K (by decide) sh_1 rfl i_X3 (by decide) (by decide +kernel) rfl rfl rf_1_0 dX7_triangle_4 ?_
  refine x_astore (pc := 7) (lo' := [(4, _), (0, _), (1, _), (2, _), (3, _)]) K dX7_triangle_7 (by decide) rfl ?_
  refine x_aload (pc := 9) K 0 dX7_triangle_9 rfl ?_
  refine x_iload_n (pc := 11) K 2 dX7_triangle_11 rfl rfl ?_
  refine x_calliN (pc := 12) (st := []) (n := 1) K (by decide) sh_2 rfl (c_X2_has l G _ _ _) (host := "OldMap") gX7_triangle_X2_has_n69 (by decide +kernel) (by decide +kernel) (by decide +kernel) (by decide +kernel) (by decide +kernel) rfl (by decide) (by decide) rfl rfl (Nat.le_of_ble_eq_true rfl) dX7_triangle_12 (fun r_12 I_12 J_12 hp_12 => ?_)
  obtain ⟨rfl, rfl, rfl⟩ := hp_12
  refine x_if_eq (pc := 15) (tgt := 51) K dX7_triangle_15 (by decide) (fun c_15 => ?_) (fun c_15 => ?_)
  · replace c_15 := bz_0.mp c_15
    refine x_iconst (pc := 51) (v := -1) K dX7_triangle_51 (by decide) ?_
    exact ret (pc := 52) dX7_triangle_52 (⟨if_neg (fun h => c_15 h.1), if_neg (fun h => c_15 h.1), rfl⟩) rfl
  · replace c_15 := bz_n0.mp c_15
    refine x_aload (pc := 18) K 0 dX7_triangle_18 rfl ?_
    refine x_iload_n (pc := 20) K 3 dX7_triangle_20 rfl rfl ?_
    refine x_calliN (pc := 21) (st := []) (n := 1) K (by decide) sh_2 rfl (c_X2_has l G _ _ _) (host := "OldMap") gX7_triangle_X2_has_n69 (by decide +kernel) (by decide +kernel) (by decide +kernel) (by decide +kernel) (by decide +kernel) rfl (by decide) (by decide) rfl rfl (Nat.le_of_ble_eq_true rfl) dX7_triangle_21 (fun r_21 I_21 J_21 hp_21 => ?_)
    obtain ⟨rfl, rfl, rfl⟩ := hp_21
    refine x_if_eq (pc := 24) (tgt := 51) K dX7_triangle_24 (by decide) (fun c_24 => ?_) (fun c_24 => ?_)
    · replace c_24 := bz_0.mp c_24
      refine x_iconst (pc := 51) (v := -1) K dX7_triangle_51 (by decide) ?_
      exact ret (pc := 52) dX7_triangle_52 (⟨if_neg (fun h => c_24 h.2.1), if_neg (fun h => c_24 h.2.1), rfl⟩) rfl
    · replace c_24 := bz_n0.mp c_24
      refine x_aload (pc := 27) K 0 dX7_triangle_27 rfl ?_
      refine x_iload_n (pc := 29) K 4 dX7_triangle_29 rfl rfl ?_
      refine x_calliN (pc := 30) (st := []) (n := 1) K (by decide) sh_2 rfl (c_X2_has l G _ _ _) (host := "OldMap") gX7_triangle_X2_has_n69 (by decide +kernel) (by decide +kernel) (by decide +kernel) (by decide +kernel) (by decide +kernel) rfl (by decide) (by decide) rfl rfl (Nat.le_of_ble_eq_true rfl) dX7_triangle_30 (fun r_30 I_30 J_30 hp_30 => ?_)
      obtain ⟨rfl, rfl, rfl⟩ := hp_30
      refine x_if_eq (pc := 33) (tgt := 51) K dX7_triangle_33 (by decide) (fun c_33 => ?_) (fun c_33 => ?_)
      · replace c_33 := bz_0.mp c_33
        refine x_iconst (pc := 51) (v := -1) K dX7_triangle_51 (by decide) ?_
        exact ret (pc := 52) dX7_triangle_52 (⟨if_neg (fun h => c_33 h.2.2.1), if_neg (fun h => c_33 h.2.2.1), rfl⟩) rfl
      · replace c_33 := bz_n0.mp c_33
        refine x_iload_n (pc := 36) K 2 dX7_triangle_36 rfl rfl ?_
        refine x_iload_n (pc := 37) K 3 dX7_triangle_37 rfl rfl ?_
        refine x_icmp_eq (pc := 38) (tgt := 51) K dX7_triangle_38 (by decide) (fun c_38 => ?_) (fun c_38 => ?_)
        · refine x_iconst (pc := 51) (v := -1) K dX7_triangle_51 (by decide) ?_
          exact ret (pc := 52) dX7_triangle_52 (⟨if_neg (fun h => h.2.2.2.1 c_38), if_neg (fun h => h.2.2.2.1 c_38), rfl⟩) rfl
        · refine x_iload_n (pc := 41) K 2 dX7_triangle_41 rfl rfl ?_
          refine x_iload_n (pc := 42) K 4 dX7_triangle_42 rfl rfl ?_
          refine x_icmp_eq (pc := 43) (tgt := 51) K dX7_triangle_43 (by decide) (fun c_43 => ?_) (fun c_43 => ?_)
          · refine x_iconst (pc := 51) (v := -1) K dX7_triangle_51 (by decide) ?_
            exact ret (pc := 52) dX7_triangle_52 (⟨if_neg (fun h => h.2.2.2.2.1 c_43), if_neg (fun h => h.2.2.2.2.1 c_43), rfl⟩) rfl
          · refine x_iload_n (pc := 46) K 3 dX7_triangle_46 rfl rfl ?_
            refine x_iload_n (pc := 47) K 4 dX7_triangle_47 rfl rfl ?_
            refine x_icmp_ne (pc := 48) (tgt := 53) K dX7_triangle_48 (by decide) (fun c_48 => ?_) (fun c_48 => ?_)
            · obtain ⟨a, hpa, rfl⟩ := has_of c_15 hn (by omega)
              obtain ⟨b, hpb, rfl⟩ := has_of c_24 hn (by omega)
              obtain ⟨c, hpc, rfl⟩ := has_of c_33 hn (by omega)
              refine x_aload (pc := 53) K 0 dX7_triangle_53 rfl ?_
              refine x_iconst (pc := 55) (v := 0) K dX7_triangle_55 (by decide) ?_
              refine x_iload_n (pc := 56) K 2 dX7_triangle_56 rfl rfl ?_
              refine x_iload_n (pc := 57) K 3 dX7_triangle_57 rfl rfl ?_
              refine x_iload_n (pc := 58) K 4 dX7_triangle_58 rfl rfl ?_
              refine x_calliN (pc := 59) (st := []) (n := 4) K (by decide) sh_2 rfl (c_X2_turn l G _ _ 0 a b c (by omega) (by omega) (by omega) (by omega)) (host := "OldMap") gX7_triangle_X2_turn_n160 (by decide +kernel) (by decide +kernel) (by decide +kernel) (by decide +kernel) (by decide +kernel) rfl (by decide) (by decide) rfl rfl (Nat.le_of_ble_eq_true rfl) dX7_triangle_59 (fun r_59 I_59 J_59 hp_59 => ?_)
              obtain ⟨rfl, rfl, rfl⟩ := hp_59
              refine x_if_eq (pc := 62) (tgt := 77) K dX7_triangle_62 (by decide) (fun c_62 => ?_) (fun c_62 => ?_)
              · refine x_bipush (pc := 77) (v := -4) K dX7_triangle_77 (by decide) ?_
                exact ret (pc := 79) dX7_triangle_79 (⟨by rw [if_pos ⟨c_15, c_24, c_33, c_38, c_43, c_48⟩, tn_n (by omega), tn_n (by omega), tn_n (by omega), if_pos (Or.inl c_62)], by rw [if_pos ⟨c_15, c_24, c_33, c_38, c_43, c_48⟩, tn_n (by omega), tn_n (by omega), tn_n (by omega), if_pos (Or.inl c_62)], rfl⟩) rfl
              · refine x_aload (pc := 65) K 0 dX7_triangle_65 rfl ?_
                refine x_iconst (pc := 67) (v := 1) K dX7_triangle_67 (by decide) ?_
                refine x_iload_n (pc := 68) K 2 dX7_triangle_68 rfl rfl ?_
                refine x_iload_n (pc := 69) K 3 dX7_triangle_69 rfl rfl ?_
                refine x_iload_n (pc := 70) K 4 dX7_triangle_70 rfl rfl ?_
                refine x_calliN (pc := 71) (st := []) (n := 4) K (by decide) sh_2 rfl (c_X2_turn l G _ _ 1 a b c (by omega) (by omega) (by omega) (by omega)) (host := "OldMap") gX7_triangle_X2_turn_n160 (by decide +kernel) (by decide +kernel) (by decide +kernel) (by decide +kernel) (by decide +kernel) rfl (by decide) (by decide) rfl rfl (Nat.le_of_ble_eq_true rfl) dX7_triangle_71 (fun r_71 I_71 J_71 hp_71 => ?_)
                obtain ⟨rfl, rfl, rfl⟩ := hp_71
                refine x_if_ne (pc := 74) (tgt := 80) K dX7_triangle_74 (by decide) (fun c_74 => ?_) (fun c_74 => ?_)
                · refine x_aload_n (pc := 80) K 1 dX7_triangle_80 rfl rfl ?_
                  refine x_getr (r0 := 1) (pc := 81) (index := 10) (C := RX7) (T := TX7) (N := 7) (j0 := 0) (ref := "OldMap") K (by decide) sh_0 rfl i_X7 (by decide) (by decide +kernel) rfl rfl rf_0_0 dX7_triangle_81 ?_
                  refine x_getrN (r0 := 8) (pc := 84) (index := 163) (C := RX3) (T := TX3) (N := 4) (j0 := 1) (host := "OldMap") (ref := "OldMap$Table") K (by decide) sh_1 rfl i_X3 (by decide) (by decide +kernel) rfl rfl rf_1_1 dX7_triangle_84 ?_
                  refine x_iload_n (pc := 87) K 2 dX7_triangle_87 rfl rfl ?_
                  refine x_iload_n (pc := 88) K 3 dX7_triangle_88 rfl rfl ?_
                  refine x_iload_n (pc := 89) K 4 dX7_triangle_89 rfl rfl ?_
                  refine x_calliN (pc := 90) (st := []) (n := 3) K (by decide) sh_8 rfl (c_X5_add l G _ _ nt _ _ _ ht h10) (host := "OldMap") gX7_triangle_X5_add_n167 (by decide +kernel) (by decide +kernel) (by decide +kernel) (by decide +kernel) (by decide +kernel) rfl (by decide) (by decide) rfl rfl (Nat.le_of_ble_eq_true rfl) dX7_triangle_90 (fun r_90 I_90 J_90 hp_90 => ?_)
                  obtain ⟨rfl, rfl, rfl⟩ := hp_90
                  exact ret (pc := 93) dX7_triangle_93 (⟨by rw [if_pos ⟨c_15, c_24, c_33, c_38, c_43, c_48⟩, tn_n (by omega), tn_n (by omega), tn_n (by omega), if_neg (not_or.mpr ⟨c_62, c_74⟩)], by rw [if_pos ⟨c_15, c_24, c_33, c_38, c_43, c_48⟩, tn_n (by omega), tn_n (by omega), tn_n (by omega), if_neg (not_or.mpr ⟨c_62, c_74⟩)], rfl⟩) rfl
                · refine x_bipush (pc := 77) (v := -4) K dX7_triangle_77 (by decide) ?_
                  exact ret (pc := 79) dX7_triangle_79 (⟨by rw [if_pos ⟨c_15, c_24, c_33, c_38, c_43, c_48⟩, tn_n (by omega), tn_n (by omega), tn_n (by omega), if_pos (Or.inr c_74)], by rw [if_pos ⟨c_15, c_24, c_33, c_38, c_43, c_48⟩, tn_n (by omega), tn_n (by omega), tn_n (by omega), if_pos (Or.inr c_74)], rfl⟩) rfl
            · refine x_iconst (pc := 51) (v := -1) K dX7_triangle_51 (by decide) ?_
              exact ret (pc := 52) dX7_triangle_52 (⟨if_neg (fun h => h.2.2.2.2.2 c_48), if_neg (fun h => h.2.2.2.2.2 c_48), rfl⟩) rfl

set_option maxHeartbeats 1000000 in
set_option maxRecDepth 100000 in
theorem c_X7_state (l : Launch) (G : hQ) (I : hI) (J : hJ) (t : Int32) (nt : Nat) (ht : I 8 1 = nI nt) (h10 : nt ≤ 10) (hA : ∀ t, t < nt → TOk I t) : h_Mi l yX7_state wsX7_state 4 97 G [rr G 0, .int t] I J (fun ρ I' J' => (if isT I t then (if fl I (tn t) then 2 else if ov I (tn t) then 1 else 0) else -1) = ρ ∧ I = I' ∧ J = J') := by
  refine h_Mi.of (ty := .int) (cc := cX7_state) (maxL := 3) [(0, rr G 0), (1, .int t)] (by decide +kernel) rfl (Nat.le_of_ble_eq_true rfl) rfl ?_
  intro Γ K ret
  have i_X7 : ∀ w ∈ u_ws RX7 TX7 7, w ∈ wsX7_state := by decide +kernel
  have i_X3 : ∀ w ∈ u_ws RX3 TX3 4, w ∈ wsX7_state := by decide +kernel
  refine x_aload_n (pc := 0) K 0 dX7_state_0 rfl rfl ?_
  refine x_getr (r0 := 1) (pc := 1) (index := 10) (C := RX7) (T := TX7) (N := 7) (j0 := 0) (ref := "OldMap") K (by decide) sh_0 rfl i_X7 (by decide) (by decide +kernel) rfl rfl rf_0_0 dX7_state_1 ?_
  refine x_getrN (r0 := 8) (pc := 4) (index := 163) (C := RX3) (T := TX3) (N := 4) (j0 := 1) (host := "OldMap") (ref := "OldMap$Table") K (by decide) sh_1 rfl i_X3 (by decide) (by decide +kernel) rfl rfl rf_1_1 dX7_state_4 ?_
  refine x_astore_n (pc := 7) (lo' := [(2, _), (0, _), (1, _)]) K dX7_state_7 rfl (by decide) rfl ?_
  refine x_aload_n (pc := 8) K 0 dX7_state_8 rfl rfl ?_
  refine x_iload_n (pc := 9) K 2 dX7_state_9 rfl rfl ?_
  refine x_calliN (pc := 10) (st := []) (n := 1) K (by decide) sh_8 rfl (c_X5_has l G _ _ _) (host := "OldMap") gX7_state_X5_has_n172 (by decide +kernel) (by decide +kernel) (by decide +kernel) (by decide +kernel) (by decide +kernel) rfl (by decide) (by decide) rfl rfl (Nat.le_of_ble_eq_true rfl) dX7_state_10 (fun r_10 I_10 J_10 hp_10 => ?_)
  obtain ⟨rfl, rfl, rfl⟩ := hp_10
  refine x_if_ne (pc := 13) (tgt := 18) K dX7_state_13 (by decide) (fun c_13 => ?_) (fun c_13 => ?_)
  · replace c_13 := bz_n0.mp c_13
    obtain ⟨t, ht, rfl⟩ := has_of c_13 ht (by omega)
    refine x_aload_n (pc := 18) K 0 dX7_state_18 rfl rfl ?_
    refine x_iload_n (pc := 19) K 2 dX7_state_19 rfl rfl ?_
    refine x_calliN (pc := 20) (st := []) (n := 1) K (by decide) sh_8 rfl (c_X5_isFlat l G _ _ t (hA t ht)) (host := "OldMap") gX7_state_X5_isFlat_n173 (by decide +kernel) (by decide +kernel) (by decide +kernel) (by decide +kernel) (by decide +kernel) rfl (by decide) (by decide) rfl rfl (Nat.le_of_ble_eq_true rfl) dX7_state_20 (fun r_20 I_20 J_20 hp_20 => ?_)
    obtain ⟨rfl, rfl, rfl⟩ := hp_20
    refine x_if_eq (pc := 23) (tgt := 28) K dX7_state_23 (by decide) (fun c_23 => ?_) (fun c_23 => ?_)
    · replace c_23 := bz_0.mp c_23
      refine x_aload_n (pc := 28) K 0 dX7_state_28 rfl rfl ?_
      refine x_iload_n (pc := 29) K 2 dX7_state_29 rfl rfl ?_
      refine x_calliN (pc := 30) (st := []) (n := 1) K (by decide) sh_8 rfl (c_X5_isOver l G _ _ t (hA t ht)) (host := "OldMap") gX7_state_X5_isOver_n176 (by decide +kernel) (by decide +kernel) (by decide +kernel) (by decide +kernel) (by decide +kernel) rfl (by decide) (by decide) rfl rfl (Nat.le_of_ble_eq_true rfl) dX7_state_30 (fun r_30 I_30 J_30 hp_30 => ?_)
      obtain ⟨rfl, rfl, rfl⟩ := hp_30
      refine x_if_eq (pc := 33) (tgt := 40) K dX7_state_33 (by decide) (fun c_33 => ?_) (fun c_33 => ?_)
      · replace c_33 := bz_0.mp c_33
        refine x_iconst (pc := 40) (v := 0) K dX7_state_40 (by decide) ?_
        exact ret (pc := 41) dX7_state_41 (⟨by rw [if_pos c_13, tn_n (by omega), if_neg c_23, if_neg c_33], rfl, rfl⟩) rfl
      · replace c_33 := bz_n0.mp c_33
        refine x_iconst (pc := 36) (v := 1) K dX7_state_36 (by decide) ?_
        refine x_goto (pc := 37) (tgt := 41) K dX7_state_37 (by decide) ?_
        exact ret (pc := 41) dX7_state_41 (⟨by rw [if_pos c_13, tn_n (by omega), if_neg c_23, if_pos c_33], rfl, rfl⟩) rfl
    · replace c_23 := bz_n0.mp c_23
      refine x_iconst (pc := 26) (v := 2) K dX7_state_26 (by decide) ?_
      exact ret (pc := 27) dX7_state_27 (⟨by rw [if_pos c_13, tn_n (by omega), if_pos c_23], rfl, rfl⟩) rfl
  · replace c_13 := bz_0.mp c_13
    refine x_iconst (pc := 16) (v := -1) K dX7_state_16 (by decide) ?_
    exact ret (pc := 17) dX7_state_17 (⟨if_neg c_13, rfl, rfl⟩) rfl

set_option maxHeartbeats 1000000 in
set_option maxRecDepth 100000 in
theorem c_X7_within (l : Launch) (G : hQ) (I : hI) (J : hJ) (m x y : Int32) (nt : Nat) (ht : I 8 1 = nI nt) (h10 : nt ≤ 10) (hA : ∀ t, t < nt → TOk I t) : h_Mi l yX7_within wsX7_within 5 125 G [rr G 0, .int m, .int x, .int y] I J (fun ρ I' J' => (if isMp m ∧ Pl x y then fstI (fun t => ¬ fl I t ∧ hol I t (tn m) x y) 0 nt else -1) = ρ ∧ I = I' ∧ J = J') := by
  refine h_Mi.of (ty := .int) (cc := cX7_within) (maxL := 4) [(0, rr G 0), (1, .int m), (2, .int x), (3, .int y)] (by decide +kernel) rfl (Nat.le_of_ble_eq_true rfl) rfl ?_
  intro Γ K ret
  have i_X7 : ∀ w ∈ u_ws RX7 TX7 7, w ∈ wsX7_within := by decide +kernel
  have i_X3 : ∀ w ∈ u_ws RX3 TX3 4, w ∈ wsX7_within := by decide +kernel
  refine x_iload_n (pc := 0) K 1 dX7_within_0 rfl rfl ?_
  refine x_calliS (pc := 1) (st := []) (n := 1) K (c_X7_isMap l G _ _ _) gX7_within_X7_isMap (by decide +kernel) rfl (by decide) (by decide) rfl rfl (Nat.le_of_ble_eq_true rfl) dX7_within_1 (fun r_1 I_1 J_1 hp_1 => ?_)
  obtain ⟨rfl, rfl, rfl⟩ := hp_1
  refine x_if_eq (pc := 4) (tgt := 15) K dX7_within_4 (by decide) (fun c_4 => ?_) (fun c_4 => ?_)
  · replace c_4 := bz_0.mp c_4
    refine x_iconst (pc := 15) (v := -1) K dX7_within_15 (by decide) ?_
    exact ret (pc := 16) dX7_within_16 (⟨if_neg (fun h => c_4 h.1), rfl, rfl⟩) rfl
  · replace c_4 := bz_n0.mp c_4
    obtain ⟨mp, hmp, rfl⟩ := mp_of c_4
    refine x_iload_n (pc := 7) K 2 dX7_within_7 rfl rfl ?_
    refine x_iload_n (pc := 8) K 3 dX7_within_8 rfl rfl ?_
    refine x_calliS (pc := 9) (st := []) (n := 2) K (c_X7_isPlace l G _ _ _ _) gX7_within_X7_isPlace (by decide +kernel) rfl (by decide) (by decide) rfl rfl (Nat.le_of_ble_eq_true rfl) dX7_within_9 (fun r_9 I_9 J_9 hp_9 => ?_)
    obtain ⟨rfl, rfl, rfl⟩ := hp_9
    refine x_if_ne (pc := 12) (tgt := 17) K dX7_within_12 (by decide) (fun c_12 => ?_) (fun c_12 => ?_)
    · replace c_12 := bz_n0.mp c_12
      refine x_aload_n (pc := 17) K 0 dX7_within_17 rfl rfl ?_
      refine x_getr (r0 := 1) (pc := 18) (index := 10) (C := RX7) (T := TX7) (N := 7) (j0 := 0) (ref := "OldMap") K (by decide) sh_0 rfl i_X7 (by decide) (by decide +kernel) rfl rfl rf_0_0 dX7_within_18 ?_
      refine x_getrN (r0 := 8) (pc := 21) (index := 163) (C := RX3) (T := TX3) (N := 4) (j0 := 1) (host := "OldMap") (ref := "OldMap$Table") K (by decide) sh_1 rfl i_X3 (by decide) (by decide +kernel) rfl rfl rf_1_1 dX7_within_21 ?_
      refine x_iload_n (pc := 24) K 1 dX7_within_24 rfl rfl ?_
      refine x_iload_n (pc := 25) K 2 dX7_within_25 rfl rfl ?_
      refine x_iload_n (pc := 26) K 3 dX7_within_26 rfl rfl ?_
      refine x_calliN (pc := 27) (st := []) (n := 3) K (by decide) sh_8 rfl (c_X5_firstAround l G _ _ mp _ _ (by omega) nt ht h10 hA) (host := "OldMap") gX7_within_X5_firstAround_n179 (by decide +kernel) (by decide +kernel) (by decide +kernel) (by decide +kernel) (by decide +kernel) rfl (by decide) (by decide) rfl rfl (Nat.le_of_ble_eq_true rfl) dX7_within_27 (fun r_27 I_27 J_27 hp_27 => ?_)
      obtain ⟨rfl, rfl, rfl⟩ := hp_27
      exact ret (pc := 30) dX7_within_30 (⟨by rw [if_pos ⟨c_4, c_12⟩, tn_n (by omega)], rfl, rfl⟩) rfl
    · replace c_12 := bz_0.mp c_12
      refine x_iconst (pc := 15) (v := -1) K dX7_within_15 (by decide) ?_
      exact ret (pc := 16) dX7_within_16 (⟨if_neg (fun h => c_12 h.2), rfl, rfl⟩) rfl

set_option maxHeartbeats 1000000 in
set_option maxRecDepth 100000 in
theorem c_X7_carried (l : Launch) (G : hQ) (I : hI) (J : hJ) (t m x y w : Int32) (nt : Nat) (ht : I 8 1 = nI nt) (h10 : nt ≤ 10) (hA : ∀ t, t < nt → TOk I t) : h_Ml l yX7_carried wsX7_carried 4 107 G [rr G 0, .int t, .int m, .int x, .int y, .int w] I J (fun ρ I' J' => (if isT I t ∧ isMp m ∧ Pl x y ∧ isPt w ∧ ¬ fl I (tn t) then clr (bent I (tn t) (tn m) (tn w / 2) x y) (tT I (tn t) (tn m)).toInt64 (nI (tn w % 2)) else -4000000000000000000) = ρ ∧ I = I' ∧ J = J') := by
  refine h_Ml.of (cc := cX7_carried) (maxL := 9) [(0, rr G 0), (1, .int t), (2, .int m), (3, .int x), (4, .int y), (5, .int w)] (by decide +kernel) rfl (Nat.le_of_ble_eq_true rfl) rfl ?_
  intro Γ K ret
  have i_X7 : ∀ w ∈ u_ws RX7 TX7 7, w ∈ wsX7_carried := by decide +kernel
  have i_X3 : ∀ w ∈ u_ws RX3 TX3 4, w ∈ wsX7_carried := by decide +kernel
  refine x_aload_n (pc := 0) K 0 dX7_carried_0 rfl rfl ?_
  refine x_getr (r0 := 1) (pc := 1) (index := 10) (C := RX7) (T := TX7) (N := 7) (j0 := 0) (ref := "OldMap") K (by decide) sh_0 rfl i_X7 (by decide) (by decide +kernel) rfl rfl rf_0_0 dX7_carried_1 ?_
  refine x_getrN (r0 := 8) (pc := 4) (index := 163) (C := RX3) (T := TX3) (N := 4) (j0 := 1) (host := "OldMap") (ref := "OldMap$Table") K (by decide) sh_1 rfl i_X3 (by decide) (by decide +kernel) rfl rfl rf_1_1 dX7_carried_4 ?_
  refine x_astore (pc := 7) (lo' := [(6, _), (0, _), (1, _), (2, _), (3, _), (4, _), (5, _)]) K dX7_carried_7 (by decide) rfl ?_
  refine x_aload (pc := 9) K 0 dX7_carried_9 rfl ?_
  refine x_iload_n (pc := 11) K 2 dX7_carried_11 rfl rfl ?_
  refine x_calliN (pc := 12) (st := []) (n := 1) K (by decide) sh_8 rfl (c_X5_has l G _ _ _) (host := "OldMap") gX7_carried_X5_has_n172 (by decide +kernel) (by decide +kernel) (by decide +kernel) (by decide +kernel) (by decide +kernel) rfl (by decide) (by decide) rfl rfl (Nat.le_of_ble_eq_true rfl) dX7_carried_12 (fun r_12 I_12 J_12 hp_12 => ?_)
  obtain ⟨rfl, rfl, rfl⟩ := hp_12
  refine x_if_eq (pc := 15) (tgt := 51) K dX7_carried_15 (by decide) (fun c_15 => ?_) (fun c_15 => ?_)
  · replace c_15 := bz_0.mp c_15
    refine x_ldc2_w (pc := 51) (v := (-4000000000000000000)) K (by decide +kernel) dX7_carried_51 ?_
    exact ret (pc := 54) dX7_carried_54 (⟨if_neg (fun h => c_15 h.1), rfl, rfl⟩)
  · replace c_15 := bz_n0.mp c_15
    obtain ⟨t, ht, rfl⟩ := has_of c_15 ht (by omega)
    refine x_iload_n (pc := 18) K 3 dX7_carried_18 rfl rfl ?_
    refine x_calliS (pc := 19) (st := []) (n := 1) K (c_X7_isMap l G _ _ _) gX7_carried_X7_isMap (by decide +kernel) rfl (by decide) (by decide) rfl rfl (Nat.le_of_ble_eq_true rfl) dX7_carried_19 (fun r_19 I_19 J_19 hp_19 => ?_)
    obtain ⟨rfl, rfl, rfl⟩ := hp_19
    refine x_if_eq (pc := 22) (tgt := 51) K dX7_carried_22 (by decide) (fun c_22 => ?_) (fun c_22 => ?_)
    · replace c_22 := bz_0.mp c_22
      refine x_ldc2_w (pc := 51) (v := (-4000000000000000000)) K (by decide +kernel) dX7_carried_51 ?_
      exact ret (pc := 54) dX7_carried_54 (⟨if_neg (fun h => c_22 h.2.1), rfl, rfl⟩)
    · replace c_22 := bz_n0.mp c_22
      obtain ⟨mp, hmp, rfl⟩ := mp_of c_22
      refine x_iload_n (pc := 25) K 4 dX7_carried_25 rfl rfl ?_
      refine x_iload (pc := 26) K 5 dX7_carried_26 rfl ?_
      refine x_calliS (pc := 28) (st := []) (n := 2) K (c_X7_isPlace l G _ _ _ _) gX7_carried_X7_isPlace (by decide +kernel) rfl (by decide) (by decide) rfl rfl (Nat.le_of_ble_eq_true rfl) dX7_carried_28 (fun r_28 I_28 J_28 hp_28 => ?_)
      obtain ⟨rfl, rfl, rfl⟩ := hp_28
      refine x_if_eq (pc := 31) (tgt := 51) K dX7_carried_31 (by decide) (fun c_31 => ?_) (fun c_31 => ?_)
      · replace c_31 := bz_0.mp c_31
        refine x_ldc2_w (pc := 51) (v := (-4000000000000000000)) K (by decide +kernel) dX7_carried_51 ?_
        exact ret (pc := 54) dX7_carried_54 (⟨if_neg (fun h => c_31 h.2.2.1), rfl, rfl⟩)
      · replace c_31 := bz_n0.mp c_31
        refine x_iload (pc := 34) K 6 dX7_carried_34 rfl ?_
        refine x_calliS (pc := 36) (st := []) (n := 1) K (c_X7_isPartOfTwo l G _ _ _) gX7_carried_X7_isPartOfTwo (by decide +kernel) rfl (by decide) (by decide) rfl rfl (Nat.le_of_ble_eq_true rfl) dX7_carried_36 (fun r_36 I_36 J_36 hp_36 => ?_)
        obtain ⟨rfl, rfl, rfl⟩ := hp_36
        refine x_if_eq (pc := 39) (tgt := 51) K dX7_carried_39 (by decide) (fun c_39 => ?_) (fun c_39 => ?_)
        · replace c_39 := bz_0.mp c_39
          refine x_ldc2_w (pc := 51) (v := (-4000000000000000000)) K (by decide +kernel) dX7_carried_51 ?_
          exact ret (pc := 54) dX7_carried_54 (⟨if_neg (fun h => c_39 h.2.2.2.1), rfl, rfl⟩)
        · replace c_39 := bz_n0.mp c_39
          obtain ⟨v, hv, rfl⟩ := pt_of c_39
          refine x_aload (pc := 42) K 0 dX7_carried_42 rfl ?_
          refine x_iload_n (pc := 44) K 2 dX7_carried_44 rfl rfl ?_
          refine x_calliN (pc := 45) (st := []) (n := 1) K (by decide) sh_8 rfl (c_X5_isFlat l G _ _ t (hA t ht)) (host := "OldMap") gX7_carried_X5_isFlat_n173 (by decide +kernel) (by decide +kernel) (by decide +kernel) (by decide +kernel) (by decide +kernel) rfl (by decide) (by decide) rfl rfl (Nat.le_of_ble_eq_true rfl) dX7_carried_45 (fun r_45 I_45 J_45 hp_45 => ?_)
          obtain ⟨rfl, rfl, rfl⟩ := hp_45
          refine x_if_eq (pc := 48) (tgt := 55) K dX7_carried_48 (by decide) (fun c_48 => ?_) (fun c_48 => ?_)
          · replace c_48 := bz_0.mp c_48
            refine x_aload (pc := 55) K 0 dX7_carried_55 rfl ?_
            refine x_iload_n (pc := 57) K 2 dX7_carried_57 rfl rfl ?_
            refine x_iload_n (pc := 58) K 3 dX7_carried_58 rfl rfl ?_
            refine x_iload_n (pc := 59) K 4 dX7_carried_59 rfl rfl ?_
            refine x_iload (pc := 60) K 5 dX7_carried_60 rfl ?_
            refine x_iload (pc := 62) K 6 dX7_carried_62 rfl ?_
            refine x_iconst (pc := 64) (v := 2) K dX7_carried_64 (by decide) ?_
            refine x_idiv (pc := 65) K dX7_carried_65 (by decide) ?_
            refine x_topie (nI (v / 2)) (nI_div (by omega) (by decide)) ?_
            refine x_calllN (pc := 66) (st := []) (n := 5) K (by decide) sh_8 rfl (c_X5_bentAbove l G _ _ t mp (v / 2) _ _ (hA t ht) (by omega) (by omega)) (host := "OldMap") gX7_carried_X5_bentAbove_n182 (by decide +kernel) (by decide +kernel) (by decide +kernel) (by decide +kernel) (by decide +kernel) rfl (by decide) (by decide) rfl rfl (Nat.le_of_ble_eq_true rfl) dX7_carried_66 (fun r_66 I_66 J_66 hp_66 => ?_)
            obtain ⟨rfl, rfl, rfl⟩ := hp_66
            refine x_lstore (pc := 69) (lo' := [(7, _), (6, _), (0, _), (1, _), (2, _), (3, _), (4, _), (5, _)]) K dX7_carried_69 (by decide) rfl ?_
            refine x_lload (pc := 71) K 0 dX7_carried_71 rfl ?_
            refine x_aload (pc := 73) K 1 dX7_carried_73 rfl ?_
            refine x_iload_n (pc := 75) K 3 dX7_carried_75 rfl rfl ?_
            refine x_iload_n (pc := 76) K 4 dX7_carried_76 rfl rfl ?_
            refine x_calliN (pc := 77) (st := [_]) (n := 2) K (by decide) sh_8 rfl (c_X5_turn l G _ _ t mp (hA t ht) (by omega)) (host := "OldMap") gX7_carried_X5_turn_n186 (by decide +kernel) (by decide +kernel) (by decide +kernel) (by decide +kernel) (by decide +kernel) rfl (by decide) (by decide) rfl rfl (Nat.le_of_ble_eq_true rfl) dX7_carried_77 (fun r_77 I_77 J_77 hp_77 => ?_)
            obtain ⟨rfl, rfl, rfl⟩ := hp_77
            refine x_i2l (pc := 80) K dX7_carried_80 ?_
            refine x_iload (pc := 81) K 7 dX7_carried_81 rfl ?_
            refine x_iconst (pc := 83) (v := 2) K dX7_carried_83 (by decide) ?_
            refine x_irem (pc := 84) K dX7_carried_84 (by decide) ?_
            refine x_topie (nI (v % 2)) (nI_remE rfl rfl (by omega) (by decide)) ?_
            refine x_calllS (pc := 85) (st := []) (n := 3) K (c_X7_cleared l G _ _ _ _ _) gX7_carried_X7_cleared (by decide +kernel) rfl (by decide) (by decide) rfl rfl (Nat.le_of_ble_eq_true rfl) dX7_carried_85 (fun r_85 I_85 J_85 hp_85 => ?_)
            obtain ⟨rfl, rfl, rfl⟩ := hp_85
            exact ret (pc := 88) dX7_carried_88 (⟨by rw [if_pos ⟨c_15, c_22, c_31, c_39, by rw [tn_n (by omega)]; exact c_48⟩, tn_n (by omega), tn_n (by omega), tn_n (by omega)], rfl, rfl⟩)
          · replace c_48 := bz_n0.mp c_48
            refine x_ldc2_w (pc := 51) (v := (-4000000000000000000)) K (by decide +kernel) dX7_carried_51 ?_
            exact ret (pc := 54) dX7_carried_54 (⟨if_neg (fun h => h.2.2.2.2 (by rw [tn_n (by omega)]; exact c_48)), rfl, rfl⟩)

set_option maxHeartbeats 1000000 in
set_option maxRecDepth 100000 in
theorem c_X7_meet (l : Launch) (G : hQ) (I : hI) (J : hJ) (t u m : Int32) (nt : Nat) (ht : I 8 1 = nI nt) (h10 : nt ≤ 10) (hA : ∀ t, t < nt → TOk I t) : h_Mi l yX7_meet wsX7_meet 5 136 G [rr G 0, .int t, .int u, .int m] I J (fun ρ I' J' => (if isT I t ∧ isT I u ∧ isMp m ∧ ¬ t = u then (if fl I (tn t) ∨ fl I (tn u) then -4 else if ovl I (tn t) (tn u) (tn m) then 1 else 0) else -1) = ρ ∧ I = I' ∧ J = J') := by
  refine h_Mi.of (ty := .int) (cc := cX7_meet) (maxL := 5) [(0, rr G 0), (1, .int t), (2, .int u), (3, .int m)] (by decide +kernel) rfl (Nat.le_of_ble_eq_true rfl) rfl ?_
  intro Γ K ret
  have i_X7 : ∀ w ∈ u_ws RX7 TX7 7, w ∈ wsX7_meet := by decide +kernel
  have i_X3 : ∀ w ∈ u_ws RX3 TX3 4, w ∈ wsX7_meet := by decide +kernel
  refine x_aload_n (pc := 0) K 0 dX7_meet_0 rfl rfl ?_
  refine x_getr (r0 := 1) (pc := 1) (index := 10) (C := RX7) (T := TX7) (N := 7) (j0 := 0) (ref := "OldMap") K (by decide) sh_0 rfl i_X7 (by decide) (by decide +kernel) rfl rfl rf_0_0 dX7_meet_1 ?_
  refine x_getrN (r0 := 8) (pc := 4) (index := 163) (C := RX3) (T := TX3) (N := 4) (j0 := 1) (host := "OldMap") (ref := "OldMap$Table") K (by decide) sh_1 rfl i_X3 (by decide) (by decide +kernel) rfl rfl rf_1_1 dX7_meet_4 ?_
  refine x_astore (pc := 7) (lo' := [(4, _), (0, _), (1, _), (2, _), (3, _)]) K dX7_meet_7 (by decide) rfl ?_
  refine x_aload (pc := 9) K 0 dX7_meet_9 rfl ?_
  refine x_iload_n (pc := 11) K 2 dX7_meet_11 rfl rfl ?_
  refine x_calliN (pc := 12) (st := []) (n := 1) K (by decide) sh_8 rfl (c_X5_has l G _ _ _) (host := "OldMap") gX7_meet_X5_has_n172 (by decide +kernel) (by decide +kernel) (by decide +kernel) (by decide +kernel) (by decide +kernel) rfl (by decide) (by decide) rfl rfl (Nat.le_of_ble_eq_true rfl) dX7_meet_12 (fun r_12 I_12 J_12 hp_12 => ?_)
  obtain ⟨rfl, rfl, rfl⟩ := hp_12
  refine x_if_eq (pc := 15) (tgt := 39) K dX7_meet_15 (by decide) (fun c_15 => ?_) (fun c_15 => ?_)
  · replace c_15 := bz_0.mp c_15
    refine x_iconst (pc := 39) (v := -1) K dX7_meet_39 (by decide) ?_
    exact ret (pc := 40) dX7_meet_40 (⟨if_neg (fun h => c_15 h.1), rfl, rfl⟩) rfl
  · replace c_15 := bz_n0.mp c_15
    refine x_aload (pc := 18) K 0 dX7_meet_18 rfl ?_
    refine x_iload_n (pc := 20) K 3 dX7_meet_20 rfl rfl ?_
    refine x_calliN (pc := 21) (st := []) (n := 1) K (by decide) sh_8 rfl (c_X5_has l G _ _ _) (host := "OldMap") gX7_meet_X5_has_n172 (by decide +kernel) (by decide +kernel) (by decide +kernel) (by decide +kernel) (by decide +kernel) rfl (by decide) (by decide) rfl rfl (Nat.le_of_ble_eq_true rfl) dX7_meet_21 (fun r_21 I_21 J_21 hp_21 => ?_)
    obtain ⟨rfl, rfl, rfl⟩ := hp_21
    refine x_if_eq (pc := 24) (tgt := 39) K dX7_meet_24 (by decide) (fun c_24 => ?_) (fun c_24 => ?_)
    · replace c_24 := bz_0.mp c_24
      refine x_iconst (pc := 39) (v := -1) K dX7_meet_39 (by decide) ?_
      exact ret (pc := 40) dX7_meet_40 (⟨if_neg (fun h => c_24 h.2.1), rfl, rfl⟩) rfl
    · replace c_24 := bz_n0.mp c_24
      refine x_iload_n (pc := 27) K 4 dX7_meet_27 rfl rfl ?_
      refine x_calliS (pc := 28) (st := []) (n := 1) K (c_X7_isMap l G _ _ _) gX7_meet_X7_isMap (by decide +kernel) rfl (by decide) (by decide) rfl rfl (Nat.le_of_ble_eq_true rfl) dX7_meet_28 (fun r_28 I_28 J_28 hp_28 => ?_)
      obtain ⟨rfl, rfl, rfl⟩ := hp_28
      refine x_if_eq (pc := 31) (tgt := 39) K dX7_meet_31 (by decide) (fun c_31 => ?_) (fun c_31 => ?_)
      · replace c_31 := bz_0.mp c_31
        refine x_iconst (pc := 39) (v := -1) K dX7_meet_39 (by decide) ?_
        exact ret (pc := 40) dX7_meet_40 (⟨if_neg (fun h => c_31 h.2.2.1), rfl, rfl⟩) rfl
      · replace c_31 := bz_n0.mp c_31
        refine x_iload_n (pc := 34) K 2 dX7_meet_34 rfl rfl ?_
        refine x_iload_n (pc := 35) K 3 dX7_meet_35 rfl rfl ?_
        refine x_icmp_ne (pc := 36) (tgt := 41) K dX7_meet_36 (by decide) (fun c_36 => ?_) (fun c_36 => ?_)
        · obtain ⟨a, ha, rfl⟩ := has_of c_15 ht (by omega)
          obtain ⟨b, hb, rfl⟩ := has_of c_24 ht (by omega)
          obtain ⟨mp, hmp, rfl⟩ := mp_of c_31
          refine x_aload (pc := 41) K 0 dX7_meet_41 rfl ?_
          refine x_iload_n (pc := 43) K 2 dX7_meet_43 rfl rfl ?_
          refine x_calliN (pc := 44) (st := []) (n := 1) K (by decide) sh_8 rfl (c_X5_isFlat l G _ _ a (hA a ha)) (host := "OldMap") gX7_meet_X5_isFlat_n173 (by decide +kernel) (by decide +kernel) (by decide +kernel) (by decide +kernel) (by decide +kernel) rfl (by decide) (by decide) rfl rfl (Nat.le_of_ble_eq_true rfl) dX7_meet_44 (fun r_44 I_44 J_44 hp_44 => ?_)
          obtain ⟨rfl, rfl, rfl⟩ := hp_44
          refine x_if_ne (pc := 47) (tgt := 59) K dX7_meet_47 (by decide) (fun c_47 => ?_) (fun c_47 => ?_)
          · replace c_47 := bz_n0.mp c_47
            refine x_bipush (pc := 59) (v := -4) K dX7_meet_59 (by decide) ?_
            exact ret (pc := 61) dX7_meet_61 (⟨by rw [if_pos ⟨c_15, c_24, c_31, c_36⟩, tn_n (by omega), tn_n (by omega), tn_n (by omega), if_pos (Or.inl c_47)], rfl, rfl⟩) rfl
          · replace c_47 := bz_0.mp c_47
            refine x_aload (pc := 50) K 0 dX7_meet_50 rfl ?_
            refine x_iload_n (pc := 52) K 3 dX7_meet_52 rfl rfl ?_
            refine x_calliN (pc := 53) (st := []) (n := 1) K (by decide) sh_8 rfl (c_X5_isFlat l G _ _ b (hA b hb)) (host := "OldMap") gX7_meet_X5_isFlat_n173 (by decide +kernel) (by decide +kernel) (by decide +kernel) (by decide +kernel) (by decide +kernel) rfl (by decide) (by decide) rfl rfl (Nat.le_of_ble_eq_true rfl) dX7_meet_53 (fun r_53 I_53 J_53 hp_53 => ?_)
            obtain ⟨rfl, rfl, rfl⟩ := hp_53
            refine x_if_eq (pc := 56) (tgt := 62) K dX7_meet_56 (by decide) (fun c_56 => ?_) (fun c_56 => ?_)
            · replace c_56 := bz_0.mp c_56
              refine x_aload (pc := 62) K 0 dX7_meet_62 rfl ?_
              refine x_iload_n (pc := 64) K 2 dX7_meet_64 rfl rfl ?_
              refine x_iload_n (pc := 65) K 3 dX7_meet_65 rfl rfl ?_
              refine x_iload_n (pc := 66) K 4 dX7_meet_66 rfl rfl ?_
              refine x_calliN (pc := 67) (st := []) (n := 3) K (by decide) sh_8 rfl (c_X5_overlap l G _ _ a b mp (hA a ha) (hA b hb) (by omega)) (host := "OldMap") gX7_meet_X5_overlap_n189 (by decide +kernel) (by decide +kernel) (by decide +kernel) (by decide +kernel) (by decide +kernel) rfl (by decide) (by decide) rfl rfl (Nat.le_of_ble_eq_true rfl) dX7_meet_67 (fun r_67 I_67 J_67 hp_67 => ?_)
              obtain ⟨rfl, rfl, rfl⟩ := hp_67
              refine x_if_eq (pc := 70) (tgt := 77) K dX7_meet_70 (by decide) (fun c_70 => ?_) (fun c_70 => ?_)
              · replace c_70 := bz_0.mp c_70
                refine x_iconst (pc := 77) (v := 0) K dX7_meet_77 (by decide) ?_
                exact ret (pc := 78) dX7_meet_78 (⟨by rw [if_pos ⟨c_15, c_24, c_31, c_36⟩, tn_n (by omega), tn_n (by omega), tn_n (by omega), if_neg (not_or.mpr ⟨c_47, c_56⟩), if_neg c_70], rfl, rfl⟩) rfl
              · replace c_70 := bz_n0.mp c_70
                refine x_iconst (pc := 73) (v := 1) K dX7_meet_73 (by decide) ?_
                refine x_goto (pc := 74) (tgt := 78) K dX7_meet_74 (by decide) ?_
                exact ret (pc := 78) dX7_meet_78 (⟨by rw [if_pos ⟨c_15, c_24, c_31, c_36⟩, tn_n (by omega), tn_n (by omega), tn_n (by omega), if_neg (not_or.mpr ⟨c_47, c_56⟩), if_pos c_70], rfl, rfl⟩) rfl
            · replace c_56 := bz_n0.mp c_56
              refine x_bipush (pc := 59) (v := -4) K dX7_meet_59 (by decide) ?_
              exact ret (pc := 61) dX7_meet_61 (⟨by rw [if_pos ⟨c_15, c_24, c_31, c_36⟩, tn_n (by omega), tn_n (by omega), tn_n (by omega), if_pos (Or.inr c_56)], rfl, rfl⟩) rfl
        · refine x_iconst (pc := 39) (v := -1) K dX7_meet_39 (by decide) ?_
          exact ret (pc := 40) dX7_meet_40 (⟨if_neg (fun h => h.2.2.2 c_36), rfl, rfl⟩) rfl

set_option maxHeartbeats 1000000 in
set_option maxRecDepth 100000 in
theorem c_X7_area (l : Launch) (G : hQ) (I : hI) (J : hJ) (t m : Int32) (nt : Nat) (ht : I 8 1 = nI nt) (h10 : nt ≤ 10) (hA : ∀ t, t < nt → TOk I t) : h_Mi l yX7_area wsX7_area 3 74 G [rr G 0, .int t, .int m] I J (fun ρ I' J' => (if isT I t ∧ isMp m then ab32 (tT I (tn t) (tn m)) else -1) = ρ ∧ I = I' ∧ J = J') := by
  refine h_Mi.of (ty := .int) (cc := cX7_area) (maxL := 3) [(0, rr G 0), (1, .int t), (2, .int m)] (by decide +kernel) rfl (Nat.le_of_ble_eq_true rfl) rfl ?_
  intro Γ K ret
  have i_X7 : ∀ w ∈ u_ws RX7 TX7 7, w ∈ wsX7_area := by decide +kernel
  have i_X3 : ∀ w ∈ u_ws RX3 TX3 4, w ∈ wsX7_area := by decide +kernel
  refine x_aload_n (pc := 0) K 0 dX7_area_0 rfl rfl ?_
  refine x_getr (r0 := 1) (pc := 1) (index := 10) (C := RX7) (T := TX7) (N := 7) (j0 := 0) (ref := "OldMap") K (by decide) sh_0 rfl i_X7 (by decide) (by decide +kernel) rfl rfl rf_0_0 dX7_area_1 ?_
  refine x_getrN (r0 := 8) (pc := 4) (index := 163) (C := RX3) (T := TX3) (N := 4) (j0 := 1) (host := "OldMap") (ref := "OldMap$Table") K (by decide) sh_1 rfl i_X3 (by decide) (by decide +kernel) rfl rfl rf_1_1 dX7_area_4 ?_
  refine x_iload_n (pc := 7) K 1 dX7_area_7 rfl rfl ?_
  refine x_calliN (pc := 8) (st := []) (n := 1) K (by decide) sh_8 rfl (c_X5_has l G _ _ _) (host := "OldMap") gX7_area_X5_has_n172 (by decide +kernel) (by decide +kernel) (by decide +kernel) (by decide +kernel) (by decide +kernel) rfl (by decide) (by decide) rfl rfl (Nat.le_of_ble_eq_true rfl) dX7_area_8 (fun r_8 I_8 J_8 hp_8 => ?_)
  obtain ⟨rfl, rfl, rfl⟩ := hp_8
  refine x_if_eq (pc := 11) (tgt := 21) K dX7_area_11 (by decide) (fun c_11 => ?_) (fun c_11 => ?_)
  · replace c_11 := bz_0.mp c_11
    refine x_iconst (pc := 21) (v := -1) K dX7_area_21 (by decide) ?_
    exact ret (pc := 22) dX7_area_22 (⟨if_neg (fun h => c_11 h.1), rfl, rfl⟩) rfl
  · replace c_11 := bz_n0.mp c_11
    obtain ⟨t, ht, rfl⟩ := has_of c_11 ht (by omega)
    refine x_iload_n (pc := 14) K 2 dX7_area_14 rfl rfl ?_
    refine x_calliS (pc := 15) (st := []) (n := 1) K (c_X7_isMap l G _ _ _) gX7_area_X7_isMap (by decide +kernel) rfl (by decide) (by decide) rfl rfl (Nat.le_of_ble_eq_true rfl) dX7_area_15 (fun r_15 I_15 J_15 hp_15 => ?_)
    obtain ⟨rfl, rfl, rfl⟩ := hp_15
    refine x_if_ne (pc := 18) (tgt := 23) K dX7_area_18 (by decide) (fun c_18 => ?_) (fun c_18 => ?_)
    · replace c_18 := bz_n0.mp c_18
      obtain ⟨mp, hmp, rfl⟩ := mp_of c_18
      refine x_aload_n (pc := 23) K 0 dX7_area_23 rfl rfl ?_
      refine x_getr (r0 := 1) (pc := 24) (index := 10) (C := RX7) (T := TX7) (N := 7) (j0 := 0) (ref := "OldMap") K (by decide) sh_0 rfl i_X7 (by decide) (by decide +kernel) rfl rfl rf_0_0 dX7_area_24 ?_
      refine x_getrN (r0 := 8) (pc := 27) (index := 163) (C := RX3) (T := TX3) (N := 4) (j0 := 1) (host := "OldMap") (ref := "OldMap$Table") K (by decide) sh_1 rfl i_X3 (by decide) (by decide +kernel) rfl rfl rf_1_1 dX7_area_27 ?_
      refine x_iload_n (pc := 30) K 1 dX7_area_30 rfl rfl ?_
      refine x_iload_n (pc := 31) K 2 dX7_area_31 rfl rfl ?_
      refine x_calliN (pc := 32) (st := []) (n := 2) K (by decide) sh_8 rfl (c_X5_turn l G _ _ t mp (hA t ht) (by omega)) (host := "OldMap") gX7_area_X5_turn_n186 (by decide +kernel) (by decide +kernel) (by decide +kernel) (by decide +kernel) (by decide +kernel) rfl (by decide) (by decide) rfl rfl (Nat.le_of_ble_eq_true rfl) dX7_area_32 (fun r_32 I_32 J_32 hp_32 => ?_)
      obtain ⟨rfl, rfl, rfl⟩ := hp_32
      refine y_absi (pc := 35) (st := []) K (by decide +kernel) (by decide +kernel) (by decide +kernel) (by decide +kernel) (by decide) (Nat.le_of_ble_eq_true rfl) dX7_area_35 ?_
      exact ret (pc := 38) dX7_area_38 (⟨by rw [if_pos ⟨c_11, c_18⟩, tn_n (by omega), tn_n (by omega)], rfl, rfl⟩) rfl
    · replace c_18 := bz_0.mp c_18
      refine x_iconst (pc := 21) (v := -1) K dX7_area_21 (by decide) ?_
      exact ret (pc := 22) dX7_area_22 (⟨if_neg (fun h => c_18 h.2), rfl, rfl⟩) rfl

