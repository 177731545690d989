/-! OldMap$Match: rows 61 + old (apart), 68 + old (least), 75 (given), 59 6 (used) -/
def orB (s o : Nat) : Nat := s ||| (1 <<< o)
theorem orB_ok : ∀ s, s < 64 → ∀ o, o < 6 → nI s ||| (1 <<< (nI o &&& 31)) = nI (orB s o) ∧ orB s o < 64 := by decide +kernel
theorem orB_lt : ∀ n, n ≤ 6 → ∀ o, o < n → ∀ s, s < 2 ^ n → orB s o < 2 ^ n := by decide +kernel
theorem shl_ok : ∀ n, n ≤ 6 → (1 : Int32) <<< (nI n &&& 31) = nI (2 ^ n) := by decide +kernel
abbrev fre (ap : Nat → Int32) (s o : Nat) : Prop := nI s >>> (nI o &&& 31) &&& 1 = 0 ∧ ¬ ap o = -1
def lfG (ap nx : Nat → Int32) (s : Nat) (lost : Int32) : Nat → Int32
  | 0 => lost + nx s
  | k + 1 => if fre ap s k then mn32 (lfG ap nx s lost k) (ap k + nx (orB s k)) else lfG ap nx s lost k
def fbG (ap nx ls : Nat → Int32) (s nn : Nat) : Int32 := fstI (fun o => fre ap s o ∧ ap o + nx (orB s o) = ls s) 0 nn
def fuG (u nn : Nat) : Int32 := fstI (fun o => nI u >>> (nI o &&& 31) &&& 1 = 0) 0 nn
set_option maxHeartbeats 1000000 in
set_option maxRecDepth 100000 in
theorem c_X1_isFree (l : Launch) (G : hQ) (I : hI) (J : hJ) (old k s : Nat) (h1 : old < 6) (h2 : k < 6) : h_Mi l yX1_isFree wsX1_isFree 0 0 G [rr G 59, .int (nI old), .int (nI k), .int (nI s)] I J (fun ρ I' J' => bz (fre (I (61 + old)) s k) = ρ ∧ I = I' ∧ J = J') := by
  refine h_Mi.of (ty := .boolean) (cc := cX1_isFree) (maxL := 4) [(0, rr G 59), (1, .int (nI old)), (2, .int (nI k)), (3, .int (nI s))] (by decide +kernel) rfl (Nat.le_of_ble_eq_true rfl) rfl ?_
  intro Γ K ret
  have i_X1 : ∀ w ∈ u_ws RX1 TX1 7, w ∈ wsX1_isFree := by decide +kernel
  refine x_iload_n (pc := 0) K 3 dX1_isFree_0 rfl rfl ?_
  refine x_iload_n (pc := 1) K 2 dX1_isFree_1 rfl rfl ?_
  refine x_ishr (pc := 2) K dX1_isFree_2 ?_
  refine x_iconst (pc := 3) (v := 1) K dX1_isFree_3 (by decide) ?_
  refine x_iand (pc := 4) K dX1_isFree_4 ?_
  refine x_if_ne (pc := 5) (tgt := 24) K dX1_isFree_5 (by decide) (fun c_5 => ?_) (fun c_5 => ?_)
  · refine x_iconst (pc := 24) (v := 0) K dX1_isFree_24 (by decide) ?_
    exact ret (pc := 25) dX1_isFree_25 (⟨bz_0.mpr (fun h => c_5 h.1), rfl, rfl⟩) rfl
  · refine x_aload_n (pc := 8) K 0 dX1_isFree_8 rfl rfl ?_
    refine x_getr (r0 := 60) (pc := 9) (index := 11) (C := RX1) (T := TX1) (N := 7) (j0 := 3) (ref := "OldMap$Match") K (by decide) sh_59 rfl i_X1 (by decide) (by decide +kernel) rfl rfl rf_59_3 dX1_isFree_9 ?_
    refine x_iload_n (pc := 12) K 1 dX1_isFree_12 rfl rfl ?_
    refine y_aald (r0 := (61 + old)) (j := old) (pc := 13) K (by decide) sh_60 rfl (by omega) (by decide) (rf_60 _) dX1_isFree_13 ?_
    refine x_iload_n (pc := 14) K 2 dX1_isFree_14 rfl rfl ?_
    refine y_iald (j := k) (pc := 15) K (shk_apart (show old < 6 by omega)) (shr_apart _ (show old < 6 by omega)) rfl (by omega) (by decide) dX1_isFree_15 ?_
    refine x_iconst (pc := 16) (v := -1) K dX1_isFree_16 (by decide) ?_
    refine x_icmp_eq (pc := 17) (tgt := 24) K dX1_isFree_17 (by decide) (fun c_17 => ?_) (fun c_17 => ?_)
    · refine x_iconst (pc := 24) (v := 0) K dX1_isFree_24 (by decide) ?_
      exact ret (pc := 25) dX1_isFree_25 (⟨bz_0.mpr (fun h => h.2 c_17), rfl, rfl⟩) rfl
    · refine x_iconst (pc := 20) (v := 1) K dX1_isFree_20 (by decide) ?_
      refine x_goto (pc := 21) (tgt := 25) K dX1_isFree_21 (by decide) ?_
      exact ret (pc := 25) dX1_isFree_25 (⟨bz_1.mpr ⟨c_5, c_17⟩, rfl, rfl⟩) rfl

set_option maxHeartbeats 1000000 in
set_option maxRecDepth 100000 in
theorem c_X1_costWith (l : Launch) (G : hQ) (I : hI) (J : hJ) (old k s : Nat) (h1 : old < 6) (h2 : k < 6) (h3 : s < 64) : h_Mi l yX1_costWith wsX1_costWith 0 0 G [rr G 59, .int (nI old), .int (nI k), .int (nI s)] I J (fun ρ I' J' => I (61 + old) k + I (68 + (old + 1)) (orB s k) = ρ ∧ I = I' ∧ J = J') := by
  refine h_Mi.of (ty := .int) (cc := cX1_costWith) (maxL := 4) [(0, rr G 59), (1, .int (nI old)), (2, .int (nI k)), (3, .int (nI s))] (by decide +kernel) rfl (Nat.le_of_ble_eq_true rfl) rfl ?_
  intro Γ K ret
  have i_X1 : ∀ w ∈ u_ws RX1 TX1 7, w ∈ wsX1_costWith := by decide +kernel
  refine x_aload_n (pc := 0) K 0 dX1_costWith_0 rfl rfl ?_
  refine x_getr (r0 := 60) (pc := 1) (index := 11) (C := RX1) (T := TX1) (N := 7) (j0 := 3) (ref := "OldMap$Match") K (by decide) sh_59 rfl i_X1 (by decide) (by decide +kernel) rfl rfl rf_59_3 dX1_costWith_1 ?_
  refine x_iload_n (pc := 4) K 1 dX1_costWith_4 rfl rfl ?_
  refine y_aald (r0 := (61 + old)) (j := old) (pc := 5) K (by decide) sh_60 rfl (by omega) (by decide) (rf_60 _) dX1_costWith_5 ?_
  refine x_iload_n (pc := 6) K 2 dX1_costWith_6 rfl rfl ?_
  refine y_iald (j := k) (pc := 7) K (shk_apart (show old < 6 by omega)) (shr_apart _ (show old < 6 by omega)) rfl (by omega) (by decide) dX1_costWith_7 ?_
  refine x_aload_n (pc := 8) K 0 dX1_costWith_8 rfl rfl ?_
  refine x_getr (r0 := 67) (pc := 9) (index := 16) (C := RX1) (T := TX1) (N := 7) (j0 := 4) (ref := "OldMap$Match") K (by decide) sh_59 rfl i_X1 (by decide) (by decide +kernel) rfl rfl rf_59_4 dX1_costWith_9 ?_
  refine x_iload_n (pc := 12) K 1 dX1_costWith_12 rfl rfl ?_
  refine x_iconst (pc := 13) (v := 1) K dX1_costWith_13 (by decide) ?_
  refine x_iadd (pc := 14) K dX1_costWith_14 ?_
  refine y_aald (r0 := (68 + (old + 1))) (j := (old + 1)) (pc := 15) K (by decide) sh_67 (nI_addE rfl rfl) (by omega) (by decide) (rf_67 _) dX1_costWith_15 ?_
  refine x_iload_n (pc := 16) K 3 dX1_costWith_16 rfl rfl ?_
  refine x_iconst (pc := 17) (v := 1) K dX1_costWith_17 (by decide) ?_
  refine x_iload_n (pc := 18) K 2 dX1_costWith_18 rfl rfl ?_
  refine x_ishl (pc := 19) K dX1_costWith_19 ?_
  refine x_ior (pc := 20) K dX1_costWith_20 ?_
  have hor := orB_ok s (by omega) k (by omega)
  refine x_topie (nI (orB s k)) hor.1 ?_
  replace hor := hor.2
  refine y_iald (j := (orB s k)) (pc := 21) K (shk_least (show (old + 1) < 7 by omega)) (shr_least _ (show (old + 1) < 7 by omega)) rfl (by omega) (by decide) dX1_costWith_21 ?_
  refine x_iadd (pc := 22) K dX1_costWith_22 ?_
  exact ret (pc := 23) dX1_costWith_23 (⟨rfl, rfl, rfl⟩) rfl

set_option maxHeartbeats 1000000 in
set_option maxRecDepth 100000 in
theorem c_X1_leastCost (l : Launch) (G : hQ) (I : hI) (J : hJ) : h_Mi l yX1_leastCost wsX1_leastCost 0 0 G [rr G 59] I J (fun ρ I' J' => I (68 + 0) 0 = ρ ∧ I = I' ∧ J = J') := by
  refine h_Mi.of (ty := .int) (cc := cX1_leastCost) (maxL := 1) [(0, rr G 59)] (by decide +kernel) rfl (Nat.le_of_ble_eq_true rfl) rfl ?_
  intro Γ K ret
  have i_X1 : ∀ w ∈ u_ws RX1 TX1 7, w ∈ wsX1_leastCost := by decide +kernel
  refine x_aload_n (pc := 0) K 0 dX1_leastCost_0 rfl rfl ?_
  refine x_getr (r0 := 67) (pc := 1) (index := 16) (C := RX1) (T := TX1) (N := 7) (j0 := 4) (ref := "OldMap$Match") K (by decide) sh_59 rfl i_X1 (by decide) (by decide +kernel) rfl rfl rf_59_4 dX1_leastCost_1 ?_
  refine x_iconst (pc := 4) (v := 0) K dX1_leastCost_4 (by decide) ?_
  refine y_aald (r0 := (68 + 0)) (j := 0) (pc := 5) K (by decide) sh_67 rfl (by omega) (by decide) (rf_67 _) dX1_leastCost_5 ?_
  refine x_iconst (pc := 6) (v := 0) K dX1_leastCost_6 (by decide) ?_
  refine y_iald (j := 0) (pc := 7) K (shk_least (show 0 < 7 by omega)) (shr_least _ (show 0 < 7 by omega)) rfl (by omega) (by decide) dX1_leastCost_7 ?_
  exact ret (pc := 8) dX1_leastCost_8 (⟨rfl, rfl, rfl⟩) rfl

set_option maxHeartbeats 1000000 in
set_option maxRecDepth 100000 in
theorem c_X1_leastFrom (l : Launch) (G : hQ) (I : hI) (J : hJ) (old s : Nat) (lost : Int32) (h1 : old < 6) (h3 : s < 64) (nn : Nat) (hn : I 24 0 = nI nn) (h6 : nn ≤ 6) : h_Mi l yX1_leastFrom wsX1_leastFrom 1 23 G [rr G 59, .int (nI old), .int (nI s), .int lost] I J (fun ρ I' J' => lfG (I (61 + old)) (I (68 + (old + 1))) s lost nn = ρ ∧ I = I' ∧ J = J') := by
  refine h_Mi.of (ty := .int) (cc := cX1_leastFrom) (maxL := 6) [(0, rr G 59), (1, .int (nI old)), (2, .int (nI s)), (3, .int lost)] (by decide +kernel) rfl (Nat.le_of_ble_eq_true rfl) rfl ?_
  intro Γ K ret
  have i_X1 : ∀ w ∈ u_ws RX1 TX1 7, w ∈ wsX1_leastFrom := by decide +kernel
  have i_X4 : ∀ w ∈ u_ws RX4 TX4 4, w ∈ wsX1_leastFrom := by decide +kernel
  have loop : ∀ k, k ≤ nn → h_WW Γ G 17 [(5, .int (nI k)), (4, .int (lfG (I (61 + old)) (I (68 + (old + 1))) s lost k)), (0, rr G 59), (1, .int (nI old)), (2, .int (nI s)), (3, .int lost)] [] I J := by
    refine loopU nn (fun k hk ih => ?_)
    refine x_iload (pc := 17) K 0 dX1_leastFrom_17 rfl ?_
    refine x_aload_n (pc := 19) K 2 dX1_leastFrom_19 rfl rfl ?_
    refine x_getr (r0 := 24) (pc := 20) (index := 31) (C := RX1) (T := TX1) (N := 7) (j0 := 1) (ref := "OldMap$Match") K (by decide) sh_59 rfl i_X1 (by decide) (by decide +kernel) rfl rfl rf_59_1 dX1_leastFrom_20 ?_
    refine x_getiN (pc := 23) (index := 38) (C := RX4) (T := TX4) (N := 4) (j0 := 0) (host := "OldMap") (ref := "OldMap$Things") K (by decide) sh_24 rfl i_X4 (by decide) (by decide +kernel) rfl rfl dX1_leastFrom_23 ?_
    refine x_topie (nI nn) hn ?_
    refine x_icmp_ge (pc := 26) (tgt := 61) K dX1_leastFrom_26 (by decide) (fun c_26 => ?_) (fun c_26 => ?_)
    · replace c_26 := cI_le (a := nn) (b := k) rfl rfl (by omega) (by omega) c_26
      refine x_iload (pc := 61) K 1 dX1_leastFrom_61 rfl ?_
      exact ret (pc := 63) dX1_leastFrom_63 (⟨by rw [show nn = k by omega], rfl, rfl⟩) rfl
    · replace c_26 := cI_nle (a := nn) (b := k) rfl rfl (by omega) (by omega) c_26
      refine x_aload_n (pc := 29) K 2 dX1_leastFrom_29 rfl rfl ?_
      refine x_iload_n (pc := 30) K 3 dX1_leastFrom_30 rfl rfl ?_
      refine x_iload (pc := 31) K 0 dX1_leastFrom_31 rfl ?_
      refine x_iload_n (pc := 33) K 4 dX1_leastFrom_33 rfl rfl ?_
      refine x_calliV (pc := 34) (st := []) (n := 3) K (by decide) sh_59 rfl (c_X1_isFree l G _ _ old k s (by omega) (by omega)) gX1_leastFrom_X1_isFree (by decide +kernel) rfl (by decide) (by decide) rfl rfl (Nat.le_of_ble_eq_true rfl) dX1_leastFrom_34 (fun r_34 I_34 J_34 hp_34 => ?_)
      obtain ⟨rfl, rfl, rfl⟩ := hp_34
      refine x_if_eq (pc := 37) (tgt := 55) K dX1_leastFrom_37 (by decide) (fun c_37 => ?_) (fun c_37 => ?_)
      · replace c_37 := bz_0.mp c_37
        refine x_iinc (pc := 55) (q0 := 0) (v := nI (k + 1)) (lo' := [(5, _), (4, _), (0, _), (1, _), (2, _), (3, _)]) K dX1_leastFrom_55 rfl (nI_incE rfl) (by decide) rfl ?_
        refine x_goto (pc := 58) (tgt := 17) K dX1_leastFrom_58 (by decide) ?_
        refine x_lo (lo' := [(5, _), (4, _), (0, _), (1, _), (2, _), (3, _)]) [0, 1, 2, 3, 4, 5] rfl ?_
        exact x_loe (by simp only [lfG]; rw [if_neg c_37]) (ih (by omega))
      · replace c_37 := bz_n0.mp c_37
        refine x_iload (pc := 40) K 1 dX1_leastFrom_40 rfl ?_
        refine x_aload_n (pc := 42) K 2 dX1_leastFrom_42 rfl rfl ?_
        refine x_iload_n (pc := 43) K 3 dX1_leastFrom_43 rfl rfl ?_
        refine x_iload (pc := 44) K 0 dX1_leastFrom_44 rfl ?_
        refine x_iload_n (pc := 46) K 4 dX1_leastFrom_46 rfl rfl ?_
        refine x_calliV (pc := 47) (st := [_]) (n := 3) K (by decide) sh_59 rfl (c_X1_costWith l G _ _ old k s (by omega) (by omega) (by omega)) gX1_leastFrom_X1_costWith (by decide +kernel) rfl (by decide) (by decide) rfl rfl (Nat.le_of_ble_eq_true rfl) dX1_leastFrom_47 (fun r_47 I_47 J_47 hp_47 => ?_)
        obtain ⟨rfl, rfl, rfl⟩ := hp_47
        refine y_mini (pc := 50) (st := []) K (by decide +kernel) (by decide +kernel) (by decide +kernel) (by decide +kernel) (by decide) (Nat.le_of_ble_eq_true rfl) dX1_leastFrom_50 ?_
        refine x_istore (pc := 53) (lo' := [(4, _), (5, _), (0, _), (1, _), (2, _), (3, _)]) K dX1_leastFrom_53 (by decide) rfl ?_
        refine x_iinc (pc := 55) (q0 := 1) (v := nI (k + 1)) (lo' := [(5, _), (4, _), (0, _), (1, _), (2, _), (3, _)]) K dX1_leastFrom_55 rfl (nI_incE rfl) (by decide) rfl ?_
        refine x_goto (pc := 58) (tgt := 17) K dX1_leastFrom_58 (by decide) ?_
        refine x_lo (lo' := [(5, _), (4, _), (0, _), (1, _), (2, _), (3, _)]) [0, 1, 2, 3, 4, 5] rfl ?_
        exact x_loe (by simp only [lfG]; rw [if_pos c_37]) (ih (by omega))
  refine x_iload_n (pc := 0) K 3 dX1_leastFrom_0 rfl rfl ?_
  refine x_aload_n (pc := 1) K 0 dX1_leastFrom_1 rfl rfl ?_
  refine x_getr (r0 := 67) (pc := 2) (index := 16) (C := RX1) (T := TX1) (N := 7) (j0 := 4) (ref := "OldMap$Match") K (by decide) sh_59 rfl i_X1 (by decide) (by decide +kernel) rfl rfl rf_59_4 dX1_leastFrom_2 ?_
  refine x_iload_n (pc := 5) K 1 dX1_leastFrom_5 rfl rfl ?_
  refine x_iconst (pc := 6) (v := 1) K dX1_leastFrom_6 (by decide) ?_
  refine x_iadd (pc := 7) K dX1_leastFrom_7 ?_
  refine y_aald (r0 := (68 + (old + 1))) (j := (old + 1)) (pc := 8) K (by decide) sh_67 (nI_addE rfl rfl) (by omega) (by decide) (rf_67 _) dX1_leastFrom_8 ?_
  refine x_iload_n (pc := 9) K 2 dX1_leastFrom_9 rfl rfl ?_
  refine y_iald (j := s) (pc := 10) K (shk_least (show (old + 1) < 7 by omega)) (shr_least _ (show (old + 1) < 7 by omega)) rfl (by omega) (by decide) dX1_leastFrom_10 ?_
  refine x_iadd (pc := 11) K dX1_leastFrom_11 ?_
  refine x_istore (pc := 12) (lo' := [(4, _), (0, _), (1, _), (2, _), (3, _)]) K dX1_leastFrom_12 (by decide) rfl ?_
  refine x_iconst (pc := 14) (v := 0) K dX1_leastFrom_14 (by decide) ?_
  refine x_istore (pc := 15) (lo' := [(5, _), (4, _), (0, _), (1, _), (2, _), (3, _)]) K dX1_leastFrom_15 (by decide) rfl ?_
  refine x_lo (lo' := [(5, _), (4, _), (0, _), (1, _), (2, _), (3, _)]) [0, 1, 2, 3, 4, 5] rfl ?_
  exact x_loe (by rfl) (loop 0 (Nat.zero_le _))

set_option maxHeartbeats 1000000 in
set_option maxRecDepth 100000 in
theorem c_X1_firstUnused (l : Launch) (G : hQ) (I : hI) (J : hJ) (u : Nat) (hu : I 59 6 = nI u) (nn : Nat) (hn : I 24 0 = nI nn) (h6 : nn ≤ 6) : h_Mi l yX1_firstUnused wsX1_firstUnused 0 0 G [rr G 59] I J (fun ρ I' J' => fuG u nn = ρ ∧ I = I' ∧ J = J') := by
  refine h_Mi.of (ty := .int) (cc := cX1_firstUnused) (maxL := 2) [(0, rr G 59)] (by decide +kernel) rfl (Nat.le_of_ble_eq_true rfl) rfl ?_
  intro Γ K ret
  have i_X1 : ∀ w ∈ u_ws RX1 TX1 7, w ∈ wsX1_firstUnused := by decide +kernel
  have i_X4 : ∀ w ∈ u_ws RX4 TX4 4, w ∈ wsX1_firstUnused := by decide +kernel
  have loop : ∀ k, k ≤ nn → (fuG u nn = fstI (fun o => nI u >>> (nI o &&& 31) &&& 1 = 0) k (nn - k)) → h_WW Γ G 2 [(1, .int (nI k)), (0, rr G 59)] [] I J := by
    refine loopU nn (fun k hk ih => ?_)
    intro hi
    refine x_iload_n (pc := 2) K 0 dX1_firstUnused_2 rfl rfl ?_
    refine x_aload_n (pc := 3) K 1 dX1_firstUnused_3 rfl rfl ?_
    refine x_getr (r0 := 24) (pc := 4) (index := 31) (C := RX1) (T := TX1) (N := 7) (j0 := 1) (ref := "OldMap$Match") K (by decide) sh_59 rfl i_X1 (by decide) (by decide +kernel) rfl rfl rf_59_1 dX1_firstUnused_4 ?_
    refine x_getiN (pc := 7) (index := 38) (C := RX4) (T := TX4) (N := 4) (j0 := 0) (host := "OldMap") (ref := "OldMap$Things") K (by decide) sh_24 rfl i_X4 (by decide) (by decide +kernel) rfl rfl dX1_firstUnused_7 ?_
    refine x_topie (nI nn) hn ?_
    refine x_icmp_ge (pc := 10) (tgt := 32) K dX1_firstUnused_10 (by decide) (fun c_10 => ?_) (fun c_10 => ?_)
    · replace c_10 := cI_le (a := nn) (b := k) rfl rfl (by omega) (by omega) c_10
      refine x_bipush (pc := 32) (v := -5) K dX1_firstUnused_32 (by decide) ?_
      exact ret (pc := 34) dX1_firstUnused_34 (⟨by rw [hi, fstI_e (by omega)], rfl, rfl⟩) rfl
    · replace c_10 := cI_nle (a := nn) (b := k) rfl rfl (by omega) (by omega) c_10
      refine x_aload_n (pc := 13) K 1 dX1_firstUnused_13 rfl rfl ?_
      refine x_geti (pc := 14) (index := 23) (C := RX1) (T := TX1) (N := 7) (j0 := 6) (ref := "OldMap$Match") K (by decide) sh_59 rfl i_X1 (by decide) (by decide +kernel) rfl rfl dX1_firstUnused_14 ?_
      refine x_topie (nI u) hu ?_
      refine x_iload_n (pc := 17) K 0 dX1_firstUnused_17 rfl rfl ?_
      refine x_ishr (pc := 18) K dX1_firstUnused_18 ?_
      refine x_iconst (pc := 19) (v := 1) K dX1_firstUnused_19 (by decide) ?_
      refine x_iand (pc := 20) K dX1_firstUnused_20 ?_
      refine x_if_ne (pc := 21) (tgt := 26) K dX1_firstUnused_21 (by decide) (fun c_21 => ?_) (fun c_21 => ?_)
      · refine x_iinc (pc := 26) (q0 := 0) (v := nI (k + 1)) (lo' := [(1, _), (0, _)]) K dX1_firstUnused_26 rfl (nI_incE rfl) (by decide) rfl ?_
        refine x_goto (pc := 29) (tgt := 2) K dX1_firstUnused_29 (by decide) ?_
        refine x_lo (lo' := [(1, _), (0, _)]) [0, 1] rfl ?_
        exact x_loe (by rfl) (ih (by omega) (by rw [hi, fstI_f (by omega) c_21]))
      · refine x_iload_n (pc := 24) K 0 dX1_firstUnused_24 rfl rfl ?_
        exact ret (pc := 25) dX1_firstUnused_25 (⟨by rw [hi, fstI_t (by omega) c_21], rfl, rfl⟩) rfl
  refine x_iconst (pc := 0) (v := 0) K dX1_firstUnused_0 (by decide) ?_
  refine x_istore_n (pc := 1) (lo' := [(1, _), (0, _)]) K dX1_firstUnused_1 rfl (by decide) rfl ?_
  refine x_lo (lo' := [(1, _), (0, _)]) [0, 1] rfl ?_
  exact x_loe (by rfl) (loop 0 (Nat.zero_le _) rfl)

set_option maxHeartbeats 1000000 in
set_option maxRecDepth 100000 in
theorem c_X1_firstBest (l : Launch) (G : hQ) (I : hI) (J : hJ) (old u : Nat) (h1 : old < 6) (hu : I 59 6 = nI u) (h3 : u < 64) (nn : Nat) (hn : I 24 0 = nI nn) (h6 : nn ≤ 6) : h_Mi l yX1_firstBest wsX1_firstBest 1 23 G [rr G 59, .int (nI old)] I J (fun ρ I' J' => fbG (I (61 + old)) (I (68 + (old + 1))) (I (68 + old)) u nn = ρ ∧ I = I' ∧ J = J') := by
  refine h_Mi.of (ty := .int) (cc := cX1_firstBest) (maxL := 3) [(0, rr G 59), (1, .int (nI old))] (by decide +kernel) rfl (Nat.le_of_ble_eq_true rfl) rfl ?_
  intro Γ K ret
  have i_X1 : ∀ w ∈ u_ws RX1 TX1 7, w ∈ wsX1_firstBest := by decide +kernel
  have i_X4 : ∀ w ∈ u_ws RX4 TX4 4, w ∈ wsX1_firstBest := by decide +kernel
  have loop : ∀ k, k ≤ nn → (fbG (I (61 + old)) (I (68 + (old + 1))) (I (68 + old)) u nn = fstI (fun o => fre (I (61 + old)) u o ∧ I (61 + old) o + I (68 + (old + 1)) (orB u o) = I (68 + old) u) k (nn - k)) → h_WW Γ G 2 [(2, .int (nI k)), (0, rr G 59), (1, .int (nI old))] [] I J := by
    refine loopU nn (fun k hk ih => ?_)
    intro hi
    refine x_iload_n (pc := 2) K 0 dX1_firstBest_2 rfl rfl ?_
    refine x_aload_n (pc := 3) K 1 dX1_firstBest_3 rfl rfl ?_
    refine x_getr (r0 := 24) (pc := 4) (index := 31) (C := RX1) (T := TX1) (N := 7) (j0 := 1) (ref := "OldMap$Match") K (by decide) sh_59 rfl i_X1 (by decide) (by decide +kernel) rfl rfl rf_59_1 dX1_firstBest_4 ?_
    refine x_getiN (pc := 7) (index := 38) (C := RX4) (T := TX4) (N := 4) (j0 := 0) (host := "OldMap") (ref := "OldMap$Things") K (by decide) sh_24 rfl i_X4 (by decide) (by decide +kernel) rfl rfl dX1_firstBest_7 ?_
    refine x_topie (nI nn) hn ?_
    refine x_icmp_ge (pc := 10) (tgt := 58) K dX1_firstBest_10 (by decide) (fun c_10 => ?_) (fun c_10 => ?_)
    · replace c_10 := cI_le (a := nn) (b := k) rfl rfl (by omega) (by omega) c_10
      refine x_bipush (pc := 58) (v := -5) K dX1_firstBest_58 (by decide) ?_
      exact ret (pc := 60) dX1_firstBest_60 (⟨by rw [hi, fstI_e (by omega)], rfl, rfl⟩) rfl
    · replace c_10 := cI_nle (a := nn) (b := k) rfl rfl (by omega) (by omega) c_10
      refine x_aload_n (pc := 13) K 1 dX1_firstBest_13 rfl rfl ?_
      refine x_iload_n (pc := 14) K 2 dX1_firstBest_14 rfl rfl ?_
      refine x_iload_n (pc := 15) K 0 dX1_firstBest_15 rfl rfl ?_
      refine x_aload_n (pc := 16) K 1 dX1_firstBest_16 rfl rfl ?_
      refine x_geti (pc := 17) (index := 23) (C := RX1) (T := TX1) (N := 7) (j0 := 6) (ref := "OldMap$Match") K (by decide) sh_59 rfl i_X1 (by decide) (by decide +kernel) rfl rfl dX1_firstBest_17 ?_
      refine x_topie (nI u) hu ?_
      refine x_calliV (pc := 20) (st := []) (n := 3) K (by decide) sh_59 rfl (c_X1_isFree l G _ _ old k u (by omega) (by omega)) gX1_firstBest_X1_isFree (by decide +kernel) rfl (by decide) (by decide) rfl rfl (Nat.le_of_ble_eq_true rfl) dX1_firstBest_20 (fun r_20 I_20 J_20 hp_20 => ?_)
      obtain ⟨rfl, rfl, rfl⟩ := hp_20
      refine x_if_eq (pc := 23) (tgt := 52) K dX1_firstBest_23 (by decide) (fun c_23 => ?_) (fun c_23 => ?_)
      · replace c_23 := bz_0.mp c_23
        refine x_iinc (pc := 52) (q0 := 0) (v := nI (k + 1)) (lo' := [(2, _), (0, _), (1, _)]) K dX1_firstBest_52 rfl (nI_incE rfl) (by decide) rfl ?_
        refine x_goto (pc := 55) (tgt := 2) K dX1_firstBest_55 (by decide) ?_
        refine x_lo (lo' := [(2, _), (0, _), (1, _)]) [0, 1, 2] rfl ?_
        exact x_loe (by rfl) (ih (by omega) (by rw [hi, fstI_f (by omega) (fun q => c_23 q.1)]))
      · replace c_23 := bz_n0.mp c_23
        refine x_aload_n (pc := 26) K 1 dX1_firstBest_26 rfl rfl ?_
        refine x_iload_n (pc := 27) K 2 dX1_firstBest_27 rfl rfl ?_
        refine x_iload_n (pc := 28) K 0 dX1_firstBest_28 rfl rfl ?_
        refine x_aload_n (pc := 29) K 1 dX1_firstBest_29 rfl rfl ?_
        refine x_geti (pc := 30) (index := 23) (C := RX1) (T := TX1) (N := 7) (j0 := 6) (ref := "OldMap$Match") K (by decide) sh_59 rfl i_X1 (by decide) (by decide +kernel) rfl rfl dX1_firstBest_30 ?_
        refine x_topie (nI u) hu ?_
        refine x_calliV (pc := 33) (st := []) (n := 3) K (by decide) sh_59 rfl (c_X1_costWith l G _ _ old k u (by omega) (by omega) (by omega)) gX1_firstBest_X1_costWith (by decide +kernel) rfl (by decide) (by decide) rfl rfl (Nat.le_of_ble_eq_true rfl) dX1_firstBest_33 (fun r_33 I_33 J_33 hp_33 => ?_)
        obtain ⟨rfl, rfl, rfl⟩ := hp_33
        refine x_aload_n (pc := 36) K 1 dX1_firstBest_36 rfl rfl ?_
        refine x_getr (r0 := 67) (pc := 37) (index := 16) (C := RX1) (T := TX1) (N := 7) (j0 := 4) (ref := "OldMap$Match") K (by decide) sh_59 rfl i_X1 (by decide) (by decide +kernel) rfl rfl rf_59_4 dX1_firstBest_37 ?_
        refine x_iload_n (pc := 40) K 2 dX1_firstBest_40 rfl rfl ?_
        refine y_aald (r0 := (68 + old)) (j := old) (pc := 41) K (by decide) sh_67 rfl (by omega) (by decide) (rf_67 _) dX1_firstBest_41 ?_
        refine x_aload_n (pc := 42) K 1 dX1_firstBest_42 rfl rfl ?_
        refine x_geti (pc := 43) (index := 23) (C := RX1) (T := TX1) (N := 7) (j0 := 6) (ref := "OldMap$Match") K (by decide) sh_59 rfl i_X1 (by decide) (by decide +kernel) rfl rfl dX1_firstBest_43 ?_
        refine x_topie (nI u) hu ?_
        refine y_iald (j := u) (pc := 46) K (shk_least (show old < 7 by omega)) (shr_least _ (show old < 7 by omega)) rfl (by omega) (by decide) dX1_firstBest_46 ?_
        refine x_icmp_ne (pc := 47) (tgt := 52) K dX1_firstBest_47 (by decide) (fun c_47 => ?_) (fun c_47 => ?_)
        · refine x_iinc (pc := 52) (q0 := 0) (v := nI (k + 1)) (lo' := [(2, _), (0, _), (1, _)]) K dX1_firstBest_52 rfl (nI_incE rfl) (by decide) rfl ?_
          refine x_goto (pc := 55) (tgt := 2) K dX1_firstBest_55 (by decide) ?_
          refine x_lo (lo' := [(2, _), (0, _), (1, _)]) [0, 1, 2] rfl ?_
          exact x_loe (by rfl) (ih (by omega) (by rw [hi, fstI_f (by omega) (fun q => c_47 q.2)]))
        · refine x_iload_n (pc := 50) K 0 dX1_firstBest_50 rfl rfl ?_
          exact ret (pc := 51) dX1_firstBest_51 (⟨by rw [hi, fstI_t (by omega) ⟨c_23, c_47⟩], rfl, rfl⟩) rfl
  refine x_iconst (pc := 0) (v := 0) K dX1_firstBest_0 (by decide) ?_
  refine x_istore_n (pc := 1) (lo' := [(2, _), (0, _), (1, _)]) K dX1_firstBest_1 rfl (by decide) rfl ?_
  refine x_lo (lo' := [(2, _), (0, _), (1, _)]) [0, 1, 2] rfl ?_
  exact x_loe (by rfl) (loop 0 (Nat.zero_le _) rfl)

