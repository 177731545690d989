/-! the reference: fractions and the fit -/
abbrev okM (I : hI) (n kd : Nat) (b : Int32) : Prop := (kd = 0 ∧ ¬ sM I n b 4 4 ≤ 0) ∨ (kd = 1 ∧ ¬ dM I n b ≤ 0) ∨ (kd = 2 ∧ ¬ pM I n b 0 0 ≤ 0 ∧ ¬ pM I n b 1 1 ≤ 0)
def MW (I : hI) (n kd : Nat) (b : Int32) (j : Nat) : Int64 := if kd = 0 then MW0 I n b j else if kd = 1 then MW1 I n b j else MW2 I n b j
/-- what a fit leaves in the reference's fields -/
def FitM (I : hI) (J : hJ) (n kd : Nat) (b : Int32) : Prop := (∀ j, 16 ≤ j → j < 30 → J 76 j = MW I n kd b j) ∧ (kd = 2 → ∀ j, 30 ≤ j → j < 32 → J 76 j = MW I n kd b j)
def toldM (top low : Int64) (below : Int32) : Int64 := if below = 0 then top / gcdS 100 (ng64 top) low else low / gcdS 100 (ng64 top) low
def flM (a b : Int64) : Int64 := if 0 ≤ a - a / b * b then a / b else a / b - 1
theorem memb_14 {j : Nat} (h1 : 16 ≤ j) (h2 : j < 30) : j ∈ [16, 17, 18, 19, 20, 21, 22, 23, 24, 25, 26, 27, 28, 29] := by
  simp only [List.mem_cons, List.not_mem_nil]; omega
theorem memb_16 {j : Nat} (h1 : 16 ≤ j) (h2 : j < 32) : j ∈ [24, 25, 26, 27, 16, 17, 18, 19, 20, 21, 22, 23, 28, 29, 30, 31] := by
  simp only [List.mem_cons, List.not_mem_nil]; omega
set_option maxHeartbeats 1000000 in
set_option maxRecDepth 100000 in
theorem c_X8_common (l : Launch) (G : hQ) (I : hI) (J : hJ) (a b : Int64) : h_Ml l yX8_common wsX8_common 0 0 G [.long a, .long b] I J (fun ρ I' J' => gcdS 100 (ng64 a) b = ρ ∧ I = I' ∧ J = J') := by
  refine h_Ml.of (cc := cX8_common) (maxL := 10) [(0, .long a), (2, .long b)] (by decide +kernel) rfl (Nat.le_of_ble_eq_true rfl) rfl ?_
  intro Γ K ret
  have loop : ∀ (f : Nat) (g q : Int64), gcdT f g q → gcdS 100 (ng64 a) b = gcdS f g q → h_WW Γ G 17 [(6, .long q), (4, .long g)] [] I J := by
    intro f
    induction f with
    | zero =>
      intro g q hT hi
      refine x_lload (pc := 17) K 0 dX8_common_17 rfl ?_
      refine x_lconst (pc := 19) (v := 0) K dX8_common_19 (by decide) ?_
      refine x_lcmp (pc := 20) K dX8_common_20 ?_
      refine x_if_eq (pc := 21) (tgt := 42) K dX8_common_21 (by decide) (fun c_21 => ?_) (fun c_21 => ?_)
      · replace c_21 := (lg_cmp_eq _ _).mp c_21
        refine x_lload (pc := 42) K 1 dX8_common_42 rfl ?_
        exact ret (pc := 44) dX8_common_44 (⟨by rw [hi]; rfl, rfl, rfl⟩)
      · replace c_21 := mt (lg_cmp_eq _ _).mpr c_21
        exact absurd hT c_21
    | succ f ih =>
      intro g q hT hi
      refine x_lload (pc := 17) K 0 dX8_common_17 rfl ?_
      refine x_lconst (pc := 19) (v := 0) K dX8_common_19 (by decide) ?_
      refine x_lcmp (pc := 20) K dX8_common_20 ?_
      refine x_if_eq (pc := 21) (tgt := 42) K dX8_common_21 (by decide) (fun c_21 => ?_) (fun c_21 => ?_)
      · replace c_21 := (lg_cmp_eq _ _).mp c_21
        refine x_lload (pc := 42) K 1 dX8_common_42 rfl ?_
        exact ret (pc := 44) dX8_common_44 (⟨by rw [hi, c_21, gcdS_z], rfl, rfl⟩)
      · replace c_21 := mt (lg_cmp_eq _ _).mpr c_21
        refine x_lload (pc := 24) K 1 dX8_common_24 rfl ?_
        refine x_lload (pc := 26) K 0 dX8_common_26 rfl ?_
        refine x_lrem (pc := 28) K dX8_common_28 c_21 ?_
        refine x_lstore (pc := 29) (lo' := [(8, _), (6, _), (4, _)]) K dX8_common_29 (by decide) rfl ?_
        refine x_lload (pc := 31) K 1 dX8_common_31 rfl ?_
        refine x_lstore (pc := 33) (lo' := [(4, _), (8, _), (6, _)]) K dX8_common_33 (by decide) rfl ?_
        refine x_lload (pc := 35) K 1 dX8_common_35 rfl ?_
        refine x_lstore (pc := 37) (lo' := [(6, _), (4, _), (8, _)]) K dX8_common_37 (by decide) rfl ?_
        refine x_goto (pc := 39) (tgt := 17) K dX8_common_39 (by decide) ?_
        refine x_lo (lo' := [(6, _), (4, _)]) [0, 1] rfl ?_
        exact x_loe (by rfl) (ih _ _ (hT.resolve_left c_21) (by rw [hi, gcdS_s c_21]))
  refine x_lload_n (pc := 0) K 0 dX8_common_0 rfl rfl ?_
  refine x_lconst (pc := 1) (v := 0) K dX8_common_1 (by decide) ?_
  refine x_lcmp (pc := 2) K dX8_common_2 ?_
  refine x_if_ge (pc := 3) (tgt := 11) K dX8_common_3 (by decide) (fun c_3 => ?_) (fun c_3 => ?_)
  · replace c_3 := (lg_cmp_ge _ _).mp c_3
    refine x_lload_n (pc := 11) K 0 dX8_common_11 rfl rfl ?_
    refine x_lstore (pc := 12) (lo' := [(4, _), (0, _), (2, _)]) K dX8_common_12 (by decide) rfl ?_
    refine x_lload_n (pc := 14) K 2 dX8_common_14 rfl rfl ?_
    refine x_lstore (pc := 15) (lo' := [(6, _), (4, _), (0, _), (2, _)]) K dX8_common_15 (by decide) rfl ?_
    refine x_lo (lo' := [(6, _), (4, _)]) [0, 1] rfl ?_
    exact x_loe (by rfl) (loop 100 _ _ (gcdT_all _ _) (by rw [ng64, if_pos c_3]))
  · replace c_3 := mt (lg_cmp_ge _ _).mpr c_3
    refine x_lload_n (pc := 6) K 0 dX8_common_6 rfl rfl ?_
    refine x_lneg (pc := 7) K dX8_common_7 ?_
    refine x_goto (pc := 8) (tgt := 12) K dX8_common_8 (by decide) ?_
    refine x_lstore (pc := 12) (lo' := [(4, _), (0, _), (2, _)]) K dX8_common_12 (by decide) rfl ?_
    refine x_lload_n (pc := 14) K 2 dX8_common_14 rfl rfl ?_
    refine x_lstore (pc := 15) (lo' := [(6, _), (4, _), (0, _), (2, _)]) K dX8_common_15 (by decide) rfl ?_
    refine x_lo (lo' := [(6, _), (4, _)]) [0, 1] rfl ?_
    exact x_loe (by rfl) (loop 100 _ _ (gcdT_all _ _) (by rw [ng64, if_neg c_3]))

set_option maxHeartbeats 1000000 in
set_option maxRecDepth 100000 in
theorem c_X8_told (l : Launch) (G : hQ) (I : hI) (J : hJ) (a b : Int64) (c : Int32) (hb : ¬ b = 0) : h_Ml l yX8_told wsX8_told 1 29 G [.long a, .long b, .int c] I J (fun ρ I' J' => toldM a b c = ρ ∧ I = I' ∧ J = J') := by
  refine h_Ml.of (cc := cX8_told) (maxL := 7) [(0, .long a), (2, .long b), (4, .int c)] (by decide +kernel) rfl (Nat.le_of_ble_eq_true rfl) rfl ?_
  intro Γ K ret
  refine x_lload_n (pc := 0) K 0 dX8_told_0 rfl rfl ?_
  refine x_lload_n (pc := 1) K 1 dX8_told_1 rfl rfl ?_
  refine x_calllS (pc := 2) (st := []) (n := 2) K (c_X8_common l G _ _ _ _) gX8_told_X8_common (by decide +kernel) rfl (by decide) (by decide) rfl rfl (Nat.le_of_ble_eq_true rfl) dX8_told_2 (fun r_2 I_2 J_2 hp_2 => ?_)
  obtain ⟨rfl, rfl, rfl⟩ := hp_2
  refine x_lstore (pc := 5) (lo' := [(5, _), (0, _), (2, _), (4, _)]) K dX8_told_5 (by decide) rfl ?_
  refine x_iload (pc := 7) K 3 dX8_told_7 rfl ?_
  refine x_if_eq (pc := 9) (tgt := 19) K dX8_told_9 (by decide) (fun c_9 => ?_) (fun c_9 => ?_)
  · refine x_lload_n (pc := 19) K 1 dX8_told_19 rfl rfl ?_
    refine x_lload (pc := 20) K 0 dX8_told_20 rfl ?_
    refine x_ldiv (pc := 22) K dX8_told_22 (gcdS_ne hb) ?_
    exact ret (pc := 23) dX8_told_23 (⟨by rw [toldM, if_pos c_9], rfl, rfl⟩)
  · refine x_lload_n (pc := 12) K 2 dX8_told_12 rfl rfl ?_
    refine x_lload (pc := 13) K 0 dX8_told_13 rfl ?_
    refine x_ldiv (pc := 15) K dX8_told_15 (gcdS_ne hb) ?_
    refine x_goto (pc := 16) (tgt := 23) K dX8_told_16 (by decide) ?_
    exact ret (pc := 23) dX8_told_23 (⟨by rw [toldM, if_neg c_9], rfl, rfl⟩)

set_option maxHeartbeats 1000000 in
set_option maxRecDepth 100000 in
theorem c_X8_floor (l : Launch) (G : hQ) (I : hI) (J : hJ) (a b : Int64) (hb : ¬ b = 0) : h_Ml l yX8_floor wsX8_floor 0 0 G [.long a, .long b] I J (fun ρ I' J' => flM a b = ρ ∧ I = I' ∧ J = J') := by
  refine h_Ml.of (cc := cX8_floor) (maxL := 6) [(0, .long a), (2, .long b)] (by decide +kernel) rfl (Nat.le_of_ble_eq_true rfl) rfl ?_
  intro Γ K ret
  refine x_lload_n (pc := 0) K 0 dX8_floor_0 rfl rfl ?_
  refine x_lload_n (pc := 1) K 1 dX8_floor_1 rfl rfl ?_
  refine x_ldiv (pc := 2) K dX8_floor_2 hb ?_
  refine x_lstore (pc := 3) (lo' := [(4, _), (0, _), (2, _)]) K dX8_floor_3 (by decide) rfl ?_
  refine x_lload_n (pc := 5) K 1 dX8_floor_5 rfl rfl ?_
  refine x_lload_n (pc := 6) K 2 dX8_floor_6 rfl rfl ?_
  refine x_lrem (pc := 7) K dX8_floor_7 hb ?_
  refine x_lconst (pc := 8) (v := 0) K dX8_floor_8 (by decide) ?_
  refine x_lcmp (pc := 9) K dX8_floor_9 ?_
  refine x_if_ge (pc := 10) (tgt := 20) K dX8_floor_10 (by decide) (fun c_10 => ?_) (fun c_10 => ?_)
  · replace c_10 := (lg_cmp_ge _ _).mp c_10
    refine x_lload (pc := 20) K 0 dX8_floor_20 rfl ?_
    exact ret (pc := 22) dX8_floor_22 (⟨by rw [flM, if_pos c_10], rfl, rfl⟩)
  · replace c_10 := mt (lg_cmp_ge _ _).mpr c_10
    refine x_lload (pc := 13) K 0 dX8_floor_13 rfl ?_
    refine x_lconst (pc := 15) (v := 1) K dX8_floor_15 (by decide) ?_
    refine x_lsub (pc := 16) K dX8_floor_16 ?_
    refine x_goto (pc := 17) (tgt := 22) K dX8_floor_17 (by decide) ?_
    exact ret (pc := 22) dX8_floor_22 (⟨by rw [flM, if_neg c_10], rfl, rfl⟩)

set_option maxHeartbeats 1000000 in
set_option maxRecDepth 100000 in
theorem c_X8_rounded (l : Launch) (G : hQ) (I : hI) (J : hJ) (a b : Int64) (hb : ¬ 2 * b = 0) : h_Ml l yX8_rounded wsX8_rounded 1 25 G [.long a, .long b] I J (fun ρ I' J' => flM (2 * a + b) (2 * b) = ρ ∧ I = I' ∧ J = J') := by
  refine h_Ml.of (cc := cX8_rounded) (maxL := 4) [(0, .long a), (2, .long b)] (by decide +kernel) rfl (Nat.le_of_ble_eq_true rfl) rfl ?_
  intro Γ K ret
  refine x_ldc2_w (pc := 0) (v := (2)) K (by decide +kernel) dX8_rounded_0 ?_
  refine x_lload_n (pc := 3) K 0 dX8_rounded_3 rfl rfl ?_
  refine x_lmul (pc := 4) K dX8_rounded_4 ?_
  refine x_lload_n (pc := 5) K 1 dX8_rounded_5 rfl rfl ?_
  refine x_ladd (pc := 6) K dX8_rounded_6 ?_
  refine x_ldc2_w (pc := 7) (v := (2)) K (by decide +kernel) dX8_rounded_7 ?_
  refine x_lload_n (pc := 10) K 1 dX8_rounded_10 rfl rfl ?_
  refine x_lmul (pc := 11) K dX8_rounded_11 ?_
  refine x_calllS (pc := 12) (st := []) (n := 2) K (c_X8_floor l G _ _ _ _ hb) gX8_rounded_X8_floor (by decide +kernel) rfl (by decide) (by decide) rfl rfl (Nat.le_of_ble_eq_true rfl) dX8_rounded_12 (fun r_12 I_12 J_12 hp_12 => ?_)
  obtain ⟨rfl, rfl, rfl⟩ := hp_12
  exact ret (pc := 15) dX8_rounded_15 (⟨rfl, rfl, rfl⟩)

set_option maxHeartbeats 1000000 in
set_option maxRecDepth 100000 in
theorem c_X8_fit (l : Launch) (G : hQ) (I : hI) (J : hJ) (kd : Nat) (b : Int32) (hk : kd < 3) (n : Nat) (hn : I 76 0 = nI n) (h12 : n ≤ 12) : h_Mi l yX8_fit wsX8_fit 3 78 G [rr G 76, .int (nI kd), .int b] I J (fun ρ I' J' => bz (okM I n kd b) = ρ ∧ I = I' ∧ (∀ k, k ≠ 76 → J' k = J k) ∧ FitM I J' n kd b) := by
  refine h_Mi.of (ty := .boolean) (cc := cX8_fit) (maxL := 3) [(0, rr G 76), (1, .int (nI kd)), (2, .int b)] (by decide +kernel) rfl (Nat.le_of_ble_eq_true rfl) rfl ?_
  intro Γ K ret
  rcases (show kd = 0 ∨ kd = 1 ∨ kd = 2 by omega) with rfl | rfl | rfl
  · refine x_iload_n (pc := 0) K 1 dX8_fit_0 rfl rfl ?_
    refine x_if_ne (pc := 1) (tgt := 12) K dX8_fit_1 (by decide) (fun c_1 => ?_) (fun c_1 => ?_)
    · replace c_1 := cI_ne (a := 0) (b := 0) rfl rfl (by omega) (by omega) c_1
      omega
    · replace c_1 := cI_eq (a := 0) (b := 0) rfl rfl (by omega) (by omega) c_1
      refine x_aload_n (pc := 4) K 0 dX8_fit_4 rfl rfl ?_
      refine x_iload_n (pc := 5) K 2 dX8_fit_5 rfl rfl ?_
      refine x_calliV (pc := 6) (st := []) (n := 1) K (by decide) sh_76 rfl (c_X8_shift l G _ _ _ n hn h12) gX8_fit_X8_shift (by decide +kernel) rfl (by decide) (by decide) rfl rfl (Nat.le_of_ble_eq_true rfl) dX8_fit_6 (fun r_6 I_6 J_6 hp_6 => ?_)
      obtain ⟨rfl, rfl, rfl⟩ := hp_6
      refine x_goto (pc := 9) (tgt := 30) K dX8_fit_9 (by decide) ?_
      exact ret (pc := 30) dX8_fit_30 (⟨by simp [okM], rfl, fun k hk => upJ_ne hk _ _, fun j h1 h2 => by rw [upJ_in _ _ (memb_14 h1 h2)]; rfl, fun h => by cases h⟩) bz_nar
  · refine x_iload_n (pc := 0) K 1 dX8_fit_0 rfl rfl ?_
    refine x_if_ne (pc := 1) (tgt := 12) K dX8_fit_1 (by decide) (fun c_1 => ?_) (fun c_1 => ?_)
    · replace c_1 := cI_ne (a := 1) (b := 0) rfl rfl (by omega) (by omega) c_1
      refine x_iload_n (pc := 12) K 1 dX8_fit_12 rfl rfl ?_
      refine x_iconst (pc := 13) (v := 1) K dX8_fit_13 (by decide) ?_
      refine x_icmp_ne (pc := 14) (tgt := 25) K dX8_fit_14 (by decide) (fun c_14 => ?_) (fun c_14 => ?_)
      · replace c_14 := cI_ne (a := 1) (b := 1) rfl rfl (by omega) (by omega) c_14
        omega
      · replace c_14 := cI_eq (a := 1) (b := 1) rfl rfl (by omega) (by omega) c_14
        refine x_aload_n (pc := 17) K 0 dX8_fit_17 rfl rfl ?_
        refine x_iload_n (pc := 18) K 2 dX8_fit_18 rfl rfl ?_
        refine x_calliV (pc := 19) (st := []) (n := 1) K (by decide) sh_76 rfl (c_X8_turned l G _ _ _ n hn h12) gX8_fit_X8_turned (by decide +kernel) rfl (by decide) (by decide) rfl rfl (Nat.le_of_ble_eq_true rfl) dX8_fit_19 (fun r_19 I_19 J_19 hp_19 => ?_)
        obtain ⟨rfl, rfl, rfl⟩ := hp_19
        refine x_goto (pc := 22) (tgt := 30) K dX8_fit_22 (by decide) ?_
        exact ret (pc := 30) dX8_fit_30 (⟨by simp [okM], rfl, fun k hk => upJ_ne hk _ _, fun j h1 h2 => by rw [upJ_in _ _ (memb_14 h1 h2)]; rfl, fun h => by cases h⟩) bz_nar
    · replace c_1 := cI_eq (a := 1) (b := 0) rfl rfl (by omega) (by omega) c_1
      omega
  · refine x_iload_n (pc := 0) K 1 dX8_fit_0 rfl rfl ?_
    refine x_if_ne (pc := 1) (tgt := 12) K dX8_fit_1 (by decide) (fun c_1 => ?_) (fun c_1 => ?_)
    · replace c_1 := cI_ne (a := 2) (b := 0) rfl rfl (by omega) (by omega) c_1
      refine x_iload_n (pc := 12) K 1 dX8_fit_12 rfl rfl ?_
      refine x_iconst (pc := 13) (v := 1) K dX8_fit_13 (by decide) ?_
      refine x_icmp_ne (pc := 14) (tgt := 25) K dX8_fit_14 (by decide) (fun c_14 => ?_) (fun c_14 => ?_)
      · replace c_14 := cI_ne (a := 2) (b := 1) rfl rfl (by omega) (by omega) c_14
        refine x_aload_n (pc := 25) K 0 dX8_fit_25 rfl rfl ?_
        refine x_iload_n (pc := 26) K 2 dX8_fit_26 rfl rfl ?_
        refine x_calliV (pc := 27) (st := []) (n := 1) K (by decide) sh_76 rfl (c_X8_shrunk l G _ _ _ n hn h12) gX8_fit_X8_shrunk (by decide +kernel) rfl (by decide) (by decide) rfl rfl (Nat.le_of_ble_eq_true rfl) dX8_fit_27 (fun r_27 I_27 J_27 hp_27 => ?_)
        obtain ⟨rfl, rfl, rfl⟩ := hp_27
        exact ret (pc := 30) dX8_fit_30 (⟨by simp [okM], rfl, fun k hk => upJ_ne hk _ _, fun j h1 h2 => by rw [upJ_in _ _ (memb_16 h1 (by omega))]; rfl, fun _ j h1 h2 => by rw [upJ_in _ _ (memb_16 (by omega) h2)]; rfl⟩) bz_nar
      · replace c_14 := cI_eq (a := 2) (b := 1) rfl rfl (by omega) (by omega) c_14
        omega
    · replace c_1 := cI_eq (a := 2) (b := 0) rfl rfl (by omega) (by omega) c_1
      omega

