/-! fractions; the fit of a bend -/
def gcdS : Nat → Int64 → Int64 → Int64
  | 0, g, _ => g
  | f + 1, g, l => if l = 0 then g else gcdS f l (g - g / l * l)
theorem gcdS_z (f : Nat) (g : Int64) : gcdS f g 0 = g := by cases f <;> simp [gcdS]
theorem gcdS_s {f : Nat} {g l : Int64} (h : ¬ l = 0) : gcdS (f + 1) g l = gcdS f l (g - g / l * l) := by simp [gcdS, h]
def clr (a b : Int64) (part : Int32) : Int64 := if b = 0 ∨ gcdS 100 (ab64 a) (ab64 b) = 0 then -4000000000000000000 else if 0 ≤ b then (if part = 0 then a else b) / gcdS 100 (ab64 a) (ab64 b) else -((if part = 0 then a else b) / gcdS 100 (ab64 a) (ab64 b))
def fsJ (J : hJ) : hJ := setW (setW J 56 (J 55 6) 0 (J 58 2 - J 58 0) (J 55 6)) 57 0 (J 55 6) (J 58 3 - J 58 1) (J 55 6)
def ftD (I : hI) (J : hJ) : Int64 := spr I J 0 0 + spr I J 1 1
def ftP (I : hI) (J : hJ) : Int64 := spr I J 0 2 + spr I J 1 3
def ftQ (I : hI) (J : hJ) : Int64 := spr I J 0 3 - spr I J 1 2
def ftJ (I : hI) (J : hJ) : hJ := setW (setW J 56 (J 55 6 * ftP I J) (-(J 55 6) * ftQ I J) (ftD I J * J 58 2 - ftP I J * J 58 0 + ftQ I J * J 58 1) (J 55 6 * ftD I J)) 57 (J 55 6 * ftQ I J) (J 55 6 * ftP I J) (ftD I J * J 58 3 - ftQ I J * J 58 0 - ftP I J * J 58 1) (J 55 6 * ftD I J)
def fkJ (I : hI) (J : hJ) (ax : Nat) : hJ := setW J (56 + ax) (if ax = 0 then J 55 6 * spr I J ax (ax + 2) else 0) (if ax = 0 then 0 else J 55 6 * spr I J ax (ax + 2)) (spr I J ax ax * J 58 (ax + 2) - spr I J ax (ax + 2) * J 58 ax) (J 55 6 * spr I J ax ax)
set_option maxHeartbeats 1000000 in
set_option maxRecDepth 100000 in
theorem c_X7_commonDivisor (l : Launch) (G : hQ) (I : hI) (J : hJ) (a b : Int64) : h_Ml l yX7_commonDivisor wsX7_commonDivisor 0 0 G [.long a, .long b] I J (fun ρ I' J' => gcdS 100 a b = ρ ∧ I = I' ∧ J = J') := by
  refine h_Ml.of (cc := cX7_commonDivisor) (maxL := 11) [(0, .long a), (2, .long b)] (by decide +kernel) rfl (Nat.le_of_ble_eq_true rfl) rfl ?_
  intro Γ K ret
  have loop : ∀ k, k ≤ 100 → ∀ (g q : Int64), (gcdS 100 a b = gcdS (100 - k) g q) → h_WW Γ G 9 [(8, .int (nI k)), (6, .long q), (4, .long g)] [] I J := by
    refine loopU 100 (fun k hk ih => ?_)
    intro g q
    intro hi
    refine x_iload (pc := 9) K 0 dX7_commonDivisor_9 rfl ?_
    refine x_bipush (pc := 11) (v := 100) K dX7_commonDivisor_11 (by decide) ?_
    refine x_icmp_ge (pc := 13) (tgt := 44) K dX7_commonDivisor_13 (by decide) (fun c_13 => ?_) (fun c_13 => ?_)
    · replace c_13 := cI_le (a := 100) (b := k) rfl rfl (by omega) (by omega) c_13
      refine x_lload (pc := 44) K 2 dX7_commonDivisor_44 rfl ?_
      exact ret (pc := 46) dX7_commonDivisor_46 (⟨by rw [hi, show 100 - k = 0 by omega]; rfl, rfl, rfl⟩)
    · replace c_13 := cI_nle (a := 100) (b := k) rfl rfl (by omega) (by omega) c_13
      refine x_lload (pc := 16) K 1 dX7_commonDivisor_16 rfl ?_
      refine x_lconst (pc := 18) (v := 0) K dX7_commonDivisor_18 (by decide) ?_
      refine x_lcmp (pc := 19) K dX7_commonDivisor_19 ?_
      refine x_if_eq (pc := 20) (tgt := 44) K dX7_commonDivisor_20 (by decide) (fun c_20 => ?_) (fun c_20 => ?_)
      · replace c_20 := (lg_cmp_eq _ _).mp c_20
        refine x_lload (pc := 44) K 2 dX7_commonDivisor_44 rfl ?_
        exact ret (pc := 46) dX7_commonDivisor_46 (⟨by rw [hi, c_20, gcdS_z], rfl, rfl⟩)
      · replace c_20 := mt (lg_cmp_eq _ _).mpr c_20
        refine x_lload (pc := 23) K 2 dX7_commonDivisor_23 rfl ?_
        refine x_lload (pc := 25) K 1 dX7_commonDivisor_25 rfl ?_
        refine x_lrem (pc := 27) K dX7_commonDivisor_27 c_20 ?_
        refine x_lstore (pc := 28) (lo' := [(9, _), (8, _), (6, _), (4, _)]) K dX7_commonDivisor_28 (by decide) rfl ?_
        refine x_lload (pc := 30) K 2 dX7_commonDivisor_30 rfl ?_
        refine x_lstore (pc := 32) (lo' := [(4, _), (9, _), (8, _), (6, _)]) K dX7_commonDivisor_32 (by decide) rfl ?_
        refine x_lload (pc := 34) K 1 dX7_commonDivisor_34 rfl ?_
        refine x_lstore (pc := 36) (lo' := [(6, _), (4, _), (9, _), (8, _)]) K dX7_commonDivisor_36 (by decide) rfl ?_
        refine x_iinc (pc := 38) (q0 := 3) (v := nI (k + 1)) (lo' := [(8, _), (6, _), (4, _), (9, _)]) K dX7_commonDivisor_38 rfl (nI_incE rfl) (by decide) rfl ?_
        refine x_goto (pc := 41) (tgt := 9) K dX7_commonDivisor_41 (by decide) ?_
        refine x_lo (lo' := [(8, _), (6, _), (4, _)]) [0, 1, 2] rfl ?_
        exact x_loe (by rfl) (ih (by omega) _ _ (by rw [hi, show 100 - k = (100 - (k + 1)) + 1 by omega, gcdS_s c_20]))
  refine x_lload_n (pc := 0) K 0 dX7_commonDivisor_0 rfl rfl ?_
  refine x_lstore (pc := 1) (lo' := [(4, _), (0, _), (2, _)]) K dX7_commonDivisor_1 (by decide) rfl ?_
  refine x_lload_n (pc := 3) K 2 dX7_commonDivisor_3 rfl rfl ?_
  refine x_lstore (pc := 4) (lo' := [(6, _), (4, _), (0, _), (2, _)]) K dX7_commonDivisor_4 (by decide) rfl ?_
  refine x_iconst (pc := 6) (v := 0) K dX7_commonDivisor_6 (by decide) ?_
  refine x_istore (pc := 7) (lo' := [(8, _), (6, _), (4, _), (0, _), (2, _)]) K dX7_commonDivisor_7 (by decide) rfl ?_
  refine x_lo (lo' := [(8, _), (6, _), (4, _)]) [0, 1, 2] rfl ?_
  exact x_loe (by rfl) (loop 0 (Nat.zero_le _) _ _ rfl)

set_option maxHeartbeats 1000000 in
set_option maxRecDepth 100000 in
theorem c_X7_cleared (l : Launch) (G : hQ) (I : hI) (J : hJ) (a b : Int64) (part : Int32) : h_Ml l yX7_cleared wsX7_cleared 1 30 G [.long a, .long b, .int part] I J (fun ρ I' J' => clr a b part = ρ ∧ I = I' ∧ J = J') := by
  refine h_Ml.of (cc := cX7_cleared) (maxL := 9) [(0, .long a), (2, .long b), (4, .int part)] (by decide +kernel) rfl (Nat.le_of_ble_eq_true rfl) rfl ?_
  intro Γ K ret
  refine x_lload_n (pc := 0) K 0 dX7_cleared_0 rfl rfl ?_
  refine y_absl (pc := 1) (st := []) K (by decide +kernel) (by decide +kernel) (by decide +kernel) (by decide +kernel) (by decide) (Nat.le_of_ble_eq_true rfl) dX7_cleared_1 ?_
  refine x_lload_n (pc := 4) K 1 dX7_cleared_4 rfl rfl ?_
  refine y_absl (pc := 5) (st := [_]) K (by decide +kernel) (by decide +kernel) (by decide +kernel) (by decide +kernel) (by decide) (Nat.le_of_ble_eq_true rfl) dX7_cleared_5 ?_
  refine x_calllS (pc := 8) (st := []) (n := 2) K (c_X7_commonDivisor l G _ _ _ _) gX7_cleared_X7_commonDivisor (by decide +kernel) rfl (by decide) (by decide) rfl rfl (Nat.le_of_ble_eq_true rfl) dX7_cleared_8 (fun r_8 I_8 J_8 hp_8 => ?_)
  obtain ⟨rfl, rfl, rfl⟩ := hp_8
  refine x_lstore (pc := 11) (lo' := [(5, _), (0, _), (2, _), (4, _)]) K dX7_cleared_11 (by decide) rfl ?_
  refine x_lload_n (pc := 13) K 2 dX7_cleared_13 rfl rfl ?_
  refine x_lconst (pc := 14) (v := 0) K dX7_cleared_14 (by decide) ?_
  refine x_lcmp (pc := 15) K dX7_cleared_15 ?_
  refine x_if_eq (pc := 16) (tgt := 26) K dX7_cleared_16 (by decide) (fun c_16 => ?_) (fun c_16 => ?_)
  · replace c_16 := (lg_cmp_eq _ _).mp c_16
    refine x_ldc2_w (pc := 26) (v := (-4000000000000000000)) K (by decide +kernel) dX7_cleared_26 ?_
    exact ret (pc := 29) dX7_cleared_29 (⟨by simp [clr, *], rfl, rfl⟩)
  · replace c_16 := mt (lg_cmp_eq _ _).mpr c_16
    refine x_lload (pc := 19) K 0 dX7_cleared_19 rfl ?_
    refine x_lconst (pc := 21) (v := 0) K dX7_cleared_21 (by decide) ?_
    refine x_lcmp (pc := 22) K dX7_cleared_22 ?_
    refine x_if_ne (pc := 23) (tgt := 30) K dX7_cleared_23 (by decide) (fun c_23 => ?_) (fun c_23 => ?_)
    · replace c_23 := mt (lg_cmp_eq _ _).mpr c_23
      refine x_iload (pc := 30) K 3 dX7_cleared_30 rfl ?_
      refine x_if_ne (pc := 32) (tgt := 39) K dX7_cleared_32 (by decide) (fun c_32 => ?_) (fun c_32 => ?_)
      · refine x_lload_n (pc := 39) K 2 dX7_cleared_39 rfl rfl ?_
        refine x_lload (pc := 40) K 0 dX7_cleared_40 rfl ?_
        refine x_ldiv (pc := 42) K dX7_cleared_42 c_23 ?_
        refine x_lstore (pc := 43) (lo' := [(7, _), (5, _), (0, _), (2, _), (4, _)]) K dX7_cleared_43 (by decide) rfl ?_
        refine x_lload_n (pc := 45) K 3 dX7_cleared_45 rfl rfl ?_
        refine x_lconst (pc := 46) (v := 0) K dX7_cleared_46 (by decide) ?_
        refine x_lcmp (pc := 47) K dX7_cleared_47 ?_
        refine x_if_ge (pc := 48) (tgt := 57) K dX7_cleared_48 (by decide) (fun c_48 => ?_) (fun c_48 => ?_)
        · replace c_48 := (lg_cmp_ge _ _).mp c_48
          refine x_lload (pc := 57) K 0 dX7_cleared_57 rfl ?_
          exact ret (pc := 59) dX7_cleared_59 (⟨by simp [clr, *], rfl, rfl⟩)
        · replace c_48 := mt (lg_cmp_ge _ _).mpr c_48
          refine x_lload (pc := 51) K 0 dX7_cleared_51 rfl ?_
          refine x_lneg (pc := 53) K dX7_cleared_53 ?_
          refine x_goto (pc := 54) (tgt := 59) K dX7_cleared_54 (by decide) ?_
          exact ret (pc := 59) dX7_cleared_59 (⟨by simp [clr, *], rfl, rfl⟩)
      · refine x_lload_n (pc := 35) K 1 dX7_cleared_35 rfl rfl ?_
        refine x_goto (pc := 36) (tgt := 40) K dX7_cleared_36 (by decide) ?_
        refine x_lload (pc := 40) K 0 dX7_cleared_40 rfl ?_
        refine x_ldiv (pc := 42) K dX7_cleared_42 c_23 ?_
        refine x_lstore (pc := 43) (lo' := [(7, _), (5, _), (0, _), (2, _), (4, _)]) K dX7_cleared_43 (by decide) rfl ?_
        refine x_lload_n (pc := 45) K 3 dX7_cleared_45 rfl rfl ?_
        refine x_lconst (pc := 46) (v := 0) K dX7_cleared_46 (by decide) ?_
        refine x_lcmp (pc := 47) K dX7_cleared_47 ?_
        refine x_if_ge (pc := 48) (tgt := 57) K dX7_cleared_48 (by decide) (fun c_48 => ?_) (fun c_48 => ?_)
        · replace c_48 := (lg_cmp_ge _ _).mp c_48
          refine x_lload (pc := 57) K 0 dX7_cleared_57 rfl ?_
          exact ret (pc := 59) dX7_cleared_59 (⟨by simp [clr, *], rfl, rfl⟩)
        · replace c_48 := mt (lg_cmp_ge _ _).mpr c_48
          refine x_lload (pc := 51) K 0 dX7_cleared_51 rfl ?_
          refine x_lneg (pc := 53) K dX7_cleared_53 ?_
          refine x_goto (pc := 54) (tgt := 59) K dX7_cleared_54 (by decide) ?_
          exact ret (pc := 59) dX7_cleared_59 (⟨by simp [clr, *], rfl, rfl⟩)
    · replace c_23 := (lg_cmp_eq _ _).mp c_23
      refine x_ldc2_w (pc := 26) (v := (-4000000000000000000)) K (by decide +kernel) dX7_cleared_26 ?_
      exact ret (pc := 29) dX7_cleared_29 (⟨by simp [clr, *], rfl, rfl⟩)

set_option maxHeartbeats 1000000 in
set_option maxRecDepth 100000 in
theorem c_X0_fitShift (l : Launch) (G : hQ) (I : hI) (J : hJ) : h_Mi l yX0_fitShift wsX0_fitShift 1 28 G [rr G 55] I J (fun ρ I' J' => bz (¬ J 55 6 ≤ 0) = ρ ∧ I = I' ∧ fsJ J = J') := by
  refine h_Mi.of (ty := .boolean) (cc := cX0_fitShift) (maxL := 1) [(0, rr G 55)] (by decide +kernel) rfl (Nat.le_of_ble_eq_true rfl) rfl ?_
  intro Γ K ret
  have i_X0 : ∀ w ∈ u_ws RX0 TX0 7, w ∈ wsX0_fitShift := by decide +kernel
  refine x_aload_n (pc := 0) K 0 dX0_fitShift_0 rfl rfl ?_
  refine x_getr (r0 := 56) (pc := 1) (index := 12) (C := RX0) (T := TX0) (N := 7) (j0 := 1) (ref := "OldMap$Bend") K (by decide) sh_55 rfl i_X0 (by decide) (by decide +kernel) rfl rfl rf_55_1 dX0_fitShift_1 ?_
  refine x_aload_n (pc := 4) K 0 dX0_fitShift_4 rfl rfl ?_
  refine x_getl (pc := 5) (index := 34) (C := RX0) (T := TX0) (N := 7) (j0 := 6) (ref := "OldMap$Bend") K (by decide) sh_55 rfl i_X0 (by decide) (by decide +kernel) rfl rfl dX0_fitShift_5 ?_
  refine x_lconst (pc := 8) (v := 0) K dX0_fitShift_8 (by decide) ?_
  refine x_aload_n (pc := 9) K 0 dX0_fitShift_9 rfl rfl ?_
  refine x_getr (r0 := 58) (pc := 10) (index := 23) (C := RX0) (T := TX0) (N := 7) (j0 := 3) (ref := "OldMap$Bend") K (by decide) sh_55 rfl i_X0 (by decide) (by decide +kernel) rfl rfl rf_55_3 dX0_fitShift_10 ?_
  refine x_iconst (pc := 13) (v := 2) K dX0_fitShift_13 (by decide) ?_
  refine y_lald (j := 2) (pc := 14) K (by decide) sh_58 rfl (by omega) (by decide) dX0_fitShift_14 ?_
  refine x_aload_n (pc := 15) K 0 dX0_fitShift_15 rfl rfl ?_
  refine x_getr (r0 := 58) (pc := 16) (index := 23) (C := RX0) (T := TX0) (N := 7) (j0 := 3) (ref := "OldMap$Bend") K (by decide) sh_55 rfl i_X0 (by decide) (by decide +kernel) rfl rfl rf_55_3 dX0_fitShift_16 ?_
  refine x_iconst (pc := 19) (v := 0) K dX0_fitShift_19 (by decide) ?_
  refine y_lald (j := 0) (pc := 20) K (by decide) sh_58 rfl (by omega) (by decide) dX0_fitShift_20 ?_
  refine x_lsub (pc := 21) K dX0_fitShift_21 ?_
  refine x_aload_n (pc := 22) K 0 dX0_fitShift_22 rfl rfl ?_
  refine x_getl (pc := 23) (index := 34) (C := RX0) (T := TX0) (N := 7) (j0 := 6) (ref := "OldMap$Bend") K (by decide) sh_55 rfl i_X0 (by decide) (by decide +kernel) rfl rfl dX0_fitShift_23 ?_
  refine x_callvN (pc := 26) (st := []) (n := 4) K (by decide) sh_56 rfl (c_X6_set56 l G _ _ _ _ _ _) (host := "OldMap") gX0_fitShift_X6_set_n63 (by decide +kernel) (by decide +kernel) (by decide +kernel) (by decide +kernel) (by decide +kernel) rfl (by decide) (by decide) rfl rfl (Nat.le_of_ble_eq_true rfl) dX0_fitShift_26 (fun I_26 J_26 hp_26 => ?_)
  obtain ⟨rfl, rfl⟩ := hp_26
  refine x_aload_n (pc := 29) K 0 dX0_fitShift_29 rfl rfl ?_
  refine x_getr (r0 := 57) (pc := 30) (index := 18) (C := RX0) (T := TX0) (N := 7) (j0 := 2) (ref := "OldMap$Bend") K (by decide) sh_55 rfl i_X0 (by decide) (by decide +kernel) rfl rfl rf_55_2 dX0_fitShift_30 ?_
  refine x_lconst (pc := 33) (v := 0) K dX0_fitShift_33 (by decide) ?_
  refine x_aload_n (pc := 34) K 0 dX0_fitShift_34 rfl rfl ?_
  refine x_getl (pc := 35) (index := 34) (C := RX0) (T := TX0) (N := 7) (j0 := 6) (ref := "OldMap$Bend") K (by decide) sh_55 rfl i_X0 (by decide) (by decide +kernel) rfl rfl dX0_fitShift_35 ?_
  refine x_aload_n (pc := 38) K 0 dX0_fitShift_38 rfl rfl ?_
  refine x_getr (r0 := 58) (pc := 39) (index := 23) (C := RX0) (T := TX0) (N := 7) (j0 := 3) (ref := "OldMap$Bend") K (by decide) sh_55 rfl i_X0 (by decide) (by decide +kernel) rfl rfl rf_55_3 dX0_fitShift_39 ?_
  refine x_iconst (pc := 42) (v := 3) K dX0_fitShift_42 (by decide) ?_
  refine y_lald (j := 3) (pc := 43) K (by decide) sh_58 rfl (by omega) (by decide) dX0_fitShift_43 ?_
  refine x_tople (J 58 3) (by simp [setW, h_upL]) ?_
  refine x_aload_n (pc := 44) K 0 dX0_fitShift_44 rfl rfl ?_
  refine x_getr (r0 := 58) (pc := 45) (index := 23) (C := RX0) (T := TX0) (N := 7) (j0 := 3) (ref := "OldMap$Bend") K (by decide) sh_55 rfl i_X0 (by decide) (by decide +kernel) rfl rfl rf_55_3 dX0_fitShift_45 ?_
  refine x_iconst (pc := 48) (v := 1) K dX0_fitShift_48 (by decide) ?_
  refine y_lald (j := 1) (pc := 49) K (by decide) sh_58 rfl (by omega) (by decide) dX0_fitShift_49 ?_
  refine x_tople (J 58 1) (by simp [setW, h_upL]) ?_
  refine x_lsub (pc := 50) K dX0_fitShift_50 ?_
  refine x_aload_n (pc := 51) K 0 dX0_fitShift_51 rfl rfl ?_
  refine x_getl (pc := 52) (index := 34) (C := RX0) (T := TX0) (N := 7) (j0 := 6) (ref := "OldMap$Bend") K (by decide) sh_55 rfl i_X0 (by decide) (by decide +kernel) rfl rfl dX0_fitShift_52 ?_
  refine x_callvN (pc := 55) (st := []) (n := 4) K (by decide) sh_57 rfl (c_X6_set57 l G _ _ _ _ _ _) (host := "OldMap") gX0_fitShift_X6_set_n63 (by decide +kernel) (by decide +kernel) (by decide +kernel) (by decide +kernel) (by decide +kernel) rfl (by decide) (by decide) rfl rfl (Nat.le_of_ble_eq_true rfl) dX0_fitShift_55 (fun I_55 J_55 hp_55 => ?_)
  obtain ⟨rfl, rfl⟩ := hp_55
  refine x_aload_n (pc := 58) K 0 dX0_fitShift_58 rfl rfl ?_
  refine x_getl (pc := 59) (index := 34) (C := RX0) (T := TX0) (N := 7) (j0 := 6) (ref := "OldMap$Bend") K (by decide) sh_55 rfl i_X0 (by decide) (by decide +kernel) rfl rfl dX0_fitShift_59 ?_
  refine x_lconst (pc := 62) (v := 0) K dX0_fitShift_62 (by decide) ?_
  refine x_lcmp (pc := 63) K dX0_fitShift_63 ?_
  refine x_if_le (pc := 64) (tgt := 71) K dX0_fitShift_64 (by decide) (fun c_64 => ?_) (fun c_64 => ?_)
  · replace c_64 := (lg_cmp_le _ _).mp c_64
    refine x_iconst (pc := 71) (v := 0) K dX0_fitShift_71 (by decide) ?_
    exact ret (pc := 72) dX0_fitShift_72 (⟨by first | exact bz_1.mpr (by assumption) | exact bz_0.mpr (fun h => h (by assumption)), rfl, rfl⟩) rfl
  · replace c_64 := mt (lg_cmp_le _ _).mpr c_64
    refine x_iconst (pc := 67) (v := 1) K dX0_fitShift_67 (by decide) ?_
    refine x_goto (pc := 68) (tgt := 72) K dX0_fitShift_68 (by decide) ?_
    exact ret (pc := 72) dX0_fitShift_72 (⟨by first | exact bz_1.mpr (by assumption) | exact bz_0.mpr (fun h => h (by assumption)), rfl, rfl⟩) rfl

set_option maxHeartbeats 1000000 in
set_option maxRecDepth 100000 in
theorem c_X0_fitTurned (l : Launch) (G : hQ) (I : hI) (J : hJ) : h_Mi l yX0_fitTurned wsX0_fitTurned 1 28 G [rr G 55] I J (fun ρ I' J' => bz (¬ ftD I J ≤ 0) = ρ ∧ I = I' ∧ ftJ I J = J') := by
  refine h_Mi.of (ty := .boolean) (cc := cX0_fitTurned) (maxL := 7) [(0, rr G 55)] (by decide +kernel) rfl (Nat.le_of_ble_eq_true rfl) rfl ?_
  intro Γ K ret
  have i_X0 : ∀ w ∈ u_ws RX0 TX0 7, w ∈ wsX0_fitTurned := by decide +kernel
  refine x_aload_n (pc := 0) K 0 dX0_fitTurned_0 rfl rfl ?_
  refine x_iconst (pc := 1) (v := 0) K dX0_fitTurned_1 (by decide) ?_
  refine x_iconst (pc := 2) (v := 0) K dX0_fitTurned_2 (by decide) ?_
  refine x_calllV (pc := 3) (st := []) (n := 2) K (by decide) sh_55 rfl (c_X0_spread l G _ _ 0 0 (by omega) (by omega)) gX0_fitTurned_X0_spread (by decide +kernel) rfl (by decide) (by decide) rfl rfl (Nat.le_of_ble_eq_true rfl) dX0_fitTurned_3 (fun r_3 I_3 J_3 hp_3 => ?_)
  obtain ⟨rfl, rfl, rfl⟩ := hp_3
  refine x_aload_n (pc := 6) K 0 dX0_fitTurned_6 rfl rfl ?_
  refine x_iconst (pc := 7) (v := 1) K dX0_fitTurned_7 (by decide) ?_
  refine x_iconst (pc := 8) (v := 1) K dX0_fitTurned_8 (by decide) ?_
  refine x_calllV (pc := 9) (st := [_]) (n := 2) K (by decide) sh_55 rfl (c_X0_spread l G _ _ 1 1 (by omega) (by omega)) gX0_fitTurned_X0_spread (by decide +kernel) rfl (by decide) (by decide) rfl rfl (Nat.le_of_ble_eq_true rfl) dX0_fitTurned_9 (fun r_9 I_9 J_9 hp_9 => ?_)
  obtain ⟨rfl, rfl, rfl⟩ := hp_9
  refine x_ladd (pc := 12) K dX0_fitTurned_12 ?_
  refine x_tople (ftD I J) rfl ?_
  refine x_lstore_n (pc := 13) (lo' := [(1, _), (0, _)]) K dX0_fitTurned_13 rfl (by decide) rfl ?_
  refine x_aload_n (pc := 14) K 1 dX0_fitTurned_14 rfl rfl ?_
  refine x_iconst (pc := 15) (v := 0) K dX0_fitTurned_15 (by decide) ?_
  refine x_iconst (pc := 16) (v := 2) K dX0_fitTurned_16 (by decide) ?_
  refine x_calllV (pc := 17) (st := []) (n := 2) K (by decide) sh_55 rfl (c_X0_spread l G _ _ 0 2 (by omega) (by omega)) gX0_fitTurned_X0_spread (by decide +kernel) rfl (by decide) (by decide) rfl rfl (Nat.le_of_ble_eq_true rfl) dX0_fitTurned_17 (fun r_17 I_17 J_17 hp_17 => ?_)
  obtain ⟨rfl, rfl, rfl⟩ := hp_17
  refine x_aload_n (pc := 20) K 1 dX0_fitTurned_20 rfl rfl ?_
  refine x_iconst (pc := 21) (v := 1) K dX0_fitTurned_21 (by decide) ?_
  refine x_iconst (pc := 22) (v := 3) K dX0_fitTurned_22 (by decide) ?_
  refine x_calllV (pc := 23) (st := [_]) (n := 2) K (by decide) sh_55 rfl (c_X0_spread l G _ _ 1 3 (by omega) (by omega)) gX0_fitTurned_X0_spread (by decide +kernel) rfl (by decide) (by decide) rfl rfl (Nat.le_of_ble_eq_true rfl) dX0_fitTurned_23 (fun r_23 I_23 J_23 hp_23 => ?_)
  obtain ⟨rfl, rfl, rfl⟩ := hp_23
  refine x_ladd (pc := 26) K dX0_fitTurned_26 ?_
  refine x_tople (ftP I J) rfl ?_
  refine x_lstore_n (pc := 27) (lo' := [(3, _), (1, _), (0, _)]) K dX0_fitTurned_27 rfl (by decide) rfl ?_
  refine x_aload_n (pc := 28) K 2 dX0_fitTurned_28 rfl rfl ?_
  refine x_iconst (pc := 29) (v := 0) K dX0_fitTurned_29 (by decide) ?_
  refine x_iconst (pc := 30) (v := 3) K dX0_fitTurned_30 (by decide) ?_
  refine x_calllV (pc := 31) (st := []) (n := 2) K (by decide) sh_55 rfl (c_X0_spread l G _ _ 0 3 (by omega) (by omega)) gX0_fitTurned_X0_spread (by decide +kernel) rfl (by decide) (by decide) rfl rfl (Nat.le_of_ble_eq_true rfl) dX0_fitTurned_31 (fun r_31 I_31 J_31 hp_31 => ?_)
  obtain ⟨rfl, rfl, rfl⟩ := hp_31
  refine x_aload_n (pc := 34) K 2 dX0_fitTurned_34 rfl rfl ?_
  refine x_iconst (pc := 35) (v := 1) K dX0_fitTurned_35 (by decide) ?_
  refine x_iconst (pc := 36) (v := 2) K dX0_fitTurned_36 (by decide) ?_
  refine x_calllV (pc := 37) (st := [_]) (n := 2) K (by decide) sh_55 rfl (c_X0_spread l G _ _ 1 2 (by omega) (by omega)) gX0_fitTurned_X0_spread (by decide +kernel) rfl (by decide) (by decide) rfl rfl (Nat.le_of_ble_eq_true rfl) dX0_fitTurned_37 (fun r_37 I_37 J_37 hp_37 => ?_)
  obtain ⟨rfl, rfl, rfl⟩ := hp_37
  refine x_lsub (pc := 40) K dX0_fitTurned_40 ?_
  refine x_tople (ftQ I J) rfl ?_
  refine x_lstore (pc := 41) (lo' := [(5, _), (3, _), (1, _), (0, _)]) K dX0_fitTurned_41 (by decide) rfl ?_
  refine x_aload_n (pc := 43) K 3 dX0_fitTurned_43 rfl rfl ?_
  refine x_getr (r0 := 56) (pc := 44) (index := 12) (C := RX0) (T := TX0) (N := 7) (j0 := 1) (ref := "OldMap$Bend") K (by decide) sh_55 rfl i_X0 (by decide) (by decide +kernel) rfl rfl rf_55_1 dX0_fitTurned_44 ?_
  refine x_aload_n (pc := 47) K 3 dX0_fitTurned_47 rfl rfl ?_
  refine x_getl (pc := 48) (index := 34) (C := RX0) (T := TX0) (N := 7) (j0 := 6) (ref := "OldMap$Bend") K (by decide) sh_55 rfl i_X0 (by decide) (by decide +kernel) rfl rfl dX0_fitTurned_48 ?_
  refine x_lload_n (pc := 51) K 1 dX0_fitTurned_51 rfl rfl ?_
  refine x_lmul (pc := 52) K dX0_fitTurned_52 ?_
  refine x_aload_n (pc := 53) K 3 dX0_fitTurned_53 rfl rfl ?_
  refine x_getl (pc := 54) (index := 34) (C := RX0) (T := TX0) (N := 7) (j0 := 6) (ref := "OldMap$Bend") K (by decide) sh_55 rfl i_X0 (by decide) (by decide +kernel) rfl rfl dX0_fitTurned_54 ?_
  refine x_lneg (pc := 57) K dX0_fitTurned_57 ?_
  refine x_lload (pc := 58) K 0 dX0_fitTurned_58 rfl ?_
  refine x_lmul (pc := 60) K dX0_fitTurned_60 ?_
  refine x_lload_n (pc := 61) K 2 dX0_fitTurned_61 rfl rfl ?_
  refine x_aload_n (pc := 62) K 3 dX0_fitTurned_62 rfl rfl ?_
  refine x_getr (r0 := 58) (pc := 63) (index := 23) (C := RX0) (T := TX0) (N := 7) (j0 := 3) (ref := "OldMap$Bend") K (by decide) sh_55 rfl i_X0 (by decide) (by decide +kernel) rfl rfl rf_55_3 dX0_fitTurned_63 ?_
  refine x_iconst (pc := 66) (v := 2) K dX0_fitTurned_66 (by decide) ?_
  refine y_lald (j := 2) (pc := 67) K (by decide) sh_58 rfl (by omega) (by decide) dX0_fitTurned_67 ?_
  refine x_lmul (pc := 68) K dX0_fitTurned_68 ?_
  refine x_lload_n (pc := 69) K 1 dX0_fitTurned_69 rfl rfl ?_
  refine x_aload_n (pc := 70) K 3 dX0_fitTurned_70 rfl rfl ?_
  refine x_getr (r0 := 58) (pc := 71) (index := 23) (C := RX0) (T := TX0) (N := 7) (j0 := 3) (ref := "OldMap$Bend") K (by decide) sh_55 rfl i_X0 (by decide) (by decide +kernel) rfl rfl rf_55_3 dX0_fitTurned_71 ?_
  refine x_iconst (pc := 74) (v := 0) K dX0_fitTurned_74 (by decide) ?_
  refine y_lald (j := 0) (pc := 75) K (by decide) sh_58 rfl (by omega) (by decide) dX0_fitTurned_75 ?_
  refine x_lmul (pc := 76) K dX0_fitTurned_76 ?_
  refine x_lsub (pc := 77) K dX0_fitTurned_77 ?_
  refine x_lload (pc := 78) K 0 dX0_fitTurned_78 rfl ?_
  refine x_aload_n (pc := 80) K 3 dX0_fitTurned_80 rfl rfl ?_
  refine x_getr (r0 := 58) (pc := 81) (index := 23) (C := RX0) (T := TX0) (N := 7) (j0 := 3) (ref := "OldMap$Bend") K (by decide) sh_55 rfl i_X0 (by decide) (by decide +kernel) rfl rfl rf_55_3 dX0_fitTurned_81 ?_
  refine x_iconst (pc := 84) (v := 1) K dX0_fitTurned_84 (by decide) ?_
  refine y_lald (j := 1) (pc := 85) K (by decide) sh_58 rfl (by omega) (by decide) dX0_fitTurned_85 ?_
  refine x_lmul (pc := 86) K dX0_fitTurned_86 ?_
  refine x_ladd (pc := 87) K dX0_fitTurned_87 ?_
  refine x_aload_n (pc := 88) K 3 dX0_fitTurned_88 rfl rfl ?_
  refine x_getl (pc := 89) (index := 34) (C := RX0) (T := TX0) (N := 7) (j0 := 6) (ref := "OldMap$Bend") K (by decide) sh_55 rfl i_X0 (by decide) (by decide +kernel) rfl rfl dX0_fitTurned_89 ?_
  refine x_lload_n (pc := 92) K 2 dX0_fitTurned_92 rfl rfl ?_
  refine x_lmul (pc := 93) K dX0_fitTurned_93 ?_
  refine x_callvN (pc := 94) (st := []) (n := 4) K (by decide) sh_56 rfl (c_X6_set56 l G _ _ _ _ _ _) (host := "OldMap") gX0_fitTurned_X6_set_n63 (by decide +kernel) (by decide +kernel) (by decide +kernel) (by decide +kernel) (by decide +kernel) rfl (by decide) (by decide) rfl rfl (Nat.le_of_ble_eq_true rfl) dX0_fitTurned_94 (fun I_94 J_94 hp_94 => ?_)
  obtain ⟨rfl, rfl⟩ := hp_94
  refine x_aload_n (pc := 97) K 3 dX0_fitTurned_97 rfl rfl ?_
  refine x_getr (r0 := 57) (pc := 98) (index := 18) (C := RX0) (T := TX0) (N := 7) (j0 := 2) (ref := "OldMap$Bend") K (by decide) sh_55 rfl i_X0 (by decide) (by decide +kernel) rfl rfl rf_55_2 dX0_fitTurned_98 ?_
  refine x_aload_n (pc := 101) K 3 dX0_fitTurned_101 rfl rfl ?_
  refine x_getl (pc := 102) (index := 34) (C := RX0) (T := TX0) (N := 7) (j0 := 6) (ref := "OldMap$Bend") K (by decide) sh_55 rfl i_X0 (by decide) (by decide +kernel) rfl rfl dX0_fitTurned_102 ?_
  refine x_lload (pc := 105) K 0 dX0_fitTurned_105 rfl ?_
  refine x_lmul (pc := 107) K dX0_fitTurned_107 ?_
  refine x_aload_n (pc := 108) K 3 dX0_fitTurned_108 rfl rfl ?_
  refine x_getl (pc := 109) (index := 34) (C := RX0) (T := TX0) (N := 7) (j0 := 6) (ref := "OldMap$Bend") K (by decide) sh_55 rfl i_X0 (by decide) (by decide +kernel) rfl rfl dX0_fitTurned_109 ?_
  refine x_lload_n (pc := 112) K 1 dX0_fitTurned_112 rfl rfl ?_
  refine x_lmul (pc := 113) K dX0_fitTurned_113 ?_
  refine x_lload_n (pc := 114) K 2 dX0_fitTurned_114 rfl rfl ?_
  refine x_aload_n (pc := 115) K 3 dX0_fitTurned_115 rfl rfl ?_
  refine x_getr (r0 := 58) (pc := 116) (index := 23) (C := RX0) (T := TX0) (N := 7) (j0 := 3) (ref := "OldMap$Bend") K (by decide) sh_55 rfl i_X0 (by decide) (by decide +kernel) rfl rfl rf_55_3 dX0_fitTurned_116 ?_
  refine x_iconst (pc := 119) (v := 3) K dX0_fitTurned_119 (by decide) ?_
  refine y_lald (j := 3) (pc := 120) K (by decide) sh_58 rfl (by omega) (by decide) dX0_fitTurned_120 ?_
  refine x_tople (J 58 3) (by simp [setW, h_upL]) ?_
  refine x_lmul (pc := 121) K dX0_fitTurned_121 ?_
  refine x_lload (pc := 122) K 0 dX0_fitTurned_122 rfl ?_
  refine x_aload_n (pc := 124) K 3 dX0_fitTurned_124 rfl rfl ?_
  refine x_getr (r0 := 58) (pc := 125) (index := 23) (C := RX0) (T := TX0) (N := 7) (j0 := 3) (ref := "OldMap$Bend") K (by decide) sh_55 rfl i_X0 (by decide) (by decide +kernel) rfl rfl rf_55_3 dX0_fitTurned_125 ?_
  refine x_iconst (pc := 128) (v := 0) K dX0_fitTurned_128 (by decide) ?_
  refine y_lald (j := 0) (pc := 129) K (by decide) sh_58 rfl (by omega) (by decide) dX0_fitTurned_129 ?_
  refine x_tople (J 58 0) (by simp [setW, h_upL]) ?_
  refine x_lmul (pc := 130) K dX0_fitTurned_130 ?_
  refine x_lsub (pc := 131) K dX0_fitTurned_131 ?_
  refine x_lload_n (pc := 132) K 1 dX0_fitTurned_132 rfl rfl ?_
  refine x_aload_n (pc := 133) K 3 dX0_fitTurned_133 rfl rfl ?_
  refine x_getr (r0 := 58) (pc := 134) (index := 23) (C := RX0) (T := TX0) (N := 7) (j0 := 3) (ref := "OldMap$Bend") K (by decide) sh_55 rfl i_X0 (by decide) (by decide +kernel) rfl rfl rf_55_3 dX0_fitTurned_134 ?_
  refine x_iconst (pc := 137) (v := 1) K dX0_fitTurned_137 (by decide) ?_
  refine y_lald (j := 1) (pc := 138) K (by decide) sh_58 rfl (by omega) (by decide) dX0_fitTurned_138 ?_
  refine x_tople (J 58 1) (by simp [setW, h_upL]) ?_
  refine x_lmul (pc := 139) K dX0_fitTurned_139 ?_
  refine x_lsub (pc := 140) K dX0_fitTurned_140 ?_
  refine x_aload_n (pc := 141) K 3 dX0_fitTurned_141 rfl rfl ?_
  refine x_getl (pc := 142) (index := 34) (C := RX0) (T := TX0) (N := 7) (j0 := 6) (ref := "OldMap$Bend") K (by decide) sh_55 rfl i_X0 (by decide) (by decide +kernel) rfl rfl dX0_fitTurned_142 ?_
  refine x_lload_n (pc := 145) K 2 dX0_fitTurned_145 rfl rfl ?_
  refine x_lmul (pc := 146) K dX0_fitTurned_146 ?_
  refine x_callvN (pc := 147) (st := []) (n := 4) K (by decide) sh_57 rfl (c_X6_set57 l G _ _ _ _ _ _) (host := "OldMap") gX0_fitTurned_X6_set_n63 (by decide +kernel) (by decide +kernel) (by decide +kernel) (by decide +kernel) (by decide +kernel) rfl (by decide) (by decide) rfl rfl (Nat.le_of_ble_eq_true rfl) dX0_fitTurned_147 (fun I_147 J_147 hp_147 => ?_)
  obtain ⟨rfl, rfl⟩ := hp_147
  refine x_lload_n (pc := 150) K 2 dX0_fitTurned_150 rfl rfl ?_
  refine x_lconst (pc := 151) (v := 0) K dX0_fitTurned_151 (by decide) ?_
  refine x_lcmp (pc := 152) K dX0_fitTurned_152 ?_
  refine x_if_le (pc := 153) (tgt := 160) K dX0_fitTurned_153 (by decide) (fun c_153 => ?_) (fun c_153 => ?_)
  · replace c_153 := (lg_cmp_le _ _).mp c_153
    refine x_iconst (pc := 160) (v := 0) K dX0_fitTurned_160 (by decide) ?_
    exact ret (pc := 161) dX0_fitTurned_161 (⟨by first | exact bz_1.mpr (by assumption) | exact bz_0.mpr (fun h => h (by assumption)), rfl, rfl⟩) rfl
  · replace c_153 := mt (lg_cmp_le _ _).mpr c_153
    refine x_iconst (pc := 156) (v := 1) K dX0_fitTurned_156 (by decide) ?_
    refine x_goto (pc := 157) (tgt := 161) K dX0_fitTurned_157 (by decide) ?_
    exact ret (pc := 161) dX0_fitTurned_161 (⟨by first | exact bz_1.mpr (by assumption) | exact bz_0.mpr (fun h => h (by assumption)), rfl, rfl⟩) rfl

set_option maxHeartbeats 1000000 in
set_option maxRecDepth 100000 in
theorem c_X0_fitShrunk0 (l : Launch) (G : hQ) (I : hI) (J : hJ) : h_Mi l yX0_fitShrunk wsX0_fitShrunk 1 28 G [rr G 55, .int 0, rr G 56] I J (fun ρ I' J' => bz (¬ spr I J 0 0 ≤ 0) = ρ ∧ I = I' ∧ fkJ I J 0 = J') := by
  refine h_Mi.of (ty := .boolean) (cc := cX0_fitShrunk) (maxL := 11) [(0, rr G 55), (1, .int 0), (2, rr G 56)] (by decide +kernel) rfl (Nat.le_of_ble_eq_true rfl) rfl ?_
  intro Γ K ret
  have i_X0 : ∀ w ∈ u_ws RX0 TX0 7, w ∈ wsX0_fitShrunk := by decide +kernel
  refine x_aload_n (pc := 0) K 0 dX0_fitShrunk_0 rfl rfl ?_
  refine x_iload_n (pc := 1) K 1 dX0_fitShrunk_1 rfl rfl ?_
  refine x_iload_n (pc := 2) K 1 dX0_fitShrunk_2 rfl rfl ?_
  refine x_calllV (pc := 3) (st := []) (n := 2) K (by decide) sh_55 rfl (c_X0_spread l G _ _ 0 0 (by omega) (by omega)) gX0_fitShrunk_X0_spread (by decide +kernel) rfl (by decide) (by decide) rfl rfl (Nat.le_of_ble_eq_true rfl) dX0_fitShrunk_3 (fun r_3 I_3 J_3 hp_3 => ?_)
  obtain ⟨rfl, rfl, rfl⟩ := hp_3
  refine x_lstore_n (pc := 6) (lo' := [(3, _), (0, _), (1, _), (2, _)]) K dX0_fitShrunk_6 rfl (by decide) rfl ?_
  refine x_aload_n (pc := 7) K 1 dX0_fitShrunk_7 rfl rfl ?_
  refine x_iload_n (pc := 8) K 2 dX0_fitShrunk_8 rfl rfl ?_
  refine x_iload_n (pc := 9) K 2 dX0_fitShrunk_9 rfl rfl ?_
  refine x_iconst (pc := 10) (v := 2) K dX0_fitShrunk_10 (by decide) ?_
  refine x_iadd (pc := 11) K dX0_fitShrunk_11 ?_
  refine x_calllV (pc := 12) (st := []) (n := 2) K (by decide) sh_55 rfl (c_X0_spread l G _ _ 0 (0 + 2) (by omega) (by omega)) gX0_fitShrunk_X0_spread (by decide +kernel) rfl (by decide) (by decide) rfl rfl (Nat.le_of_ble_eq_true rfl) dX0_fitShrunk_12 (fun r_12 I_12 J_12 hp_12 => ?_)
  obtain ⟨rfl, rfl, rfl⟩ := hp_12
  refine x_lstore (pc := 15) (lo' := [(5, _), (3, _), (0, _), (1, _), (2, _)]) K dX0_fitShrunk_15 (by decide) rfl ?_
  refine x_iload_n (pc := 17) K 3 dX0_fitShrunk_17 rfl rfl ?_
  refine x_if_ne (pc := 18) (tgt := 31) K dX0_fitShrunk_18 (by decide) (fun c_18 => ?_) (fun c_18 => ?_)
  · replace c_18 := cI_ne (a := 0) (b := 0) rfl rfl (by omega) (by omega) c_18
    omega
  · replace c_18 := cI_eq (a := 0) (b := 0) rfl rfl (by omega) (by omega) c_18
    refine x_aload_n (pc := 21) K 2 dX0_fitShrunk_21 rfl rfl ?_
    refine x_getl (pc := 22) (index := 34) (C := RX0) (T := TX0) (N := 7) (j0 := 6) (ref := "OldMap$Bend") K (by decide) sh_55 rfl i_X0 (by decide) (by decide +kernel) rfl rfl dX0_fitShrunk_22 ?_
    refine x_lload (pc := 25) K 0 dX0_fitShrunk_25 rfl ?_
    refine x_lmul (pc := 27) K dX0_fitShrunk_27 ?_
    refine x_goto (pc := 28) (tgt := 32) K dX0_fitShrunk_28 (by decide) ?_
    refine x_lstore (pc := 32) (lo' := [(7, _), (5, _), (3, _), (0, _), (1, _), (2, _)]) K dX0_fitShrunk_32 (by decide) rfl ?_
    refine x_iload_n (pc := 34) K 4 dX0_fitShrunk_34 rfl rfl ?_
    refine x_if_ne (pc := 35) (tgt := 42) K dX0_fitShrunk_35 (by decide) (fun c_35 => ?_) (fun c_35 => ?_)
    · replace c_35 := cI_ne (a := 0) (b := 0) rfl rfl (by omega) (by omega) c_35
      omega
    · replace c_35 := cI_eq (a := 0) (b := 0) rfl rfl (by omega) (by omega) c_35
      refine x_lconst (pc := 38) (v := 0) K dX0_fitShrunk_38 (by decide) ?_
      refine x_goto (pc := 39) (tgt := 49) K dX0_fitShrunk_39 (by decide) ?_
      refine x_lstore (pc := 49) (lo' := [(9, _), (7, _), (5, _), (3, _), (0, _), (1, _), (2, _)]) K dX0_fitShrunk_49 (by decide) rfl ?_
      refine x_aload_n (pc := 51) K 6 dX0_fitShrunk_51 rfl rfl ?_
      refine x_lload (pc := 52) K 1 dX0_fitShrunk_52 rfl ?_
      refine x_lload (pc := 54) K 0 dX0_fitShrunk_54 rfl ?_
      refine x_lload_n (pc := 56) K 3 dX0_fitShrunk_56 rfl rfl ?_
      refine x_aload_n (pc := 57) K 4 dX0_fitShrunk_57 rfl rfl ?_
      refine x_getr (r0 := 58) (pc := 58) (index := 23) (C := RX0) (T := TX0) (N := 7) (j0 := 3) (ref := "OldMap$Bend") K (by decide) sh_55 rfl i_X0 (by decide) (by decide +kernel) rfl rfl rf_55_3 dX0_fitShrunk_58 ?_
      refine x_iload_n (pc := 61) K 5 dX0_fitShrunk_61 rfl rfl ?_
      refine x_iconst (pc := 62) (v := 2) K dX0_fitShrunk_62 (by decide) ?_
      refine x_iadd (pc := 63) K dX0_fitShrunk_63 ?_
      refine y_lald (j := (0 + 2)) (pc := 64) K (by decide) sh_58 (nI_addE rfl rfl) (by omega) (by decide) dX0_fitShrunk_64 ?_
      refine x_lmul (pc := 65) K dX0_fitShrunk_65 ?_
      refine x_lload (pc := 66) K 2 dX0_fitShrunk_66 rfl ?_
      refine x_aload_n (pc := 68) K 4 dX0_fitShrunk_68 rfl rfl ?_
      refine x_getr (r0 := 58) (pc := 69) (index := 23) (C := RX0) (T := TX0) (N := 7) (j0 := 3) (ref := "OldMap$Bend") K (by decide) sh_55 rfl i_X0 (by decide) (by decide +kernel) rfl rfl rf_55_3 dX0_fitShrunk_69 ?_
      refine x_iload_n (pc := 72) K 5 dX0_fitShrunk_72 rfl rfl ?_
      refine y_lald (j := 0) (pc := 73) K (by decide) sh_58 rfl (by omega) (by decide) dX0_fitShrunk_73 ?_
      refine x_lmul (pc := 74) K dX0_fitShrunk_74 ?_
      refine x_lsub (pc := 75) K dX0_fitShrunk_75 ?_
      refine x_aload_n (pc := 76) K 4 dX0_fitShrunk_76 rfl rfl ?_
      refine x_getl (pc := 77) (index := 34) (C := RX0) (T := TX0) (N := 7) (j0 := 6) (ref := "OldMap$Bend") K (by decide) sh_55 rfl i_X0 (by decide) (by decide +kernel) rfl rfl dX0_fitShrunk_77 ?_
      refine x_lload_n (pc := 80) K 3 dX0_fitShrunk_80 rfl rfl ?_
      refine x_lmul (pc := 81) K dX0_fitShrunk_81 ?_
      refine x_callvN (pc := 82) (st := []) (n := 4) K (by decide) sh_56 rfl (c_X6_set56 l G _ _ _ _ _ _) (host := "OldMap") gX0_fitShrunk_X6_set_n63 (by decide +kernel) (by decide +kernel) (by decide +kernel) (by decide +kernel) (by decide +kernel) rfl (by decide) (by decide) rfl rfl (Nat.le_of_ble_eq_true rfl) dX0_fitShrunk_82 (fun I_82 J_82 hp_82 => ?_)
      obtain ⟨rfl, rfl⟩ := hp_82
      refine x_lload_n (pc := 85) K 3 dX0_fitShrunk_85 rfl rfl ?_
      refine x_lconst (pc := 86) (v := 0) K dX0_fitShrunk_86 (by decide) ?_
      refine x_lcmp (pc := 87) K dX0_fitShrunk_87 ?_
      refine x_if_le (pc := 88) (tgt := 95) K dX0_fitShrunk_88 (by decide) (fun c_88 => ?_) (fun c_88 => ?_)
      · replace c_88 := (lg_cmp_le _ _).mp c_88
        refine x_iconst (pc := 95) (v := 0) K dX0_fitShrunk_95 (by decide) ?_
        exact ret (pc := 96) dX0_fitShrunk_96 (⟨by first | exact bz_1.mpr (by assumption) | exact bz_0.mpr (fun h => h (by assumption)), rfl, rfl⟩) rfl
      · replace c_88 := mt (lg_cmp_le _ _).mpr c_88
        refine x_iconst (pc := 91) (v := 1) K dX0_fitShrunk_91 (by decide) ?_
        refine x_goto (pc := 92) (tgt := 96) K dX0_fitShrunk_92 (by decide) ?_
        exact ret (pc := 96) dX0_fitShrunk_96 (⟨by first | exact bz_1.mpr (by assumption) | exact bz_0.mpr (fun h => h (by assumption)), rfl, rfl⟩) rfl

set_option maxHeartbeats 1000000 in
set_option maxRecDepth 100000 in
theorem c_X0_fitShrunk1 (l : Launch) (G : hQ) (I : hI) (J : hJ) : h_Mi l yX0_fitShrunk wsX0_fitShrunk 1 28 G [rr G 55, .int 1, rr G 57] I J (fun ρ I' J' => bz (¬ spr I J 1 1 ≤ 0) = ρ ∧ I = I' ∧ fkJ I J 1 = J') := by
  refine h_Mi.of (ty := .boolean) (cc := cX0_fitShrunk) (maxL := 11) [(0, rr G 55), (1, .int 1), (2, rr G 57)] (by decide +kernel) rfl (Nat.le_of_ble_eq_true rfl) rfl ?_
  intro Γ K ret
  have i_X0 : ∀ w ∈ u_ws RX0 TX0 7, w ∈ wsX0_fitShrunk := by decide +kernel
  refine x_aload_n (pc := 0) K 0 dX0_fitShrunk_0 rfl rfl ?_
  refine x_iload_n (pc := 1) K 1 dX0_fitShrunk_1 rfl rfl ?_
  refine x_iload_n (pc := 2) K 1 dX0_fitShrunk_2 rfl rfl ?_
  refine x_calllV (pc := 3) (st := []) (n := 2) K (by decide) sh_55 rfl (c_X0_spread l G _ _ 1 1 (by omega) (by omega)) gX0_fitShrunk_X0_spread (by decide +kernel) rfl (by decide) (by decide) rfl rfl (Nat.le_of_ble_eq_true rfl) dX0_fitShrunk_3 (fun r_3 I_3 J_3 hp_3 => ?_)
  obtain ⟨rfl, rfl, rfl⟩ := hp_3
  refine x_lstore_n (pc := 6) (lo' := [(3, _), (0, _), (1, _), (2, _)]) K dX0_fitShrunk_6 rfl (by decide) rfl ?_
  refine x_aload_n (pc := 7) K 1 dX0_fitShrunk_7 rfl rfl ?_
  refine x_iload_n (pc := 8) K 2 dX0_fitShrunk_8 rfl rfl ?_
  refine x_iload_n (pc := 9) K 2 dX0_fitShrunk_9 rfl rfl ?_
  refine x_iconst (pc := 10) (v := 2) K dX0_fitShrunk_10 (by decide) ?_
  refine x_iadd (pc := 11) K dX0_fitShrunk_11 ?_
  refine x_calllV (pc := 12) (st := []) (n := 2) K (by decide) sh_55 rfl (c_X0_spread l G _ _ 1 (1 + 2) (by omega) (by omega)) gX0_fitShrunk_X0_spread (by decide +kernel) rfl (by decide) (by decide) rfl rfl (Nat.le_of_ble_eq_true rfl) dX0_fitShrunk_12 (fun r_12 I_12 J_12 hp_12 => ?_)
  obtain ⟨rfl, rfl, rfl⟩ := hp_12
  refine x_lstore (pc := 15) (lo' := [(5, _), (3, _), (0, _), (1, _), (2, _)]) K dX0_fitShrunk_15 (by decide) rfl ?_
  refine x_iload_n (pc := 17) K 3 dX0_fitShrunk_17 rfl rfl ?_
  refine x_if_ne (pc := 18) (tgt := 31) K dX0_fitShrunk_18 (by decide) (fun c_18 => ?_) (fun c_18 => ?_)
  · replace c_18 := cI_ne (a := 1) (b := 0) rfl rfl (by omega) (by omega) c_18
    refine x_lconst (pc := 31) (v := 0) K dX0_fitShrunk_31 (by decide) ?_
    refine x_lstore (pc := 32) (lo' := [(7, _), (5, _), (3, _), (0, _), (1, _), (2, _)]) K dX0_fitShrunk_32 (by decide) rfl ?_
    refine x_iload_n (pc := 34) K 4 dX0_fitShrunk_34 rfl rfl ?_
    refine x_if_ne (pc := 35) (tgt := 42) K dX0_fitShrunk_35 (by decide) (fun c_35 => ?_) (fun c_35 => ?_)
    · replace c_35 := cI_ne (a := 1) (b := 0) rfl rfl (by omega) (by omega) c_35
      refine x_aload_n (pc := 42) K 3 dX0_fitShrunk_42 rfl rfl ?_
      refine x_getl (pc := 43) (index := 34) (C := RX0) (T := TX0) (N := 7) (j0 := 6) (ref := "OldMap$Bend") K (by decide) sh_55 rfl i_X0 (by decide) (by decide +kernel) rfl rfl dX0_fitShrunk_43 ?_
      refine x_lload (pc := 46) K 1 dX0_fitShrunk_46 rfl ?_
      refine x_lmul (pc := 48) K dX0_fitShrunk_48 ?_
      refine x_lstore (pc := 49) (lo' := [(9, _), (7, _), (5, _), (3, _), (0, _), (1, _), (2, _)]) K dX0_fitShrunk_49 (by decide) rfl ?_
      refine x_aload_n (pc := 51) K 6 dX0_fitShrunk_51 rfl rfl ?_
      refine x_lload (pc := 52) K 1 dX0_fitShrunk_52 rfl ?_
      refine x_lload (pc := 54) K 0 dX0_fitShrunk_54 rfl ?_
      refine x_lload_n (pc := 56) K 3 dX0_fitShrunk_56 rfl rfl ?_
      refine x_aload_n (pc := 57) K 4 dX0_fitShrunk_57 rfl rfl ?_
      refine x_getr (r0 := 58) (pc := 58) (index := 23) (C := RX0) (T := TX0) (N := 7) (j0 := 3) (ref := "OldMap$Bend") K (by decide) sh_55 rfl i_X0 (by decide) (by decide +kernel) rfl rfl rf_55_3 dX0_fitShrunk_58 ?_
      refine x_iload_n (pc := 61) K 5 dX0_fitShrunk_61 rfl rfl ?_
      refine x_iconst (pc := 62) (v := 2) K dX0_fitShrunk_62 (by decide) ?_
      refine x_iadd (pc := 63) K dX0_fitShrunk_63 ?_
      refine y_lald (j := (1 + 2)) (pc := 64) K (by decide) sh_58 (nI_addE rfl rfl) (by omega) (by decide) dX0_fitShrunk_64 ?_
      refine x_lmul (pc := 65) K dX0_fitShrunk_65 ?_
      refine x_lload (pc := 66) K 2 dX0_fitShrunk_66 rfl ?_
      refine x_aload_n (pc := 68) K 4 dX0_fitShrunk_68 rfl rfl ?_
      refine x_getr (r0 := 58) (pc := 69) (index := 23) (C := RX0) (T := TX0) (N := 7) (j0 := 3) (ref := "OldMap$Bend") K (by decide) sh_55 rfl i_X0 (by decide) (by decide +kernel) rfl rfl rf_55_3 dX0_fitShrunk_69 ?_
      refine x_iload_n (pc := 72) K 5 dX0_fitShrunk_72 rfl rfl ?_
      refine y_lald (j := 1) (pc := 73) K (by decide) sh_58 rfl (by omega) (by decide) dX0_fitShrunk_73 ?_
      refine x_lmul (pc := 74) K dX0_fitShrunk_74 ?_
      refine x_lsub (pc := 75) K dX0_fitShrunk_75 ?_
      refine x_aload_n (pc := 76) K 4 dX0_fitShrunk_76 rfl rfl ?_
      refine x_getl (pc := 77) (index := 34) (C := RX0) (T := TX0) (N := 7) (j0 := 6) (ref := "OldMap$Bend") K (by decide) sh_55 rfl i_X0 (by decide) (by decide +kernel) rfl rfl dX0_fitShrunk_77 ?_
      refine x_lload_n (pc := 80) K 3 dX0_fitShrunk_80 rfl rfl ?_
      refine x_lmul (pc := 81) K dX0_fitShrunk_81 ?_
      refine x_callvN (pc := 82) (st := []) (n := 4) K (by decide) sh_57 rfl (c_X6_set57 l G _ _ _ _ _ _) (host := "OldMap") gX0_fitShrunk_X6_set_n63 (by decide +kernel) (by decide +kernel) (by decide +kernel) (by decide +kernel) (by decide +kernel) rfl (by decide) (by decide) rfl rfl (Nat.le_of_ble_eq_true rfl) dX0_fitShrunk_82 (fun I_82 J_82 hp_82 => ?_)
      obtain ⟨rfl, rfl⟩ := hp_82
      refine x_lload_n (pc := 85) K 3 dX0_fitShrunk_85 rfl rfl ?_
      refine x_lconst (pc := 86) (v := 0) K dX0_fitShrunk_86 (by decide) ?_
      refine x_lcmp (pc := 87) K dX0_fitShrunk_87 ?_
      refine x_if_le (pc := 88) (tgt := 95) K dX0_fitShrunk_88 (by decide) (fun c_88 => ?_) (fun c_88 => ?_)
      · replace c_88 := (lg_cmp_le _ _).mp c_88
        refine x_iconst (pc := 95) (v := 0) K dX0_fitShrunk_95 (by decide) ?_
        exact ret (pc := 96) dX0_fitShrunk_96 (⟨by first | exact bz_1.mpr (by assumption) | exact bz_0.mpr (fun h => h (by assumption)), rfl, rfl⟩) rfl
      · replace c_88 := mt (lg_cmp_le _ _).mpr c_88
        refine x_iconst (pc := 91) (v := 1) K dX0_fitShrunk_91 (by decide) ?_
        refine x_goto (pc := 92) (tgt := 96) K dX0_fitShrunk_92 (by decide) ?_
        exact ret (pc := 96) dX0_fitShrunk_96 (⟨by first | exact bz_1.mpr (by assumption) | exact bz_0.mpr (fun h => h (by assumption)), rfl, rfl⟩) rfl
    · replace c_35 := cI_eq (a := 1) (b := 0) rfl rfl (by omega) (by omega) c_35
      omega
  · replace c_18 := cI_eq (a := 1) (b := 0) rfl rfl (by omega) (by omega) c_18
    omega

