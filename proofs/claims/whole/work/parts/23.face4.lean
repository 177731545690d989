/-! OldMap's face: beyond, lying, drop; matches -/
theorem Scr.up2 {I I1 : hI} {J J1 : hJ} {v : Int32} (h : Scr I J I1 J1) : Scr (h_up I 2 3 v) J (h_up I1 2 3 v) J1 := by
  refine ⟨fun k hk => ?_, h.2⟩
  funext j
  simp only [h_up, h.1 k hk]
def rnP (a : aT) (kd : Nat) (b : Int32) (ax : Nat) (x y : Int64) : Int64 := if Wy a kd b ax 3 ≤ 0 then 0 else fdiv (2 * abP a kd b ax x y + Wy a kd b ax 3) (2 * Wy a kd b ax 3)
def apP (I : hI) (kd : Nat) (b : Int32) (o j : Nat) : Int32 := if I 21 o = I 25 j then (ab64 (rnP (atC I) kd b 0 (I 22 o).toInt64 (I 23 o).toInt64 - (I 26 j).toInt64) + ab64 (rnP (atC I) kd b 1 (I 22 o).toInt64 (I 23 o).toInt64 - (I 27 j).toInt64)).toInt32 else -1
theorem fit_rnd {I I' : hI} {J J' : hJ} {kd ax : Nat} {b : Int32} {x y : Int64} (hF : Fit I' J' kd b) (hS : Scr I J I' J') (h1 : ax < 2) : rndW J' (56 + ax) x y = rnP (atC I) kd b ax x y := by
  unfold rndW rnP
  rw [fit_abv hF hS h1, fit_w hF hS h1 (by decide)]
theorem fit_ap {I I' : hI} {J J' : hJ} {kd : Nat} {b : Int32} (hF : Fit I' J' kd b) (hS : Scr I J I' J') : apH I' J' = apP I kd b := by
  funext o j
  unfold apH apP
  have e0 := fun x y => fit_rnd (x := x) (y := y) hF hS (show 0 < 2 by decide)
  have e1 := fun x y => fit_rnd (x := x) (y := y) hF hS (show 1 < 2 by decide)
  have h0 : ∀ x y, rndW J' 56 x y = rnP (atC I) kd b 0 x y := e0
  have h1 : ∀ x y, rndW J' 57 x y = rnP (atC I) kd b 1 x y := e1
  rw [hS.1 21 (by omega), hS.1 22 (by omega), hS.1 23 (by omega), hS.1 25 (by omega), hS.1 26 (by omega), hS.1 27 (by omega), h0, h1]
theorem find_scr {I I' : hI} {J : hJ} (h : ∀ c, ¬ (59 ≤ c ∧ c ≤ 75) → I' c = I c) : Scr I J I' J := ⟨fun k hk => h k (by omega), fun _ _ => rfl⟩
set_option maxHeartbeats 1000000 in
set_option maxRecDepth 100000 in
theorem c_X7_beyond (l : Launch) (G : hQ) (I : hI) (J : hJ) (k : Int32) : h_Mi l yX7_beyond wsX7_beyond 4 102 G [rr G 0, .int k] I J (fun ρ I' J' => (if isKd k then (if okA (atC I) (tn k) (I 2 2 &&& I 2 3) then fbP (atC I) (tn k) (I 2 2 &&& I 2 3) (I 0 5) else -3) else -1) = ρ ∧ Scr I J I' J') := by
  refine h_Mi.of (ty := .int) (cc := cX7_beyond) (maxL := 2) [(0, rr G 0), (1, .int k)] (by decide +kernel) rfl (Nat.le_of_ble_eq_true rfl) rfl ?_
  intro Γ K ret
  have i_X7 : ∀ w ∈ u_ws RX7 TX7 7, w ∈ wsX7_beyond := by decide +kernel
  refine x_iload_n (pc := 0) K 1 dX7_beyond_0 rfl rfl ?_
  refine x_calliS (pc := 1) (st := []) (n := 1) K (c_X7_isKind l G _ _ _) gX7_beyond_X7_isKind (by decide +kernel) rfl (by decide) (by decide) rfl rfl (Nat.le_of_ble_eq_true rfl) dX7_beyond_1 (fun r_1 I_1 J_1 hp_1 => ?_)
  obtain ⟨rfl, rfl, rfl⟩ := hp_1
  refine x_if_ne (pc := 4) (tgt := 9) K dX7_beyond_4 (by decide) (fun c_4 => ?_) (fun c_4 => ?_)
  · replace c_4 := bz_n0.mp c_4
    obtain ⟨kd, hkd, rfl⟩ := kd_of c_4
    refine x_aload_n (pc := 9) K 0 dX7_beyond_9 rfl rfl ?_
    refine x_iload_n (pc := 10) K 1 dX7_beyond_10 rfl rfl ?_
    refine x_calliV (pc := 11) (st := []) (n := 1) K (by decide) sh_0 rfl (c_X7_fits l G _ _ kd (by omega)) gX7_beyond_X7_fits (by decide +kernel) rfl (by decide) (by decide) rfl rfl (Nat.le_of_ble_eq_true rfl) dX7_beyond_11 (fun r_11 I_11 J_11 hp_11 => ?_)
    obtain ⟨rfl, hS_11, hF_11⟩ := hp_11
    refine x_if_eq (pc := 14) (tgt := 31) K dX7_beyond_14 (by decide) (fun c_14 => ?_) (fun c_14 => ?_)
    · replace c_14 := bz_0.mp c_14
      refine x_bipush (pc := 31) (v := -3) K dX7_beyond_31 (by decide) ?_
      exact ret (pc := 33) dX7_beyond_33 (⟨by rw [if_pos c_4, tn_n (by omega), if_neg c_14], hS_11⟩) rfl
    · replace c_14 := bz_n0.mp c_14
      have hS := hS_11
      have hF := hF_11 c_14
      refine x_aload_n (pc := 17) K 0 dX7_beyond_17 rfl rfl ?_
      refine x_getr (r0 := 55) (pc := 18) (index := 28) (C := RX7) (T := TX7) (N := 7) (j0 := 2) (ref := "OldMap") K (by decide) sh_0 rfl i_X7 (by decide) (by decide +kernel) rfl rfl rf_0_2 dX7_beyond_18 ?_
      refine x_aload_n (pc := 21) K 0 dX7_beyond_21 rfl rfl ?_
      refine x_geti (pc := 22) (index := 52) (C := RX7) (T := TX7) (N := 7) (j0 := 5) (ref := "OldMap") K (by decide) sh_0 rfl i_X7 (by decide) (by decide +kernel) rfl rfl dX7_beyond_22 ?_
      refine x_topie (I 0 5) (hS.lim) ?_
      refine x_calliN (pc := 25) (st := []) (n := 1) K (by decide) sh_55 rfl (c_X0_firstBeyond l G _ _ _) (host := "OldMap") gX7_beyond_X0_firstBeyond_n148 (by decide +kernel) (by decide +kernel) (by decide +kernel) (by decide +kernel) (by decide +kernel) rfl (by decide) (by decide) rfl rfl (Nat.le_of_ble_eq_true rfl) dX7_beyond_25 (fun r_25 I_25 J_25 hp_25 => ?_)
      obtain ⟨rfl, rfl, rfl⟩ := hp_25
      refine x_goto (pc := 28) (tgt := 33) K dX7_beyond_28 (by decide) ?_
      exact ret (pc := 33) dX7_beyond_33 (⟨by rw [if_pos c_4, tn_n (by omega), if_pos c_14, fb_fit hF hS.at], hS⟩) rfl
  · replace c_4 := bz_0.mp c_4
    refine x_iconst (pc := 7) (v := -1) K dX7_beyond_7 (by decide) ?_
    exact ret (pc := 8) dX7_beyond_8 (⟨if_neg c_4, Scr.rf⟩) rfl

set_option maxHeartbeats 1000000 in
set_option maxRecDepth 100000 in
theorem c_X7_lying (l : Launch) (G : hQ) (I : hI) (J : hJ) (k : Int32) : h_Mi l yX7_lying wsX7_lying 6 140 G [rr G 0, .int k] I J (fun ρ I' J' => lyK (atC I) k (I 2 2 &&& I 2 3) (I 0 5) = ρ ∧ Scr I J I' J') := by
  refine h_Mi.of (ty := .int) (cc := cX7_lying) (maxL := 2) [(0, rr G 0), (1, .int k)] (by decide +kernel) rfl (Nat.le_of_ble_eq_true rfl) rfl ?_
  intro Γ K ret
  refine x_aload_n (pc := 0) K 0 dX7_lying_0 rfl rfl ?_
  refine x_iload_n (pc := 1) K 1 dX7_lying_1 rfl rfl ?_
  refine x_calliV (pc := 2) (st := []) (n := 1) K (by decide) sh_0 rfl (c_X7_lyingSet l G _ _ _ (atC I) (I 2 2 &&& I 2 3) (I 0 5) rfl rfl rfl) gX7_lying_X7_lyingSet (by decide +kernel) rfl (by decide) (by decide) rfl rfl (Nat.le_of_ble_eq_true rfl) dX7_lying_2 (fun r_2 I_2 J_2 hp_2 => ?_)
  obtain ⟨rfl, hS⟩ := hp_2
  exact ret (pc := 5) dX7_lying_5 (⟨rfl, hS⟩) rfl

set_option maxHeartbeats 1000000 in
set_option maxRecDepth 100000 in
theorem c_X7_drop (l : Launch) (G : hQ) (I : hI) (J : hJ) (k : Int32) : h_Mi l yX7_drop wsX7_drop 6 140 G [rr G 0, .int k] I J (fun ρ I' J' => (if 0 ≤ lyK (atC I) k (I 2 2 &&& I 2 3) (I 0 5) then pop (lyK (atC I) k (I 2 2 &&& I 2 3) (I 0 5)) else lyK (atC I) k (I 2 2 &&& I 2 3) (I 0 5)) = ρ ∧ Scr (if 0 ≤ lyK (atC I) k (I 2 2 &&& I 2 3) (I 0 5) then h_up I 2 3 (I 2 3 &&& ((lyK (atC I) k (I 2 2 &&& I 2 3) (I 0 5)) ^^^ -1)) else I) J I' J') := by
  refine h_Mi.of (ty := .int) (cc := cX7_drop) (maxL := 3) [(0, rr G 0), (1, .int k)] (by decide +kernel) rfl (Nat.le_of_ble_eq_true rfl) rfl ?_
  intro Γ K ret
  have i_X7 : ∀ w ∈ u_ws RX7 TX7 7, w ∈ wsX7_drop := by decide +kernel
  have i_X3 : ∀ w ∈ u_ws RX3 TX3 4, w ∈ wsX7_drop := by decide +kernel
  have i_X2 : ∀ w ∈ u_ws RX2 TX2 4, w ∈ wsX7_drop := by decide +kernel
  refine x_aload_n (pc := 0) K 0 dX7_drop_0 rfl rfl ?_
  refine x_iload_n (pc := 1) K 1 dX7_drop_1 rfl rfl ?_
  refine x_calliV (pc := 2) (st := []) (n := 1) K (by decide) sh_0 rfl (c_X7_lyingSet l G _ _ _ (atC I) (I 2 2 &&& I 2 3) (I 0 5) rfl rfl rfl) gX7_drop_X7_lyingSet (by decide +kernel) rfl (by decide) (by decide) rfl rfl (Nat.le_of_ble_eq_true rfl) dX7_drop_2 (fun r_2 I_2 J_2 hp_2 => ?_)
  obtain ⟨rfl, hS⟩ := hp_2
  refine x_istore_n (pc := 5) (lo' := [(2, _), (0, _), (1, _)]) K dX7_drop_5 rfl (by decide) rfl ?_
  refine x_iload_n (pc := 6) K 0 dX7_drop_6 rfl rfl ?_
  refine x_if_ge (pc := 7) (tgt := 12) K dX7_drop_7 (by decide) (fun c_7 => ?_) (fun c_7 => ?_)
  · refine x_aload_n (pc := 12) K 1 dX7_drop_12 rfl rfl ?_
    refine x_getr (r0 := 1) (pc := 13) (index := 10) (C := RX7) (T := TX7) (N := 7) (j0 := 0) (ref := "OldMap") K (by decide) sh_0 rfl i_X7 (by decide) (by decide +kernel) rfl rfl rf_0_0 dX7_drop_13 ?_
    refine x_getrN (r0 := 2) (pc := 16) (index := 21) (C := RX3) (T := TX3) (N := 4) (j0 := 0) (host := "OldMap") (ref := "OldMap$Table") K (by decide) sh_1 rfl i_X3 (by decide) (by decide +kernel) rfl rfl rf_1_0 dX7_drop_16 ?_
    refine x_dup (pc := 19) K dX7_drop_19 rfl ?_
    refine x_getiN (pc := 20) (index := 87) (C := RX2) (T := TX2) (N := 4) (j0 := 3) (host := "OldMap") (ref := "OldMap$Points") K (by decide) sh_2 rfl i_X2 (by decide) (by decide +kernel) rfl rfl dX7_drop_20 ?_
    refine x_topie (I 2 3) (congrFun (hS.1 2 (by omega)) 3) ?_
    refine x_iload_n (pc := 23) K 0 dX7_drop_23 rfl rfl ?_
    refine x_iconst (pc := 24) (v := -1) K dX7_drop_24 (by decide) ?_
    refine x_ixor (pc := 25) K dX7_drop_25 ?_
    refine x_iand (pc := 26) K dX7_drop_26 ?_
    refine x_putiN (ty := .int) (pc := 27) (index := 87) (C := RX2) (T := TX2) (N := 4) (j0 := 3) (host := "OldMap") (ref := "OldMap$Points") K (by decide) sh_2 rfl i_X2 (by decide) (by decide +kernel) rfl tyX2 tyX2_ok nmX2 rfl (by decide +kernel) rfl rfl rfl dX7_drop_27 ?_
    refine x_iload_n (pc := 30) K 0 dX7_drop_30 rfl rfl ?_
    refine x_calliS (pc := 31) (st := []) (n := 1) K (c_J6_bitCount_0f7a4 l G _ _ _) gX7_drop_J6_bitCount_0f7a4 (by decide +kernel) rfl (by decide) (by decide) rfl rfl (Nat.le_of_ble_eq_true rfl) dX7_drop_31 (fun r_31 I_31 J_31 hp_31 => ?_)
    obtain ⟨rfl, rfl, rfl⟩ := hp_31
    exact ret (pc := 34) dX7_drop_34 (⟨if_pos c_7, by rw [if_pos c_7]; exact hS.up2⟩) rfl
  · refine x_iload_n (pc := 10) K 0 dX7_drop_10 rfl rfl ?_
    exact ret (pc := 11) dX7_drop_11 (⟨if_neg c_7, by rw [if_neg c_7]; exact hS⟩) rfl

set_option maxHeartbeats 1000000 in
set_option maxRecDepth 100000 in
theorem c_X7_match (l : Launch) (G : hQ) (I : hI) (J : hJ) (k p : Int32) (no : Nat) (ho : I 20 0 = nI no) (h60 : no ≤ 6) (nn : Nat) (hnn : I 24 0 = nI nn) (h6 : nn ≤ 6) : h_Mi l yX7_match wsX7_match 4 102 G [rr G 0, .int k, .int p] I J (fun ρ I' J' => (if isKd k ∧ (0 ≤ p ∧ p < I 20 0) then (if okA (atC I) (tn k) (I 2 2 &&& I 2 3) then gvP (apP I (tn k) (I 2 2 &&& I 2 3)) no nn (I 0 6) (tn p) else -3) else -1) = ρ ∧ Scr I J I' J') := by
  refine h_Mi.of (ty := .int) (cc := cX7_match) (maxL := 3) [(0, rr G 0), (1, .int k), (2, .int p)] (by decide +kernel) rfl (Nat.le_of_ble_eq_true rfl) rfl ?_
  intro Γ K ret
  have i_X7 : ∀ w ∈ u_ws RX7 TX7 7, w ∈ wsX7_match := by decide +kernel
  have i_X3 : ∀ w ∈ u_ws RX3 TX3 4, w ∈ wsX7_match := by decide +kernel
  have i_X1 : ∀ w ∈ u_ws RX1 TX1 7, w ∈ wsX7_match := by decide +kernel
  refine x_iload_n (pc := 0) K 1 dX7_match_0 rfl rfl ?_
  refine x_calliS (pc := 1) (st := []) (n := 1) K (c_X7_isKind l G _ _ _) gX7_match_X7_isKind (by decide +kernel) rfl (by decide) (by decide) rfl rfl (Nat.le_of_ble_eq_true rfl) dX7_match_1 (fun r_1 I_1 J_1 hp_1 => ?_)
  obtain ⟨rfl, rfl, rfl⟩ := hp_1
  refine x_if_eq (pc := 4) (tgt := 21) K dX7_match_4 (by decide) (fun c_4 => ?_) (fun c_4 => ?_)
  · replace c_4 := bz_0.mp c_4
    refine x_iconst (pc := 21) (v := -1) K dX7_match_21 (by decide) ?_
    exact ret (pc := 22) dX7_match_22 (⟨if_neg (fun h => c_4 h.1), Scr.rf⟩) rfl
  · replace c_4 := bz_n0.mp c_4
    obtain ⟨kd, hkd, rfl⟩ := kd_of c_4
    refine x_aload_n (pc := 7) K 0 dX7_match_7 rfl rfl ?_
    refine x_getr (r0 := 1) (pc := 8) (index := 10) (C := RX7) (T := TX7) (N := 7) (j0 := 0) (ref := "OldMap") K (by decide) sh_0 rfl i_X7 (by decide) (by decide +kernel) rfl rfl rf_0_0 dX7_match_8 ?_
    refine x_getrN (r0 := 20) (pc := 11) (index := 34) (C := RX3) (T := TX3) (N := 4) (j0 := 2) (host := "OldMap") (ref := "OldMap$Table") K (by decide) sh_1 rfl i_X3 (by decide) (by decide +kernel) rfl rfl rf_1_2 dX7_match_11 ?_
    refine x_iload_n (pc := 14) K 2 dX7_match_14 rfl rfl ?_
    refine x_calliN (pc := 15) (st := []) (n := 1) K (by decide) sh_20 rfl (c_X4_has20 l G _ _ _) (host := "OldMap") gX7_match_X4_has_n208 (by decide +kernel) (by decide +kernel) (by decide +kernel) (by decide +kernel) (by decide +kernel) rfl (by decide) (by decide) rfl rfl (Nat.le_of_ble_eq_true rfl) dX7_match_15 (fun r_15 I_15 J_15 hp_15 => ?_)
    obtain ⟨rfl, rfl, rfl⟩ := hp_15
    refine x_if_ne (pc := 18) (tgt := 23) K dX7_match_18 (by decide) (fun c_18 => ?_) (fun c_18 => ?_)
    · replace c_18 := bz_n0.mp c_18
      obtain ⟨q, hq, rfl⟩ := has_of c_18 ho (by omega)
      refine x_aload_n (pc := 23) K 0 dX7_match_23 rfl rfl ?_
      refine x_iload_n (pc := 24) K 1 dX7_match_24 rfl rfl ?_
      refine x_calliV (pc := 25) (st := []) (n := 1) K (by decide) sh_0 rfl (c_X7_fits l G _ _ kd (by omega)) gX7_match_X7_fits (by decide +kernel) rfl (by decide) (by decide) rfl rfl (Nat.le_of_ble_eq_true rfl) dX7_match_25 (fun r_25 I_25 J_25 hp_25 => ?_)
      obtain ⟨rfl, hS_25, hF_25⟩ := hp_25
      refine x_if_ne (pc := 28) (tgt := 34) K dX7_match_28 (by decide) (fun c_28 => ?_) (fun c_28 => ?_)
      · replace c_28 := bz_n0.mp c_28
        have hS := hS_25
        have hF := hF_25 c_28
        refine x_aload_n (pc := 34) K 0 dX7_match_34 rfl rfl ?_
        refine x_getr (r0 := 59) (pc := 35) (index := 44) (C := RX7) (T := TX7) (N := 7) (j0 := 3) (ref := "OldMap") K (by decide) sh_0 rfl i_X7 (by decide) (by decide +kernel) rfl rfl rf_0_3 dX7_match_35 ?_
        refine x_aload_n (pc := 38) K 0 dX7_match_38 rfl rfl ?_
        refine x_geti (pc := 39) (index := 56) (C := RX7) (T := TX7) (N := 7) (j0 := 6) (ref := "OldMap") K (by decide) sh_0 rfl i_X7 (by decide) (by decide +kernel) rfl rfl dX7_match_39 ?_
        refine x_topie (I 0 6) (congrFun (hS.1 0 (by omega)) 6) ?_
        refine x_callvN (pc := 42) (st := []) (n := 1) K (by decide) sh_59 rfl (c_X1_find l G _ _ _ no ((congrFun (hS.1 20 (by omega)) 0).trans ho) h60 nn ((congrFun (hS.1 24 (by omega)) 0).trans hnn) h6 two_b two_b) (host := "OldMap") gX7_match_X1_find_n209 (by decide +kernel) (by decide +kernel) (by decide +kernel) (by decide +kernel) (by decide +kernel) rfl (by decide) (by decide) rfl rfl (Nat.le_of_ble_eq_true rfl) dX7_match_42 (fun I_42 J_42 hp_42 => ?_)
        obtain ⟨rfl, hM1, hM2⟩ := hp_42
        rw [fit_ap hF hS] at hM2
        have hS2 := hS.tr (find_scr hM1)
        refine x_aload_n (pc := 45) K 0 dX7_match_45 rfl rfl ?_
        refine x_getr (r0 := 59) (pc := 46) (index := 44) (C := RX7) (T := TX7) (N := 7) (j0 := 3) (ref := "OldMap") K (by decide) sh_0 rfl i_X7 (by decide) (by decide +kernel) rfl rfl rf_0_3 dX7_match_46 ?_
        refine x_getrN (r0 := 75) (pc := 49) (index := 213) (C := RX1) (T := TX1) (N := 7) (j0 := 5) (host := "OldMap") (ref := "OldMap$Match") K (by decide) sh_59 rfl i_X1 (by decide) (by decide +kernel) rfl rfl rf_59_5 dX7_match_49 ?_
        refine x_iload_n (pc := 52) K 2 dX7_match_52 rfl rfl ?_
        refine y_iald (j := q) (pc := 53) K (by decide) sh_75 rfl (by omega) (by decide) dX7_match_53 ?_
        exact ret (pc := 54) dX7_match_54 (⟨by rw [if_pos ⟨c_4, c_18⟩, tn_n (by omega), tn_n (by omega), if_pos c_28, hM2.2.1 _ (by omega)], hS2⟩) rfl
      · replace c_28 := bz_0.mp c_28
        refine x_bipush (pc := 31) (v := -3) K dX7_match_31 (by decide) ?_
        exact ret (pc := 33) dX7_match_33 (⟨by rw [if_pos ⟨c_4, c_18⟩, tn_n (by omega), if_neg c_28], hS_25⟩) rfl
    · replace c_18 := bz_0.mp c_18
      refine x_iconst (pc := 21) (v := -1) K dX7_match_21 (by decide) ?_
      exact ret (pc := 22) dX7_match_22 (⟨if_neg (fun h => c_18 h.2), Scr.rf⟩) rfl

set_option maxHeartbeats 1000000 in
set_option maxRecDepth 100000 in
theorem c_X7_cost (l : Launch) (G : hQ) (I : hI) (J : hJ) (k : Int32) (no : Nat) (ho : I 20 0 = nI no) (h60 : no ≤ 6) (nn : Nat) (hnn : I 24 0 = nI nn) (h6 : nn ≤ 6) : h_Mi l yX7_cost wsX7_cost 4 102 G [rr G 0, .int k] I J (fun ρ I' J' => (if isKd k then (if okA (atC I) (tn k) (I 2 2 &&& I 2 3) then lsT (apP I (tn k) (I 2 2 &&& I 2 3)) no nn (I 0 6) no 0 else -3) else -1) = ρ ∧ Scr I J I' J') := by
  refine h_Mi.of (ty := .int) (cc := cX7_cost) (maxL := 2) [(0, rr G 0), (1, .int k)] (by decide +kernel) rfl (Nat.le_of_ble_eq_true rfl) rfl ?_
  intro Γ K ret
  have i_X7 : ∀ w ∈ u_ws RX7 TX7 7, w ∈ wsX7_cost := by decide +kernel
  refine x_iload_n (pc := 0) K 1 dX7_cost_0 rfl rfl ?_
  refine x_calliS (pc := 1) (st := []) (n := 1) K (c_X7_isKind l G _ _ _) gX7_cost_X7_isKind (by decide +kernel) rfl (by decide) (by decide) rfl rfl (Nat.le_of_ble_eq_true rfl) dX7_cost_1 (fun r_1 I_1 J_1 hp_1 => ?_)
  obtain ⟨rfl, rfl, rfl⟩ := hp_1
  refine x_if_ne (pc := 4) (tgt := 9) K dX7_cost_4 (by decide) (fun c_4 => ?_) (fun c_4 => ?_)
  · replace c_4 := bz_n0.mp c_4
    obtain ⟨kd, hkd, rfl⟩ := kd_of c_4
    refine x_aload_n (pc := 9) K 0 dX7_cost_9 rfl rfl ?_
    refine x_iload_n (pc := 10) K 1 dX7_cost_10 rfl rfl ?_
    refine x_calliV (pc := 11) (st := []) (n := 1) K (by decide) sh_0 rfl (c_X7_fits l G _ _ kd (by omega)) gX7_cost_X7_fits (by decide +kernel) rfl (by decide) (by decide) rfl rfl (Nat.le_of_ble_eq_true rfl) dX7_cost_11 (fun r_11 I_11 J_11 hp_11 => ?_)
    obtain ⟨rfl, hS_11, hF_11⟩ := hp_11
    refine x_if_ne (pc := 14) (tgt := 20) K dX7_cost_14 (by decide) (fun c_14 => ?_) (fun c_14 => ?_)
    · replace c_14 := bz_n0.mp c_14
      have hS := hS_11
      have hF := hF_11 c_14
      refine x_aload_n (pc := 20) K 0 dX7_cost_20 rfl rfl ?_
      refine x_getr (r0 := 59) (pc := 21) (index := 44) (C := RX7) (T := TX7) (N := 7) (j0 := 3) (ref := "OldMap") K (by decide) sh_0 rfl i_X7 (by decide) (by decide +kernel) rfl rfl rf_0_3 dX7_cost_21 ?_
      refine x_aload_n (pc := 24) K 0 dX7_cost_24 rfl rfl ?_
      refine x_geti (pc := 25) (index := 56) (C := RX7) (T := TX7) (N := 7) (j0 := 6) (ref := "OldMap") K (by decide) sh_0 rfl i_X7 (by decide) (by decide +kernel) rfl rfl dX7_cost_25 ?_
      refine x_topie (I 0 6) (congrFun (hS.1 0 (by omega)) 6) ?_
      refine x_callvN (pc := 28) (st := []) (n := 1) K (by decide) sh_59 rfl (c_X1_find l G _ _ _ no ((congrFun (hS.1 20 (by omega)) 0).trans ho) h60 nn ((congrFun (hS.1 24 (by omega)) 0).trans hnn) h6 two_b two_b) (host := "OldMap") gX7_cost_X1_find_n209 (by decide +kernel) (by decide +kernel) (by decide +kernel) (by decide +kernel) (by decide +kernel) rfl (by decide) (by decide) rfl rfl (Nat.le_of_ble_eq_true rfl) dX7_cost_28 (fun I_28 J_28 hp_28 => ?_)
      obtain ⟨rfl, hM1, hM2⟩ := hp_28
      rw [fit_ap hF hS] at hM2
      have hS2 := hS.tr (find_scr hM1)
      refine x_aload_n (pc := 31) K 0 dX7_cost_31 rfl rfl ?_
      refine x_getr (r0 := 59) (pc := 32) (index := 44) (C := RX7) (T := TX7) (N := 7) (j0 := 3) (ref := "OldMap") K (by decide) sh_0 rfl i_X7 (by decide) (by decide +kernel) rfl rfl rf_0_3 dX7_cost_32 ?_
      refine x_calliN (pc := 35) (st := []) (n := 0) K (by decide) sh_59 rfl (c_X1_leastCost l G _ _) (host := "OldMap") gX7_cost_X1_leastCost_n217 (by decide +kernel) (by decide +kernel) (by decide +kernel) (by decide +kernel) (by decide +kernel) rfl (by decide) (by decide) rfl rfl (Nat.le_of_ble_eq_true rfl) dX7_cost_35 (fun r_35 I_35 J_35 hp_35 => ?_)
      obtain ⟨rfl, rfl, rfl⟩ := hp_35
      exact ret (pc := 38) dX7_cost_38 (⟨by rw [if_pos c_4, tn_n (by omega), if_pos c_14, hM2.1], hS2⟩) rfl
    · replace c_14 := bz_0.mp c_14
      refine x_bipush (pc := 17) (v := -3) K dX7_cost_17 (by decide) ?_
      exact ret (pc := 19) dX7_cost_19 (⟨by rw [if_pos c_4, tn_n (by omega), if_neg c_14], hS_11⟩) rfl
  · replace c_4 := bz_0.mp c_4
    refine x_iconst (pc := 7) (v := -1) K dX7_cost_7 (by decide) ?_
    exact ret (pc := 8) dX7_cost_8 (⟨if_neg c_4, Scr.rf⟩) rfl

set_option maxHeartbeats 1000000 in
set_option maxRecDepth 100000 in
theorem c_X7_left (l : Launch) (G : hQ) (I : hI) (J : hJ) (k : Int32) (no : Nat) (ho : I 20 0 = nI no) (h60 : no ≤ 6) (nn : Nat) (hnn : I 24 0 = nI nn) (h6 : nn ≤ 6) : h_Mi l yX7_left wsX7_left 4 102 G [rr G 0, .int k] I J (fun ρ I' J' => (if isKd k then (if okA (atC I) (tn k) (I 2 2 &&& I 2 3) then fuG (usP (apP I (tn k) (I 2 2 &&& I 2 3)) no nn (I 0 6) no) nn else -3) else -1) = ρ ∧ Scr I J I' J') := by
  refine h_Mi.of (ty := .int) (cc := cX7_left) (maxL := 2) [(0, rr G 0), (1, .int k)] (by decide +kernel) rfl (Nat.le_of_ble_eq_true rfl) rfl ?_
  intro Γ K ret
  have i_X7 : ∀ w ∈ u_ws RX7 TX7 7, w ∈ wsX7_left := by decide +kernel
  refine x_iload_n (pc := 0) K 1 dX7_left_0 rfl rfl ?_
  refine x_calliS (pc := 1) (st := []) (n := 1) K (c_X7_isKind l G _ _ _) gX7_left_X7_isKind (by decide +kernel) rfl (by decide) (by decide) rfl rfl (Nat.le_of_ble_eq_true rfl) dX7_left_1 (fun r_1 I_1 J_1 hp_1 => ?_)
  obtain ⟨rfl, rfl, rfl⟩ := hp_1
  refine x_if_ne (pc := 4) (tgt := 9) K dX7_left_4 (by decide) (fun c_4 => ?_) (fun c_4 => ?_)
  · replace c_4 := bz_n0.mp c_4
    obtain ⟨kd, hkd, rfl⟩ := kd_of c_4
    refine x_aload_n (pc := 9) K 0 dX7_left_9 rfl rfl ?_
    refine x_iload_n (pc := 10) K 1 dX7_left_10 rfl rfl ?_
    refine x_calliV (pc := 11) (st := []) (n := 1) K (by decide) sh_0 rfl (c_X7_fits l G _ _ kd (by omega)) gX7_left_X7_fits (by decide +kernel) rfl (by decide) (by decide) rfl rfl (Nat.le_of_ble_eq_true rfl) dX7_left_11 (fun r_11 I_11 J_11 hp_11 => ?_)
    obtain ⟨rfl, hS_11, hF_11⟩ := hp_11
    refine x_if_ne (pc := 14) (tgt := 20) K dX7_left_14 (by decide) (fun c_14 => ?_) (fun c_14 => ?_)
    · replace c_14 := bz_n0.mp c_14
      have hS := hS_11
      have hF := hF_11 c_14
      refine x_aload_n (pc := 20) K 0 dX7_left_20 rfl rfl ?_
      refine x_getr (r0 := 59) (pc := 21) (index := 44) (C := RX7) (T := TX7) (N := 7) (j0 := 3) (ref := "OldMap") K (by decide) sh_0 rfl i_X7 (by decide) (by decide +kernel) rfl rfl rf_0_3 dX7_left_21 ?_
      refine x_aload_n (pc := 24) K 0 dX7_left_24 rfl rfl ?_
      refine x_geti (pc := 25) (index := 56) (C := RX7) (T := TX7) (N := 7) (j0 := 6) (ref := "OldMap") K (by decide) sh_0 rfl i_X7 (by decide) (by decide +kernel) rfl rfl dX7_left_25 ?_
      refine x_topie (I 0 6) (congrFun (hS.1 0 (by omega)) 6) ?_
      refine x_callvN (pc := 28) (st := []) (n := 1) K (by decide) sh_59 rfl (c_X1_find l G _ _ _ no ((congrFun (hS.1 20 (by omega)) 0).trans ho) h60 nn ((congrFun (hS.1 24 (by omega)) 0).trans hnn) h6 two_b two_b) (host := "OldMap") gX7_left_X1_find_n209 (by decide +kernel) (by decide +kernel) (by decide +kernel) (by decide +kernel) (by decide +kernel) rfl (by decide) (by decide) rfl rfl (Nat.le_of_ble_eq_true rfl) dX7_left_28 (fun I_28 J_28 hp_28 => ?_)
      obtain ⟨rfl, hM1, hM2⟩ := hp_28
      rw [fit_ap hF hS] at hM2
      have hS2 := hS.tr (find_scr hM1)
      refine x_aload_n (pc := 31) K 0 dX7_left_31 rfl rfl ?_
      refine x_getr (r0 := 59) (pc := 32) (index := 44) (C := RX7) (T := TX7) (N := 7) (j0 := 3) (ref := "OldMap") K (by decide) sh_0 rfl i_X7 (by decide) (by decide +kernel) rfl rfl rf_0_3 dX7_left_32 ?_
      refine x_calliN (pc := 35) (st := []) (n := 0) K (by decide) sh_59 rfl (c_X1_firstUnused l G _ _ _ hM2.2.2.1 nn ((congrFun (hS2.1 24 (by omega)) 0).trans hnn) h6) (host := "OldMap") gX7_left_X1_firstUnused_n221 (by decide +kernel) (by decide +kernel) (by decide +kernel) (by decide +kernel) (by decide +kernel) rfl (by decide) (by decide) rfl rfl (Nat.le_of_ble_eq_true rfl) dX7_left_35 (fun r_35 I_35 J_35 hp_35 => ?_)
      obtain ⟨rfl, rfl, rfl⟩ := hp_35
      exact ret (pc := 38) dX7_left_38 (⟨by rw [if_pos c_4, tn_n (by omega), if_pos c_14], hS2⟩) rfl
    · replace c_14 := bz_0.mp c_14
      refine x_bipush (pc := 17) (v := -3) K dX7_left_17 (by decide) ?_
      exact ret (pc := 19) dX7_left_19 (⟨by rw [if_pos c_4, tn_n (by omega), if_neg c_14], hS_11⟩) rfl
  · replace c_4 := bz_0.mp c_4
    refine x_iconst (pc := 7) (v := -1) K dX7_left_7 (by decide) ?_
    exact ret (pc := 8) dX7_left_8 (⟨if_neg c_4, Scr.rf⟩) rfl

