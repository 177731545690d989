/-! OldMap$Points: cell 2 of the table (29 of the kept one); rows 4 + r (31 + r) -/
def sideC (I : hI) (mp a b : Nat) (x y : Int32) : Int32 := (I (4 + 2 * mp) b - I (4 + 2 * mp) a) * (y - I (4 + (2 * mp + 1)) a) - (I (4 + (2 * mp + 1)) b - I (4 + (2 * mp + 1)) a) * (x - I (4 + 2 * mp) a)
def turnC (I : hI) (mp a b c : Nat) : Int32 := sideC I mp a b (I (4 + 2 * mp) c) (I (4 + (2 * mp + 1)) c)
def placeC (I : hI) (a mp : Nat) (x y : Int32) : hI := h_up (h_up I (4 + 2 * mp) a x) (4 + (2 * mp + 1)) a y
def addPt (I : hI) (n : Nat) (x y X Y : Int32) : hI := h_up (h_up (placeC (placeC (h_up I 2 0 (nI n + 1)) n 0 x y) n 1 X Y) 2 2 (wbit (I 2 2) (nI n) 1)) 2 3 (wbit (I 2 3) (nI n) 1)
def cpPt0 (I : hI) : hI := h_cp (h_cp (h_cp (h_cp (h_up (h_up (h_up I 2 0 (I 29 0)) 2 2 (I 29 2)) 2 3 (I 29 3)) 31 4 12) 32 5 12) 33 6 12) 34 7 12
def cpPt1 (I : hI) : hI := h_cp (h_cp (h_cp (h_cp (h_up (h_up (h_up I 29 0 (I 2 0)) 29 2 (I 2 2)) 29 3 (I 2 3)) 4 31 12) 5 32 12) 6 33 12) 7 34 12
set_option maxHeartbeats 1000000 in
set_option maxRecDepth 100000 in
theorem c_X2_has (l : Launch) (G : hQ) (I : hI) (J : hJ) (x : Int32) : h_Mi l yX2_has wsX2_has 0 0 G [rr G 2, .int x] I J (fun ρ I' J' => bz (0 ≤ x ∧ x < I 2 0) = ρ ∧ I = I' ∧ J = J') := by
  refine h_Mi.of (ty := .boolean) (cc := cX2_has) (maxL := 2) [(0, rr G 2), (1, .int x)] (by decide +kernel) rfl (Nat.le_of_ble_eq_true rfl) rfl ?_
  intro Γ K ret
  have i_X2 : ∀ w ∈ u_ws RX2 TX2 4, w ∈ wsX2_has := by decide +kernel
  refine x_iload_n (pc := 0) K 1 dX2_has_0 rfl rfl ?_
  refine x_if_lt (pc := 1) (tgt := 16) K dX2_has_1 (by decide) (fun c_1 => ?_) (fun c_1 => ?_)
  · refine x_iconst (pc := 16) (v := 0) K dX2_has_16 (by decide) ?_
    exact ret (pc := 17) dX2_has_17 (⟨by first | exact bz_1.mpr (by grind) | exact bz_0.mpr (by grind), rfl, rfl⟩) rfl
  · refine x_iload_n (pc := 4) K 1 dX2_has_4 rfl rfl ?_
    refine x_aload_n (pc := 5) K 0 dX2_has_5 rfl rfl ?_
    refine x_geti (pc := 6) (index := 9) (C := RX2) (T := TX2) (N := 4) (j0 := 0) (ref := "OldMap$Points") K (by decide) sh_2 rfl i_X2 (by decide) (by decide +kernel) rfl rfl dX2_has_6 ?_
    refine x_icmp_ge (pc := 9) (tgt := 16) K dX2_has_9 (by decide) (fun c_9 => ?_) (fun c_9 => ?_)
    · refine x_iconst (pc := 16) (v := 0) K dX2_has_16 (by decide) ?_
      exact ret (pc := 17) dX2_has_17 (⟨by first | exact bz_1.mpr (by grind) | exact bz_0.mpr (by grind), rfl, rfl⟩) rfl
    · refine x_iconst (pc := 12) (v := 1) K dX2_has_12 (by decide) ?_
      refine x_goto (pc := 13) (tgt := 17) K dX2_has_13 (by decide) ?_
      exact ret (pc := 17) dX2_has_17 (⟨by first | exact bz_1.mpr (by grind) | exact bz_0.mpr (by grind), rfl, rfl⟩) rfl

set_option maxHeartbeats 1000000 in
set_option maxRecDepth 100000 in
theorem c_X2_place (l : Launch) (G : hQ) (I : hI) (J : hJ) (a mp : Nat) (x y : Int32) (ha : a < 12) (hm : mp < 2) : h_Mv l yX2_place wsX2_place 0 0 G [rr G 2, .int (nI a), .int (nI mp), .int x, .int y] I J (fun I' J' => placeC I a mp x y = I' ∧ J = J') := by
  refine h_Mv.of (cc := cX2_place) (maxL := 5) [(0, rr G 2), (1, .int (nI a)), (2, .int (nI mp)), (3, .int x), (4, .int y)] (by decide +kernel) rfl (Nat.le_of_ble_eq_true rfl) rfl ?_
  intro Γ K ret
  have i_X2 : ∀ w ∈ u_ws RX2 TX2 4, w ∈ wsX2_place := by decide +kernel
  refine x_aload_n (pc := 0) K 0 dX2_place_0 rfl rfl ?_
  refine x_getr (r0 := 3) (pc := 1) (index := 17) (C := RX2) (T := TX2) (N := 4) (j0 := 1) (ref := "OldMap$Points") K (by decide) sh_2 rfl i_X2 (by decide) (by decide +kernel) rfl rfl rf_2_1 dX2_place_1 ?_
  refine x_iconst (pc := 4) (v := 2) K dX2_place_4 (by decide) ?_
  refine x_iload_n (pc := 5) K 2 dX2_place_5 rfl rfl ?_
  refine x_imul (pc := 6) K dX2_place_6 ?_
  refine y_aald (r0 := (4 + (2 * mp))) (j := (2 * mp)) (pc := 7) K (by decide) sh_3 (nI_mulE rfl rfl) (by omega) (by decide) (rf_3 _) dX2_place_7 ?_
  refine x_iload_n (pc := 8) K 1 dX2_place_8 rfl rfl ?_
  refine x_iload_n (pc := 9) K 3 dX2_place_9 rfl rfl ?_
  refine y_iast (j := a) (pc := 10) K (shk_at (show (2 * mp) < 4 by omega)) (shr_at _ (show (2 * mp) < 4 by omega)) rfl (by omega) (by decide) dX2_place_10 ?_
  refine x_aload_n (pc := 11) K 0 dX2_place_11 rfl rfl ?_
  refine x_getr (r0 := 3) (pc := 12) (index := 17) (C := RX2) (T := TX2) (N := 4) (j0 := 1) (ref := "OldMap$Points") K (by decide) sh_2 rfl i_X2 (by decide) (by decide +kernel) rfl rfl rf_2_1 dX2_place_12 ?_
  refine x_iconst (pc := 15) (v := 2) K dX2_place_15 (by decide) ?_
  refine x_iload_n (pc := 16) K 2 dX2_place_16 rfl rfl ?_
  refine x_imul (pc := 17) K dX2_place_17 ?_
  refine x_iconst (pc := 18) (v := 1) K dX2_place_18 (by decide) ?_
  refine x_iadd (pc := 19) K dX2_place_19 ?_
  refine y_aald (r0 := (4 + ((2 * mp) + 1))) (j := ((2 * mp) + 1)) (pc := 20) K (by decide) sh_3 (nI_addE (nI_mulE rfl rfl) rfl) (by omega) (by decide) (rf_3 _) dX2_place_20 ?_
  refine x_iload_n (pc := 21) K 1 dX2_place_21 rfl rfl ?_
  refine x_iload (pc := 22) K 4 dX2_place_22 rfl ?_
  refine y_iast (j := a) (pc := 24) K (shk_at (show ((2 * mp) + 1) < 4 by omega)) (shr_at _ (show ((2 * mp) + 1) < 4 by omega)) rfl (by omega) (by decide) dX2_place_24 ?_
  exact ret (pc := 25) dX2_place_25 (⟨rfl, rfl⟩)

set_option maxHeartbeats 1000000 in
set_option maxRecDepth 100000 in
theorem c_X2_counting (l : Launch) (G : hQ) (I : hI) (J : hJ) : h_Mi l yX2_counting wsX2_counting 0 0 G [rr G 2] I J (fun ρ I' J' => I 2 2 &&& I 2 3 = ρ ∧ I = I' ∧ J = J') := by
  refine h_Mi.of (ty := .int) (cc := cX2_counting) (maxL := 1) [(0, rr G 2)] (by decide +kernel) rfl (Nat.le_of_ble_eq_true rfl) rfl ?_
  intro Γ K ret
  have i_X2 : ∀ w ∈ u_ws RX2 TX2 4, w ∈ wsX2_counting := by decide +kernel
  refine x_aload_n (pc := 0) K 0 dX2_counting_0 rfl rfl ?_
  refine x_geti (pc := 1) (index := 20) (C := RX2) (T := TX2) (N := 4) (j0 := 2) (ref := "OldMap$Points") K (by decide) sh_2 rfl i_X2 (by decide) (by decide +kernel) rfl rfl dX2_counting_1 ?_
  refine x_aload_n (pc := 4) K 0 dX2_counting_4 rfl rfl ?_
  refine x_geti (pc := 5) (index := 23) (C := RX2) (T := TX2) (N := 4) (j0 := 3) (ref := "OldMap$Points") K (by decide) sh_2 rfl i_X2 (by decide) (by decide +kernel) rfl rfl dX2_counting_5 ?_
  refine x_iand (pc := 8) K dX2_counting_8 ?_
  exact ret (pc := 9) dX2_counting_9 (⟨rfl, rfl, rfl⟩) rfl

set_option maxHeartbeats 1000000 in
set_option maxRecDepth 100000 in
theorem c_X2_side (l : Launch) (G : hQ) (I : hI) (J : hJ) (mp a b : Nat) (x y : Int32) (hm : mp < 2) (ha : a < 12) (hb : b < 12) : h_Mi l yX2_side wsX2_side 0 0 G [rr G 2, .int (nI mp), .int (nI a), .int (nI b), .int x, .int y] I J (fun ρ I' J' => sideC I mp a b x y = ρ ∧ I = I' ∧ J = J') := by
  refine h_Mi.of (ty := .int) (cc := cX2_side) (maxL := 8) [(0, rr G 2), (1, .int (nI mp)), (2, .int (nI a)), (3, .int (nI b)), (4, .int x), (5, .int y)] (by decide +kernel) rfl (Nat.le_of_ble_eq_true rfl) rfl ?_
  intro Γ K ret
  have i_X2 : ∀ w ∈ u_ws RX2 TX2 4, w ∈ wsX2_side := by decide +kernel
  refine x_aload_n (pc := 0) K 0 dX2_side_0 rfl rfl ?_
  refine x_getr (r0 := 3) (pc := 1) (index := 17) (C := RX2) (T := TX2) (N := 4) (j0 := 1) (ref := "OldMap$Points") K (by decide) sh_2 rfl i_X2 (by decide) (by decide +kernel) rfl rfl rf_2_1 dX2_side_1 ?_
  refine x_iconst (pc := 4) (v := 2) K dX2_side_4 (by decide) ?_
  refine x_iload_n (pc := 5) K 1 dX2_side_5 rfl rfl ?_
  refine x_imul (pc := 6) K dX2_side_6 ?_
  refine y_aald (r0 := (4 + (2 * mp))) (j := (2 * mp)) (pc := 7) K (by decide) sh_3 (nI_mulE rfl rfl) (by omega) (by decide) (rf_3 _) dX2_side_7 ?_
  refine x_astore (pc := 8) (lo' := [(6, _), (0, _), (1, _), (2, _), (3, _), (4, _), (5, _)]) K dX2_side_8 (by decide) rfl ?_
  refine x_aload_n (pc := 10) K 1 dX2_side_10 rfl rfl ?_
  refine x_getr (r0 := 3) (pc := 11) (index := 17) (C := RX2) (T := TX2) (N := 4) (j0 := 1) (ref := "OldMap$Points") K (by decide) sh_2 rfl i_X2 (by decide) (by decide +kernel) rfl rfl rf_2_1 dX2_side_11 ?_
  refine x_iconst (pc := 14) (v := 2) K dX2_side_14 (by decide) ?_
  refine x_iload_n (pc := 15) K 2 dX2_side_15 rfl rfl ?_
  refine x_imul (pc := 16) K dX2_side_16 ?_
  refine x_iconst (pc := 17) (v := 1) K dX2_side_17 (by decide) ?_
  refine x_iadd (pc := 18) K dX2_side_18 ?_
  refine y_aald (r0 := (4 + ((2 * mp) + 1))) (j := ((2 * mp) + 1)) (pc := 19) K (by decide) sh_3 (nI_addE (nI_mulE rfl rfl) rfl) (by omega) (by decide) (rf_3 _) dX2_side_19 ?_
  refine x_astore (pc := 20) (lo' := [(7, _), (6, _), (0, _), (1, _), (2, _), (3, _), (4, _), (5, _)]) K dX2_side_20 (by decide) rfl ?_
  refine x_aload (pc := 22) K 1 dX2_side_22 rfl ?_
  refine x_iload_n (pc := 24) K 5 dX2_side_24 rfl rfl ?_
  refine y_iald (j := b) (pc := 25) K (shk_at (show (2 * mp) < 4 by omega)) (shr_at _ (show (2 * mp) < 4 by omega)) rfl (by omega) (by decide) dX2_side_25 ?_
  refine x_aload (pc := 26) K 1 dX2_side_26 rfl ?_
  refine x_iload_n (pc := 28) K 4 dX2_side_28 rfl rfl ?_
  refine y_iald (j := a) (pc := 29) K (shk_at (show (2 * mp) < 4 by omega)) (shr_at _ (show (2 * mp) < 4 by omega)) rfl (by omega) (by decide) dX2_side_29 ?_
  refine x_isub (pc := 30) K dX2_side_30 ?_
  refine x_iload (pc := 31) K 7 dX2_side_31 rfl ?_
  refine x_aload (pc := 33) K 0 dX2_side_33 rfl ?_
  refine x_iload_n (pc := 35) K 4 dX2_side_35 rfl rfl ?_
  refine y_iald (j := a) (pc := 36) K (shk_at (show ((2 * mp) + 1) < 4 by omega)) (shr_at _ (show ((2 * mp) + 1) < 4 by omega)) rfl (by omega) (by decide) dX2_side_36 ?_
  refine x_isub (pc := 37) K dX2_side_37 ?_
  refine x_imul (pc := 38) K dX2_side_38 ?_
  refine x_aload (pc := 39) K 0 dX2_side_39 rfl ?_
  refine x_iload_n (pc := 41) K 5 dX2_side_41 rfl rfl ?_
  refine y_iald (j := b) (pc := 42) K (shk_at (show ((2 * mp) + 1) < 4 by omega)) (shr_at _ (show ((2 * mp) + 1) < 4 by omega)) rfl (by omega) (by decide) dX2_side_42 ?_
  refine x_aload (pc := 43) K 0 dX2_side_43 rfl ?_
  refine x_iload_n (pc := 45) K 4 dX2_side_45 rfl rfl ?_
  refine y_iald (j := a) (pc := 46) K (shk_at (show ((2 * mp) + 1) < 4 by omega)) (shr_at _ (show ((2 * mp) + 1) < 4 by omega)) rfl (by omega) (by decide) dX2_side_46 ?_
  refine x_isub (pc := 47) K dX2_side_47 ?_
  refine x_iload (pc := 48) K 6 dX2_side_48 rfl ?_
  refine x_aload (pc := 50) K 1 dX2_side_50 rfl ?_
  refine x_iload_n (pc := 52) K 4 dX2_side_52 rfl rfl ?_
  refine y_iald (j := a) (pc := 53) K (shk_at (show (2 * mp) < 4 by omega)) (shr_at _ (show (2 * mp) < 4 by omega)) rfl (by omega) (by decide) dX2_side_53 ?_
  refine x_isub (pc := 54) K dX2_side_54 ?_
  refine x_imul (pc := 55) K dX2_side_55 ?_
  refine x_isub (pc := 56) K dX2_side_56 ?_
  exact ret (pc := 57) dX2_side_57 (⟨rfl, rfl, rfl⟩) rfl

set_option maxHeartbeats 1000000 in
set_option maxRecDepth 100000 in
theorem c_X2_turn (l : Launch) (G : hQ) (I : hI) (J : hJ) (mp a b c : Nat) (hm : mp < 2) (ha : a < 12) (hb : b < 12) (hc : c < 12) : h_Mi l yX2_turn wsX2_turn 1 27 G [rr G 2, .int (nI mp), .int (nI a), .int (nI b), .int (nI c)] I J (fun ρ I' J' => turnC I mp a b c = ρ ∧ I = I' ∧ J = J') := by
  refine h_Mi.of (ty := .int) (cc := cX2_turn) (maxL := 5) [(0, rr G 2), (1, .int (nI mp)), (2, .int (nI a)), (3, .int (nI b)), (4, .int (nI c))] (by decide +kernel) rfl (Nat.le_of_ble_eq_true rfl) rfl ?_
  intro Γ K ret
  have i_X2 : ∀ w ∈ u_ws RX2 TX2 4, w ∈ wsX2_turn := by decide +kernel
  refine x_aload_n (pc := 0) K 0 dX2_turn_0 rfl rfl ?_
  refine x_iload_n (pc := 1) K 1 dX2_turn_1 rfl rfl ?_
  refine x_iload_n (pc := 2) K 2 dX2_turn_2 rfl rfl ?_
  refine x_iload_n (pc := 3) K 3 dX2_turn_3 rfl rfl ?_
  refine x_aload_n (pc := 4) K 0 dX2_turn_4 rfl rfl ?_
  refine x_getr (r0 := 3) (pc := 5) (index := 17) (C := RX2) (T := TX2) (N := 4) (j0 := 1) (ref := "OldMap$Points") K (by decide) sh_2 rfl i_X2 (by decide) (by decide +kernel) rfl rfl rf_2_1 dX2_turn_5 ?_
  refine x_iconst (pc := 8) (v := 2) K dX2_turn_8 (by decide) ?_
  refine x_iload_n (pc := 9) K 1 dX2_turn_9 rfl rfl ?_
  refine x_imul (pc := 10) K dX2_turn_10 ?_
  refine y_aald (r0 := (4 + (2 * mp))) (j := (2 * mp)) (pc := 11) K (by decide) sh_3 (nI_mulE rfl rfl) (by omega) (by decide) (rf_3 _) dX2_turn_11 ?_
  refine x_iload (pc := 12) K 4 dX2_turn_12 rfl ?_
  refine y_iald (j := c) (pc := 14) K (shk_at (show (2 * mp) < 4 by omega)) (shr_at _ (show (2 * mp) < 4 by omega)) rfl (by omega) (by decide) dX2_turn_14 ?_
  refine x_aload_n (pc := 15) K 0 dX2_turn_15 rfl rfl ?_
  refine x_getr (r0 := 3) (pc := 16) (index := 17) (C := RX2) (T := TX2) (N := 4) (j0 := 1) (ref := "OldMap$Points") K (by decide) sh_2 rfl i_X2 (by decide) (by decide +kernel) rfl rfl rf_2_1 dX2_turn_16 ?_
  refine x_iconst (pc := 19) (v := 2) K dX2_turn_19 (by decide) ?_
  refine x_iload_n (pc := 20) K 1 dX2_turn_20 rfl rfl ?_
  refine x_imul (pc := 21) K dX2_turn_21 ?_
  refine x_iconst (pc := 22) (v := 1) K dX2_turn_22 (by decide) ?_
  refine x_iadd (pc := 23) K dX2_turn_23 ?_
  refine y_aald (r0 := (4 + ((2 * mp) + 1))) (j := ((2 * mp) + 1)) (pc := 24) K (by decide) sh_3 (nI_addE (nI_mulE rfl rfl) rfl) (by omega) (by decide) (rf_3 _) dX2_turn_24 ?_
  refine x_iload (pc := 25) K 4 dX2_turn_25 rfl ?_
  refine y_iald (j := c) (pc := 27) K (shk_at (show ((2 * mp) + 1) < 4 by omega)) (shr_at _ (show ((2 * mp) + 1) < 4 by omega)) rfl (by omega) (by decide) dX2_turn_27 ?_
  refine x_calliV (pc := 28) (st := []) (n := 5) K (by decide) sh_2 rfl (c_X2_side l G _ _ mp a b _ _ (by omega) (by omega) (by omega)) gX2_turn_X2_side (by decide +kernel) rfl (by decide) (by decide) rfl rfl (Nat.le_of_ble_eq_true rfl) dX2_turn_28 (fun r_28 I_28 J_28 hp_28 => ?_)
  obtain ⟨rfl, rfl, rfl⟩ := hp_28
  exact ret (pc := 31) dX2_turn_31 (⟨rfl, rfl, rfl⟩) rfl

set_option maxHeartbeats 1000000 in
set_option maxRecDepth 100000 in
theorem c_X2_add (l : Launch) (G : hQ) (I : hI) (J : hJ) (n : Nat) (x y X Y : Int32) (hn : I 2 0 = nI n) (h12 : n ≤ 12) : h_Mi l yX2_add wsX2_add 1 24 G [rr G 2, .int x, .int y, .int X, .int Y] I J (fun ρ I' J' => (if n < 12 then nI n else -2) = ρ ∧ (if n < 12 then addPt I n x y X Y else I) = I' ∧ J = J') := by
  refine h_Mi.of (ty := .int) (cc := cX2_add) (maxL := 6) [(0, rr G 2), (1, .int x), (2, .int y), (3, .int X), (4, .int Y)] (by decide +kernel) rfl (Nat.le_of_ble_eq_true rfl) rfl ?_
  intro Γ K ret
  have i_X2 : ∀ w ∈ u_ws RX2 TX2 4, w ∈ wsX2_add := by decide +kernel
  refine x_aload_n (pc := 0) K 0 dX2_add_0 rfl rfl ?_
  refine x_geti (pc := 1) (index := 9) (C := RX2) (T := TX2) (N := 4) (j0 := 0) (ref := "OldMap$Points") K (by decide) sh_2 rfl i_X2 (by decide) (by decide +kernel) rfl rfl dX2_add_1 ?_
  refine x_topie (nI n) hn ?_
  refine x_bipush (pc := 4) (v := 12) K dX2_add_4 (by decide) ?_
  refine x_icmp_lt (pc := 6) (tgt := 12) K dX2_add_6 (by decide) (fun c_6 => ?_) (fun c_6 => ?_)
  · replace c_6 := cI_lt (a := n) (b := 12) rfl rfl (by omega) (by omega) c_6
    refine x_aload_n (pc := 12) K 0 dX2_add_12 rfl rfl ?_
    refine x_geti (pc := 13) (index := 9) (C := RX2) (T := TX2) (N := 4) (j0 := 0) (ref := "OldMap$Points") K (by decide) sh_2 rfl i_X2 (by decide) (by decide +kernel) rfl rfl dX2_add_13 ?_
    refine x_topie (nI n) hn ?_
    refine x_istore (pc := 16) (lo' := [(5, _), (0, _), (1, _), (2, _), (3, _), (4, _)]) K dX2_add_16 (by decide) rfl ?_
    refine x_aload_n (pc := 18) K 1 dX2_add_18 rfl rfl ?_
    refine x_dup (pc := 19) K dX2_add_19 rfl ?_
    refine x_geti (pc := 20) (index := 9) (C := RX2) (T := TX2) (N := 4) (j0 := 0) (ref := "OldMap$Points") K (by decide) sh_2 rfl i_X2 (by decide) (by decide +kernel) rfl rfl dX2_add_20 ?_
    refine x_topie (nI n) hn ?_
    refine x_iconst (pc := 23) (v := 1) K dX2_add_23 (by decide) ?_
    refine x_iadd (pc := 24) K dX2_add_24 ?_
    refine x_puti (ty := .int) (pc := 25) (index := 9) (C := RX2) (T := TX2) (N := 4) (j0 := 0) (ref := "OldMap$Points") K (by decide) sh_2 rfl i_X2 (by decide) (by decide +kernel) rfl tyX2 tyX2_ok nmX2 rfl (by decide +kernel) rfl rfl rfl dX2_add_25 ?_
    refine x_aload_n (pc := 28) K 1 dX2_add_28 rfl rfl ?_
    refine x_iload (pc := 29) K 0 dX2_add_29 rfl ?_
    refine x_iconst (pc := 31) (v := 0) K dX2_add_31 (by decide) ?_
    refine x_iload_n (pc := 32) K 2 dX2_add_32 rfl rfl ?_
    refine x_iload_n (pc := 33) K 3 dX2_add_33 rfl rfl ?_
    refine x_callvV (pc := 34) (st := []) (n := 4) K (by decide) sh_2 rfl (c_X2_place l G _ _ n 0 _ _ (by omega) (by omega)) gX2_add_X2_place (by decide +kernel) rfl (by decide) (by decide) rfl rfl (Nat.le_of_ble_eq_true rfl) dX2_add_34 (fun I_34 J_34 hp_34 => ?_)
    obtain ⟨rfl, rfl⟩ := hp_34
    refine x_aload_n (pc := 37) K 1 dX2_add_37 rfl rfl ?_
    refine x_iload (pc := 38) K 0 dX2_add_38 rfl ?_
    refine x_iconst (pc := 40) (v := 1) K dX2_add_40 (by decide) ?_
    refine x_iload_n (pc := 41) K 4 dX2_add_41 rfl rfl ?_
    refine x_iload (pc := 42) K 5 dX2_add_42 rfl ?_
    refine x_callvV (pc := 44) (st := []) (n := 4) K (by decide) sh_2 rfl (c_X2_place l G _ _ n 1 _ _ (by omega) (by omega)) gX2_add_X2_place (by decide +kernel) rfl (by decide) (by decide) rfl rfl (Nat.le_of_ble_eq_true rfl) dX2_add_44 (fun I_44 J_44 hp_44 => ?_)
    obtain ⟨rfl, rfl⟩ := hp_44
    refine x_aload_n (pc := 47) K 1 dX2_add_47 rfl rfl ?_
    refine x_aload_n (pc := 48) K 1 dX2_add_48 rfl rfl ?_
    refine x_geti (pc := 49) (index := 20) (C := RX2) (T := TX2) (N := 4) (j0 := 2) (ref := "OldMap$Points") K (by decide) sh_2 rfl i_X2 (by decide) (by decide +kernel) rfl rfl dX2_add_49 ?_
    refine x_topie (I 2 2) (by simp [placeC, h_up]) ?_
    refine x_iload (pc := 52) K 0 dX2_add_52 rfl ?_
    refine x_iconst (pc := 54) (v := 1) K dX2_add_54 (by decide) ?_
    refine x_calliM (pc := 55) (st := [_]) (n := 3) K (c_X7_withBit l G _ _ _ _ _) (host := "OldMap") gX2_add_X7_withBit_n30 (by decide +kernel) (by decide +kernel) (by decide +kernel) (by decide +kernel) rfl (by decide) (by decide) rfl rfl (Nat.le_of_ble_eq_true rfl) dX2_add_55 (fun r_55 I_55 J_55 hp_55 => ?_)
    obtain ⟨rfl, rfl, rfl⟩ := hp_55
    refine x_puti (ty := .int) (pc := 58) (index := 20) (C := RX2) (T := TX2) (N := 4) (j0 := 2) (ref := "OldMap$Points") K (by decide) sh_2 rfl i_X2 (by decide) (by decide +kernel) rfl tyX2 tyX2_ok nmX2 rfl (by decide +kernel) rfl rfl rfl dX2_add_58 ?_
    refine x_aload_n (pc := 61) K 1 dX2_add_61 rfl rfl ?_
    refine x_aload_n (pc := 62) K 1 dX2_add_62 rfl rfl ?_
    refine x_geti (pc := 63) (index := 23) (C := RX2) (T := TX2) (N := 4) (j0 := 3) (ref := "OldMap$Points") K (by decide) sh_2 rfl i_X2 (by decide) (by decide +kernel) rfl rfl dX2_add_63 ?_
    refine x_topie (I 2 3) (by simp [placeC, h_up]) ?_
    refine x_iload (pc := 66) K 0 dX2_add_66 rfl ?_
    refine x_iconst (pc := 68) (v := 1) K dX2_add_68 (by decide) ?_
    refine x_calliM (pc := 69) (st := [_]) (n := 3) K (c_X7_withBit l G _ _ _ _ _) (host := "OldMap") gX2_add_X7_withBit_n30 (by decide +kernel) (by decide +kernel) (by decide +kernel) (by decide +kernel) rfl (by decide) (by decide) rfl rfl (Nat.le_of_ble_eq_true rfl) dX2_add_69 (fun r_69 I_69 J_69 hp_69 => ?_)
    obtain ⟨rfl, rfl, rfl⟩ := hp_69
    refine x_puti (ty := .int) (pc := 72) (index := 23) (C := RX2) (T := TX2) (N := 4) (j0 := 3) (ref := "OldMap$Points") K (by decide) sh_2 rfl i_X2 (by decide) (by decide +kernel) rfl tyX2 tyX2_ok nmX2 rfl (by decide +kernel) rfl rfl rfl dX2_add_72 ?_
    refine x_iload (pc := 75) K 0 dX2_add_75 rfl ?_
    exact ret (pc := 77) dX2_add_77 (⟨by rw [if_pos (by omega)], by rw [if_pos (by omega)]; rfl, rfl⟩) rfl
  · replace c_6 := cI_nlt (a := n) (b := 12) rfl rfl (by omega) (by omega) c_6
    refine x_bipush (pc := 9) (v := -2) K dX2_add_9 (by decide) ?_
    exact ret (pc := 11) dX2_add_11 (⟨by rw [if_neg (by omega)], by rw [if_neg (by omega)], rfl⟩) rfl

set_option maxHeartbeats 1000000 in
set_option maxRecDepth 100000 in
theorem c_X2_copyFrom0 (l : Launch) (G : hQ) (I : hI) (J : hJ) : h_Mv l yX2_copyFrom wsX2_copyFrom 1 20 G [rr G 2, rr G 29] I J (fun I' J' => cpPt0 I = I' ∧ J = J') := by
  refine h_Mv.of (cc := cX2_copyFrom) (maxL := 3) [(0, rr G 2), (1, rr G 29)] (by decide +kernel) rfl (Nat.le_of_ble_eq_true rfl) rfl ?_
  intro Γ K ret
  have i_X2 : ∀ w ∈ u_ws RX2 TX2 4, w ∈ wsX2_copyFrom := by decide +kernel
  refine x_aload_n (pc := 0) K 0 dX2_copyFrom_0 rfl rfl ?_
  refine x_aload_n (pc := 1) K 1 dX2_copyFrom_1 rfl rfl ?_
  refine x_geti (pc := 2) (index := 9) (C := RX2) (T := TX2) (N := 4) (j0 := 0) (ref := "OldMap$Points") K (by decide) sh_29 rfl i_X2 (by decide) (by decide +kernel) rfl rfl dX2_copyFrom_2 ?_
  refine x_puti (ty := .int) (pc := 5) (index := 9) (C := RX2) (T := TX2) (N := 4) (j0 := 0) (ref := "OldMap$Points") K (by decide) sh_2 rfl i_X2 (by decide) (by decide +kernel) rfl tyX2 tyX2_ok nmX2 rfl (by decide +kernel) rfl rfl rfl dX2_copyFrom_5 ?_
  refine x_aload_n (pc := 8) K 0 dX2_copyFrom_8 rfl rfl ?_
  refine x_aload_n (pc := 9) K 1 dX2_copyFrom_9 rfl rfl ?_
  refine x_geti (pc := 10) (index := 20) (C := RX2) (T := TX2) (N := 4) (j0 := 2) (ref := "OldMap$Points") K (by decide) sh_29 rfl i_X2 (by decide) (by decide +kernel) rfl rfl dX2_copyFrom_10 ?_
  refine x_topie (I 29 2) (by simp [h_up]) ?_
  refine x_puti (ty := .int) (pc := 13) (index := 20) (C := RX2) (T := TX2) (N := 4) (j0 := 2) (ref := "OldMap$Points") K (by decide) sh_2 rfl i_X2 (by decide) (by decide +kernel) rfl tyX2 tyX2_ok nmX2 rfl (by decide +kernel) rfl rfl rfl dX2_copyFrom_13 ?_
  refine x_aload_n (pc := 16) K 0 dX2_copyFrom_16 rfl rfl ?_
  refine x_aload_n (pc := 17) K 1 dX2_copyFrom_17 rfl rfl ?_
  refine x_geti (pc := 18) (index := 23) (C := RX2) (T := TX2) (N := 4) (j0 := 3) (ref := "OldMap$Points") K (by decide) sh_29 rfl i_X2 (by decide) (by decide +kernel) rfl rfl dX2_copyFrom_18 ?_
  refine x_topie (I 29 3) (by simp [h_up]) ?_
  refine x_puti (ty := .int) (pc := 21) (index := 23) (C := RX2) (T := TX2) (N := 4) (j0 := 3) (ref := "OldMap$Points") K (by decide) sh_2 rfl i_X2 (by decide) (by decide +kernel) rfl tyX2 tyX2_ok nmX2 rfl (by decide +kernel) rfl rfl rfl dX2_copyFrom_21 ?_
  refine x_iconst (pc := 24) (v := 0) K dX2_copyFrom_24 (by decide) ?_
  refine x_istore_n (pc := 25) (lo' := [(2, _), (0, _), (1, _)]) K dX2_copyFrom_25 rfl (by decide) rfl ?_
  refine x_iload_n (pc := 26) K 0 dX2_copyFrom_26 rfl rfl ?_
  refine x_iconst (pc := 27) (v := 4) K dX2_copyFrom_27 (by decide) ?_
  refine x_icmp_ge (pc := 28) (tgt := 56) K dX2_copyFrom_28 (by decide) (fun c_28 => ?_) (fun c_28 => ?_)
  · replace c_28 := cI_le (a := 4) (b := 0) rfl rfl (by omega) (by omega) c_28
    omega
  · replace c_28 := cI_nle (a := 4) (b := 0) rfl rfl (by omega) (by omega) c_28
    refine x_aload_n (pc := 31) K 2 dX2_copyFrom_31 rfl rfl ?_
    refine x_getr (r0 := 30) (pc := 32) (index := 17) (C := RX2) (T := TX2) (N := 4) (j0 := 1) (ref := "OldMap$Points") K (by decide) sh_29 rfl i_X2 (by decide) (by decide +kernel) rfl rfl rf_29_1 dX2_copyFrom_32 ?_
    refine x_iload_n (pc := 35) K 0 dX2_copyFrom_35 rfl rfl ?_
    refine y_aald (r0 := (31 + 0)) (j := 0) (pc := 36) K (by decide) sh_30 rfl (by omega) (by decide) (rf_30 _) dX2_copyFrom_36 ?_
    refine x_iconst (pc := 37) (v := 0) K dX2_copyFrom_37 (by decide) ?_
    refine x_aload_n (pc := 38) K 1 dX2_copyFrom_38 rfl rfl ?_
    refine x_getr (r0 := 3) (pc := 39) (index := 17) (C := RX2) (T := TX2) (N := 4) (j0 := 1) (ref := "OldMap$Points") K (by decide) sh_2 rfl i_X2 (by decide) (by decide +kernel) rfl rfl rf_2_1 dX2_copyFrom_39 ?_
    refine x_iload_n (pc := 42) K 0 dX2_copyFrom_42 rfl rfl ?_
    refine y_aald (r0 := (4 + 0)) (j := 0) (pc := 43) K (by decide) sh_3 rfl (by omega) (by decide) (rf_3 _) dX2_copyFrom_43 ?_
    refine x_iconst (pc := 44) (v := 0) K dX2_copyFrom_44 (by decide) ?_
    refine x_bipush (pc := 45) (v := 12) K dX2_copyFrom_45 (by decide) ?_
    refine y_copy (n := 12) (pc := 47) K (shk_atk (show 0 < 4 by omega)) (shr_atk _ (show 0 < 4 by omega)) (shk_at (show 0 < 4 by omega)) (shr_at _ (show 0 < 4 by omega)) rfl rfl rfl (by decide) (by decide) (by decide) (by decide +kernel) (by decide +kernel) (by decide +kernel) (by decide +kernel) (by decide) (Nat.le_of_ble_eq_true rfl) dX2_copyFrom_47 ?_
    refine x_iinc (pc := 50) (q0 := 0) (v := nI (0 + 1)) (lo' := [(2, _), (0, _), (1, _)]) K dX2_copyFrom_50 rfl (nI_incE rfl) (by decide) rfl ?_
    refine x_goto (pc := 53) (tgt := 26) K dX2_copyFrom_53 (by decide) ?_
    refine x_iload_n (pc := 26) K 0 dX2_copyFrom_26 rfl rfl ?_
    refine x_iconst (pc := 27) (v := 4) K dX2_copyFrom_27 (by decide) ?_
    refine x_icmp_ge (pc := 28) (tgt := 56) K dX2_copyFrom_28 (by decide) (fun c_28_1 => ?_) (fun c_28_1 => ?_)
    · replace c_28_1 := cI_le (a := 4) (b := (0 + 1)) rfl rfl (by omega) (by omega) c_28_1
      omega
    · replace c_28_1 := cI_nle (a := 4) (b := (0 + 1)) rfl rfl (by omega) (by omega) c_28_1
      refine x_aload_n (pc := 31) K 2 dX2_copyFrom_31 rfl rfl ?_
      refine x_getr (r0 := 30) (pc := 32) (index := 17) (C := RX2) (T := TX2) (N := 4) (j0 := 1) (ref := "OldMap$Points") K (by decide) sh_29 rfl i_X2 (by decide) (by decide +kernel) rfl rfl rf_29_1 dX2_copyFrom_32 ?_
      refine x_iload_n (pc := 35) K 0 dX2_copyFrom_35 rfl rfl ?_
      refine y_aald (r0 := (31 + (0 + 1))) (j := (0 + 1)) (pc := 36) K (by decide) sh_30 rfl (by omega) (by decide) (rf_30 _) dX2_copyFrom_36 ?_
      refine x_iconst (pc := 37) (v := 0) K dX2_copyFrom_37 (by decide) ?_
      refine x_aload_n (pc := 38) K 1 dX2_copyFrom_38 rfl rfl ?_
      refine x_getr (r0 := 3) (pc := 39) (index := 17) (C := RX2) (T := TX2) (N := 4) (j0 := 1) (ref := "OldMap$Points") K (by decide) sh_2 rfl i_X2 (by decide) (by decide +kernel) rfl rfl rf_2_1 dX2_copyFrom_39 ?_
      refine x_iload_n (pc := 42) K 0 dX2_copyFrom_42 rfl rfl ?_
      refine y_aald (r0 := (4 + (0 + 1))) (j := (0 + 1)) (pc := 43) K (by decide) sh_3 rfl (by omega) (by decide) (rf_3 _) dX2_copyFrom_43 ?_
      refine x_iconst (pc := 44) (v := 0) K dX2_copyFrom_44 (by decide) ?_
      refine x_bipush (pc := 45) (v := 12) K dX2_copyFrom_45 (by decide) ?_
      refine y_copy (n := 12) (pc := 47) K (shk_atk (show (0 + 1) < 4 by omega)) (shr_atk _ (show (0 + 1) < 4 by omega)) (shk_at (show (0 + 1) < 4 by omega)) (shr_at _ (show (0 + 1) < 4 by omega)) rfl rfl rfl (by decide) (by decide) (by decide) (by decide +kernel) (by decide +kernel) (by decide +kernel) (by decide +kernel) (by decide) (Nat.le_of_ble_eq_true rfl) dX2_copyFrom_47 ?_
      refine x_iinc (pc := 50) (q0 := 0) (v := nI ((0 + 1) + 1)) (lo' := [(2, _), (0, _), (1, _)]) K dX2_copyFrom_50 rfl (nI_incE rfl) (by decide) rfl ?_
      refine x_goto (pc := 53) (tgt := 26) K dX2_copyFrom_53 (by decide) ?_
      refine x_iload_n (pc := 26) K 0 dX2_copyFrom_26 rfl rfl ?_
      refine x_iconst (pc := 27) (v := 4) K dX2_copyFrom_27 (by decide) ?_
      refine x_icmp_ge (pc := 28) (tgt := 56) K dX2_copyFrom_28 (by decide) (fun c_28_2 => ?_) (fun c_28_2 => ?_)
      · replace c_28_2 := cI_le (a := 4) (b := ((0 + 1) + 1)) rfl rfl (by omega) (by omega) c_28_2
        omega
      · replace c_28_2 := cI_nle (a := 4) (b := ((0 + 1) + 1)) rfl rfl (by omega) (by omega) c_28_2
        refine x_aload_n (pc := 31) K 2 dX2_copyFrom_31 rfl rfl ?_
        refine x_getr (r0 := 30) (pc := 32) (index := 17) (C := RX2) (T := TX2) (N := 4) (j0 := 1) (ref := "OldMap$Points") K (by decide) sh_29 rfl i_X2 (by decide) (by decide +kernel) rfl rfl rf_29_1 dX2_copyFrom_32 ?_
        refine x_iload_n (pc := 35) K 0 dX2_copyFrom_35 rfl rfl ?_
        refine y_aald (r0 := (31 + ((0 + 1) + 1))) (j := ((0 + 1) + 1)) (pc := 36) K (by decide) sh_30 rfl (by omega) (by decide) (rf_30 _) dX2_copyFrom_36 ?_
        refine x_iconst (pc := 37) (v := 0) K dX2_copyFrom_37 (by decide) ?_
        refine x_aload_n (pc := 38) K 1 dX2_copyFrom_38 rfl rfl ?_
        refine x_getr (r0 := 3) (pc := 39) (index := 17) (C := RX2) (T := TX2) (N := 4) (j0 := 1) (ref := "OldMap$Points") K (by decide) sh_2 rfl i_X2 (by decide) (by decide +kernel) rfl rfl rf_2_1 dX2_copyFrom_39 ?_
        refine x_iload_n (pc := 42) K 0 dX2_copyFrom_42 rfl rfl ?_
        refine y_aald (r0 := (4 + ((0 + 1) + 1))) (j := ((0 + 1) + 1)) (pc := 43) K (by decide) sh_3 rfl (by omega) (by decide) (rf_3 _) dX2_copyFrom_43 ?_
        refine x_iconst (pc := 44) (v := 0) K dX2_copyFrom_44 (by decide) ?_
        refine x_bipush (pc := 45) (v := 12) K dX2_copyFrom_45 (by decide) ?_
        refine y_copy (n := 12) (pc := 47) K (shk_atk (show ((0 + 1) + 1) < 4 by omega)) (shr_atk _ (show ((0 + 1) + 1) < 4 by omega)) (shk_at (show ((0 + 1) + 1) < 4 by omega)) (shr_at _ (show ((0 + 1) + 1) < 4 by omega)) rfl rfl rfl (by decide) (by decide) (by decide) (by decide +kernel) (by decide +kernel) (by decide +kernel) (by decide +kernel) (by decide) (Nat.le_of_ble_eq_true rfl) dX2_copyFrom_47 ?_
        refine x_iinc (pc := 50) (q0 := 0) (v := nI (((0 + 1) + 1) + 1)) (lo' := [(2, _), (0, _), (1, _)]) K dX2_copyFrom_50 rfl (nI_incE rfl) (by decide) rfl ?_
        refine x_goto (pc := 53) (tgt := 26) K dX2_copyFrom_53 (by decide) ?_
        refine x_iload_n (pc := 26) K 0 dX2_copyFrom_26 rfl rfl ?_
        refine x_iconst (pc := 27) (v := 4) K dX2_copyFrom_27 (by decide) ?_
        refine x_icmp_ge (pc := 28) (tgt := 56) K dX2_copyFrom_28 (by decide) (fun c_28_3 => ?_) (fun c_28_3 => ?_)
        · replace c_28_3 := cI_le (a := 4) (b := (((0 + 1) + 1) + 1)) rfl rfl (by omega) (by omega) c_28_3
          omega
        · replace c_28_3 := cI_nle (a := 4) (b := (((0 + 1) + 1) + 1)) rfl rfl (by omega) (by omega) c_28_3
          refine x_aload_n (pc := 31) K 2 dX2_copyFrom_31 rfl rfl ?_
          refine x_getr (r0 := 30) (pc := 32) (index := 17) (C := RX2) (T := TX2) (N := 4) (j0 := 1) (ref := "OldMap$Points") K (by decide) sh_29 rfl i_X2 (by decide) (by decide +kernel) rfl rfl rf_29_1 dX2_copyFrom_32 ?_
          refine x_iload_n (pc := 35) K 0 dX2_copyFrom_35 rfl rfl ?_
          refine y_aald (r0 := (31 + (((0 + 1) + 1) + 1))) (j := (((0 + 1) + 1) + 1)) (pc := 36) K (by decide) sh_30 rfl (by omega) (by decide) (rf_30 _) dX2_copyFrom_36 ?_
          refine x_iconst (pc := 37) (v := 0) K dX2_copyFrom_37 (by decide) ?_
          refine x_aload_n (pc := 38) K 1 dX2_copyFrom_38 rfl rfl ?_
          refine x_getr (r0 := 3) (pc := 39) (index := 17) (C := RX2) (T := TX2) (N := 4) (j0 := 1) (ref := "OldMap$Points") K (by decide) sh_2 rfl i_X2 (by decide) (by decide +kernel) rfl rfl rf_2_1 dX2_copyFrom_39 ?_
          refine x_iload_n (pc := 42) K 0 dX2_copyFrom_42 rfl rfl ?_
          refine y_aald (r0 := (4 + (((0 + 1) + 1) + 1))) (j := (((0 + 1) + 1) + 1)) (pc := 43) K (by decide) sh_3 rfl (by omega) (by decide) (rf_3 _) dX2_copyFrom_43 ?_
          refine x_iconst (pc := 44) (v := 0) K dX2_copyFrom_44 (by decide) ?_
          refine x_bipush (pc := 45) (v := 12) K dX2_copyFrom_45 (by decide) ?_
          refine y_copy (n := 12) (pc := 47) K (shk_atk (show (((0 + 1) + 1) + 1) < 4 by omega)) (shr_atk _ (show (((0 + 1) + 1) + 1) < 4 by omega)) (shk_at (show (((0 + 1) + 1) + 1) < 4 by omega)) (shr_at _ (show (((0 + 1) + 1) + 1) < 4 by omega)) rfl rfl rfl (by decide) (by decide) (by decide) (by decide +kernel) (by decide +kernel) (by decide +kernel) (by decide +kernel) (by decide) (Nat.le_of_ble_eq_true rfl) dX2_copyFrom_47 ?_
          refine x_iinc (pc := 50) (q0 := 0) (v := nI ((((0 + 1) + 1) + 1) + 1)) (lo' := [(2, _), (0, _), (1, _)]) K dX2_copyFrom_50 rfl (nI_incE rfl) (by decide) rfl ?_
          refine x_goto (pc := 53) (tgt := 26) K dX2_copyFrom_53 (by decide) ?_
          refine x_iload_n (pc := 26) K 0 dX2_copyFrom_26 rfl rfl ?_
          refine x_iconst (pc := 27) (v := 4) K dX2_copyFrom_27 (by decide) ?_
          refine x_icmp_ge (pc := 28) (tgt := 56) K dX2_copyFrom_28 (by decide) (fun c_28_4 => ?_) (fun c_28_4 => ?_)
          · replace c_28_4 := cI_le (a := 4) (b := ((((0 + 1) + 1) + 1) + 1)) rfl rfl (by omega) (by omega) c_28_4
            exact ret (pc := 56) dX2_copyFrom_56 (⟨rfl, rfl⟩)
          · replace c_28_4 := cI_nle (a := 4) (b := ((((0 + 1) + 1) + 1) + 1)) rfl rfl (by omega) (by omega) c_28_4
            omega

set_option maxHeartbeats 1000000 in
set_option maxRecDepth 100000 in
theorem c_X2_copyFrom1 (l : Launch) (G : hQ) (I : hI) (J : hJ) : h_Mv l yX2_copyFrom wsX2_copyFrom 1 20 G [rr G 29, rr G 2] I J (fun I' J' => cpPt1 I = I' ∧ J = J') := by
  refine h_Mv.of (cc := cX2_copyFrom) (maxL := 3) [(0, rr G 29), (1, rr G 2)] (by decide +kernel) rfl (Nat.le_of_ble_eq_true rfl) rfl ?_
  intro Γ K ret
  have i_X2 : ∀ w ∈ u_ws RX2 TX2 4, w ∈ wsX2_copyFrom := by decide +kernel
  refine x_aload_n (pc := 0) K 0 dX2_copyFrom_0 rfl rfl ?_
  refine x_aload_n (pc := 1) K 1 dX2_copyFrom_1 rfl rfl ?_
  refine x_geti (pc := 2) (index := 9) (C := RX2) (T := TX2) (N := 4) (j0 := 0) (ref := "OldMap$Points") K (by decide) sh_2 rfl i_X2 (by decide) (by decide +kernel) rfl rfl dX2_copyFrom_2 ?_
  refine x_puti (ty := .int) (pc := 5) (index := 9) (C := RX2) (T := TX2) (N := 4) (j0 := 0) (ref := "OldMap$Points") K (by decide) sh_29 rfl i_X2 (by decide) (by decide +kernel) rfl tyX2 tyX2_ok nmX2 rfl (by decide +kernel) rfl rfl rfl dX2_copyFrom_5 ?_
  refine x_aload_n (pc := 8) K 0 dX2_copyFrom_8 rfl rfl ?_
  refine x_aload_n (pc := 9) K 1 dX2_copyFrom_9 rfl rfl ?_
  refine x_geti (pc := 10) (index := 20) (C := RX2) (T := TX2) (N := 4) (j0 := 2) (ref := "OldMap$Points") K (by decide) sh_2 rfl i_X2 (by decide) (by decide +kernel) rfl rfl dX2_copyFrom_10 ?_
  refine x_topie (I 2 2) (by simp [h_up]) ?_
  refine x_puti (ty := .int) (pc := 13) (index := 20) (C := RX2) (T := TX2) (N := 4) (j0 := 2) (ref := "OldMap$Points") K (by decide) sh_29 rfl i_X2 (by decide) (by decide +kernel) rfl tyX2 tyX2_ok nmX2 rfl (by decide +kernel) rfl rfl rfl dX2_copyFrom_13 ?_
  refine x_aload_n (pc := 16) K 0 dX2_copyFrom_16 rfl rfl ?_
  refine x_aload_n (pc := 17) K 1 dX2_copyFrom_17 rfl rfl ?_
  refine x_geti (pc := 18) (index := 23) (C := RX2) (T := TX2) (N := 4) (j0 := 3) (ref := "OldMap$Points") K (by decide) sh_2 rfl i_X2 (by decide) (by decide +kernel) rfl rfl dX2_copyFrom_18 ?_
  refine x_topie (I 2 3) (by simp [h_up]) ?_
  refine x_puti (ty := .int) (pc := 21) (index := 23) (C := RX2) (T := TX2) (N := 4) (j0 := 3) (ref := "OldMap$Points") K (by decide) sh_29 rfl i_X2 (by decide) (by decide +kernel) rfl tyX2 tyX2_ok nmX2 rfl (by decide +kernel) rfl rfl rfl dX2_copyFrom_21 ?_
  refine x_iconst (pc := 24) (v := 0) K dX2_copyFrom_24 (by decide) ?_
  refine x_istore_n (pc := 25) (lo' := [(2, _), (0, _), (1, _)]) K dX2_copyFrom_25 rfl (by decide) rfl ?_
  refine x_iload_n (pc := 26) K 0 dX2_copyFrom_26 rfl rfl ?_
  refine x_iconst (pc := 27) (v := 4) K dX2_copyFrom_27 (by decide) ?_
  refine x_icmp_ge (pc := 28) (tgt := 56) K dX2_copyFrom_28 (by decide) (fun c_28 => ?_) (fun c_28 => ?_)
  · replace c_28 := cI_le (a := 4) (b := 0) rfl rfl (by omega) (by omega) c_28
    omega
  · replace c_28 := cI_nle (a := 4) (b := 0) rfl rfl (by omega) (by omega) c_28
    refine x_aload_n (pc := 31) K 2 dX2_copyFrom_31 rfl rfl ?_
    refine x_getr (r0 := 3) (pc := 32) (index := 17) (C := RX2) (T := TX2) (N := 4) (j0 := 1) (ref := "OldMap$Points") K (by decide) sh_2 rfl i_X2 (by decide) (by decide +kernel) rfl rfl rf_2_1 dX2_copyFrom_32 ?_
    refine x_iload_n (pc := 35) K 0 dX2_copyFrom_35 rfl rfl ?_
    refine y_aald (r0 := (4 + 0)) (j := 0) (pc := 36) K (by decide) sh_3 rfl (by omega) (by decide) (rf_3 _) dX2_copyFrom_36 ?_
    refine x_iconst (pc := 37) (v := 0) K dX2_copyFrom_37 (by decide) ?_
    refine x_aload_n (pc := 38) K 1 dX2_copyFrom_38 rfl rfl ?_
    refine x_getr (r0 := 30) (pc := 39) (index := 17) (C := RX2) (T := TX2) (N := 4) (j0 := 1) (ref := "OldMap$Points") K (by decide) sh_29 rfl i_X2 (by decide) (by decide +kernel) rfl rfl rf_29_1 dX2_copyFrom_39 ?_
    refine x_iload_n (pc := 42) K 0 dX2_copyFrom_42 rfl rfl ?_
    refine y_aald (r0 := (31 + 0)) (j := 0) (pc := 43) K (by decide) sh_30 rfl (by omega) (by decide) (rf_30 _) dX2_copyFrom_43 ?_
    refine x_iconst (pc := 44) (v := 0) K dX2_copyFrom_44 (by decide) ?_
    refine x_bipush (pc := 45) (v := 12) K dX2_copyFrom_45 (by decide) ?_
    refine y_copy (n := 12) (pc := 47) K (shk_at (show 0 < 4 by omega)) (shr_at _ (show 0 < 4 by omega)) (shk_atk (show 0 < 4 by omega)) (shr_atk _ (show 0 < 4 by omega)) rfl rfl rfl (by decide) (by decide) (by decide) (by decide +kernel) (by decide +kernel) (by decide +kernel) (by decide +kernel) (by decide) (Nat.le_of_ble_eq_true rfl) dX2_copyFrom_47 ?_
    refine x_iinc (pc := 50) (q0 := 0) (v := nI (0 + 1)) (lo' := [(2, _), (0, _), (1, _)]) K dX2_copyFrom_50 rfl (nI_incE rfl) (by decide) rfl ?_
    refine x_goto (pc := 53) (tgt := 26) K dX2_copyFrom_53 (by decide) ?_
    refine x_iload_n (pc := 26) K 0 dX2_copyFrom_26 rfl rfl ?_
    refine x_iconst (pc := 27) (v := 4) K dX2_copyFrom_27 (by decide) ?_
    refine x_icmp_ge (pc := 28) (tgt := 56) K dX2_copyFrom_28 (by decide) (fun c_28_1 => ?_) (fun c_28_1 => ?_)
    · replace c_28_1 := cI_le (a := 4) (b := (0 + 1)) rfl rfl (by omega) (by omega) c_28_1
      omega
    · replace c_28_1 := cI_nle (a := 4) (b := (0 + 1)) rfl rfl (by omega) (by omega) c_28_1
      refine x_aload_n (pc := 31) K 2 dX2_copyFrom_31 rfl rfl ?_
      refine x_getr (r0 := 3) (pc := 32) (index := 17) (C := RX2) (T := TX2) (N := 4) (j0 := 1) (ref := "OldMap$Points") K (by decide) sh_2 rfl i_X2 (by decide) (by decide +kernel) rfl rfl rf_2_1 dX2_copyFrom_32 ?_
      refine x_iload_n (pc := 35) K 0 dX2_copyFrom_35 rfl rfl ?_
      refine y_aald (r0 := (4 + (0 + 1))) (j := (0 + 1)) (pc := 36) K (by decide) sh_3 rfl (by omega) (by decide) (rf_3 _) dX2_copyFrom_36 ?_
      refine x_iconst (pc := 37) (v := 0) K dX2_copyFrom_37 (by decide) ?_
      refine x_aload_n (pc := 38) K 1 dX2_copyFrom_38 rfl rfl ?_
      refine x_getr (r0 := 30) (pc := 39) (index := 17) (C := RX2) (T := TX2) (N := 4) (j0 := 1) (ref := "OldMap$Points") K (by decide) sh_29 rfl i_X2 (by decide) (by decide +kernel) rfl rfl rf_29_1 dX2_copyFrom_39 ?_
      refine x_iload_n (pc := 42) K 0 dX2_copyFrom_42 rfl rfl ?_
      refine y_aald (r0 := (31 + (0 + 1))) (j := (0 + 1)) (pc := 43) K (by decide) sh_30 rfl (by omega) (by decide) (rf_30 _) dX2_copyFrom_43 ?_
      refine x_iconst (pc := 44) (v := 0) K dX2_copyFrom_44 (by decide) ?_
      refine x_bipush (pc := 45) (v := 12) K dX2_copyFrom_45 (by decide) ?_
      refine y_copy (n := 12) (pc := 47) K (shk_at (show (0 + 1) < 4 by omega)) (shr_at _ (show (0 + 1) < 4 by omega)) (shk_atk (show (0 + 1) < 4 by omega)) (shr_atk _ (show (0 + 1) < 4 by omega)) rfl rfl rfl (by decide) (by decide) (by decide) (by decide +kernel) (by decide +kernel) (by decide +kernel) (by decide +kernel) (by decide) (Nat.le_of_ble_eq_true rfl) dX2_copyFrom_47 ?_
      refine x_iinc (pc := 50) (q0 := 0) (v := nI ((0 + 1) + 1)) (lo' := [(2, _), (0, _), (1, _)]) K dX2_copyFrom_50 rfl (nI_incE rfl) (by decide) rfl ?_
      refine x_goto (pc := 53) (tgt := 26) K dX2_copyFrom_53 (by decide) ?_
      refine x_iload_n (pc := 26) K 0 dX2_copyFrom_26 rfl rfl ?_
      refine x_iconst (pc := 27) (v := 4) K dX2_copyFrom_27 (by decide) ?_
      refine x_icmp_ge (pc := 28) (tgt := 56) K dX2_copyFrom_28 (by decide) (fun c_28_2 => ?_) (fun c_28_2 => ?_)
      · replace c_28_2 := cI_le (a := 4) (b := ((0 + 1) + 1)) rfl rfl (by omega) (by omega) c_28_2
        omega
      · replace c_28_2 := cI_nle (a := 4) (b := ((0 + 1) + 1)) rfl rfl (by omega) (by omega) c_28_2
        refine x_aload_n (pc := 31) K 2 dX2_copyFrom_31 rfl rfl ?_
        refine x_getr (r0 := 3) (pc := 32) (index := 17) (C := RX2) (T := TX2) (N := 4) (j0 := 1) (ref := "OldMap$Points") K (by decide) sh_2 rfl i_X2 (by decide) (by decide +kernel) rfl rfl rf_2_1 dX2_copyFrom_32 ?_
        refine x_iload_n (pc := 35) K 0 dX2_copyFrom_35 rfl rfl ?_
        refine y_aald (r0 := (4 + ((0 + 1) + 1))) (j := ((0 + 1) + 1)) (pc := 36) K (by decide) sh_3 rfl (by omega) (by decide) (rf_3 _) dX2_copyFrom_36 ?_
        refine x_iconst (pc := 37) (v := 0) K dX2_copyFrom_37 (by decide) ?_
        refine x_aload_n (pc := 38) K 1 dX2_copyFrom_38 rfl rfl ?_
        refine x_getr (r0 := 30) (pc := 39) (index := 17) (C := RX2) (T := TX2) (N := 4) (j0 := 1) (ref := "OldMap$Points") K (by decide) sh_29 rfl i_X2 (by decide) (by decide +kernel) rfl rfl rf_29_1 dX2_copyFrom_39 ?_
        refine x_iload_n (pc := 42) K 0 dX2_copyFrom_42 rfl rfl ?_
        refine y_aald (r0 := (31 + ((0 + 1) + 1))) (j := ((0 + 1) + 1)) (pc := 43) K (by decide) sh_30 rfl (by omega) (by decide) (rf_30 _) dX2_copyFrom_43 ?_
        refine x_iconst (pc := 44) (v := 0) K dX2_copyFrom_44 (by decide) ?_
        refine x_bipush (pc := 45) (v := 12) K dX2_copyFrom_45 (by decide) ?_
        refine y_copy (n := 12) (pc := 47) K (shk_at (show ((0 + 1) + 1) < 4 by omega)) (shr_at _ (show ((0 + 1) + 1) < 4 by omega)) (shk_atk (show ((0 + 1) + 1) < 4 by omega)) (shr_atk _ (show ((0 + 1) + 1) < 4 by omega)) rfl rfl rfl (by decide) (by decide) (by decide) (by decide +kernel) (by decide +kernel) (by decide +kernel) (by decide +kernel) (by decide) (Nat.le_of_ble_eq_true rfl) dX2_copyFrom_47 ?_
        refine x_iinc (pc := 50) (q0 := 0) (v := nI (((0 + 1) + 1) + 1)) (lo' := [(2, _), (0, _), (1, _)]) K dX2_copyFrom_50 rfl (nI_incE rfl) (by decide) rfl ?_
        refine x_goto (pc := 53) (tgt := 26) K dX2_copyFrom_53 (by decide) ?_
        refine x_iload_n (pc := 26) K 0 dX2_copyFrom_26 rfl rfl ?_
        refine x_iconst (pc := 27) (v := 4) K dX2_copyFrom_27 (by decide) ?_
        refine x_icmp_ge (pc := 28) (tgt := 56) K dX2_copyFrom_28 (by decide) (fun c_28_3 => ?_) (fun c_28_3 => ?_)
        · replace c_28_3 := cI_le (a := 4) (b := (((0 + 1) + 1) + 1)) rfl rfl (by omega) (by omega) c_28_3
          omega
        · replace c_28_3 := cI_nle (a := 4) (b := (((0 + 1) + 1) + 1)) rfl rfl (by omega) (by omega) c_28_3
          refine x_aload_n (pc := 31) K 2 dX2_copyFrom_31 rfl rfl ?_
          refine x_getr (r0 := 3) (pc := 32) (index := 17) (C := RX2) (T := TX2) (N := 4) (j0 := 1) (ref := "OldMap$Points") K (by decide) sh_2 rfl i_X2 (by decide) (by decide +kernel) rfl rfl rf_2_1 dX2_copyFrom_32 ?_
          refine x_iload_n (pc := 35) K 0 dX2_copyFrom_35 rfl rfl ?_
          refine y_aald (r0 := (4 + (((0 + 1) + 1) + 1))) (j := (((0 + 1) + 1) + 1)) (pc := 36) K (by decide) sh_3 rfl (by omega) (by decide) (rf_3 _) dX2_copyFrom_36 ?_
          refine x_iconst (pc := 37) (v := 0) K dX2_copyFrom_37 (by decide) ?_
          refine x_aload_n (pc := 38) K 1 dX2_copyFrom_38 rfl rfl ?_
          refine x_getr (r0 := 30) (pc := 39) (index := 17) (C := RX2) (T := TX2) (N := 4) (j0 := 1) (ref := "OldMap$Points") K (by decide) sh_29 rfl i_X2 (by decide) (by decide +kernel) rfl rfl rf_29_1 dX2_copyFrom_39 ?_
          refine x_iload_n (pc := 42) K 0 dX2_copyFrom_42 rfl rfl ?_
          refine y_aald (r0 := (31 + (((0 + 1) + 1) + 1))) (j := (((0 + 1) + 1) + 1)) (pc := 43) K (by decide) sh_30 rfl (by omega) (by decide) (rf_30 _) dX2_copyFrom_43 ?_
          refine x_iconst (pc := 44) (v := 0) K dX2_copyFrom_44 (by decide) ?_
          refine x_bipush (pc := 45) (v := 12) K dX2_copyFrom_45 (by decide) ?_
          refine y_copy (n := 12) (pc := 47) K (shk_at (show (((0 + 1) + 1) + 1) < 4 by omega)) (shr_at _ (show (((0 + 1) + 1) + 1) < 4 by omega)) (shk_atk (show (((0 + 1) + 1) + 1) < 4 by omega)) (shr_atk _ (show (((0 + 1) + 1) + 1) < 4 by omega)) rfl rfl rfl (by decide) (by decide) (by decide) (by decide +kernel) (by decide +kernel) (by decide +kernel) (by decide +kernel) (by decide) (Nat.le_of_ble_eq_true rfl) dX2_copyFrom_47 ?_
          refine x_iinc (pc := 50) (q0 := 0) (v := nI ((((0 + 1) + 1) + 1) + 1)) (lo' := [(2, _), (0, _), (1, _)]) K dX2_copyFrom_50 rfl (nI_incE rfl) (by decide) rfl ?_
          refine x_goto (pc := 53) (tgt := 26) K dX2_copyFrom_53 (by decide) ?_
          refine x_iload_n (pc := 26) K 0 dX2_copyFrom_26 rfl rfl ?_
          refine x_iconst (pc := 27) (v := 4) K dX2_copyFrom_27 (by decide) ?_
          refine x_icmp_ge (pc := 28) (tgt := 56) K dX2_copyFrom_28 (by decide) (fun c_28_4 => ?_) (fun c_28_4 => ?_)
          · replace c_28_4 := cI_le (a := 4) (b := ((((0 + 1) + 1) + 1) + 1)) rfl rfl (by omega) (by omega) c_28_4
            exact ret (pc := 56) dX2_copyFrom_56 (⟨rfl, rfl⟩)
          · replace c_28_4 := cI_nle (a := 4) (b := ((((0 + 1) + 1) + 1) + 1)) rfl rfl (by omega) (by omega) c_28_4
            omega

