/-! OldMap$Triangles: cell 8, rows 10 + t -/
def cn (I : hI) (t j : Nat) : Nat := (I (10 + t) j).toNatClampNeg
def TOk (I : hI) (t : Nat) : Prop := t < 10 ∧ ∀ j, j < 3 → I (10 + t) j = nI (cn I t j) ∧ cn I t j < 12
def tT (I : hI) (t mp : Nat) : Int32 := turnC I mp (cn I t 0) (cn I t 1) (cn I t 2)
def inw (I : hI) (t mp : Nat) (way : Int64) (f : Nat) (x y : Int32) : Int64 := way * (sideC I mp (cn I t f) (cn I t ((f + 1) % 3)) x y).toInt64
abbrev fl (I : hI) (t : Nat) : Prop := tT I t 0 = 0 ∨ tT I t 1 = 0
abbrev ov (I : hI) (t : Nat) : Prop := ¬ 0 ≤ (tT I t 0).toInt64 * (tT I t 1).toInt64
abbrev hol (I : hI) (t mp : Nat) (x y : Int32) : Prop := 0 ≤ inw I t mp (tT I t mp).toInt64 0 x y ∧ 0 ≤ inw I t mp (tT I t mp).toInt64 1 x y ∧ 0 ≤ inw I t mp (tT I t mp).toInt64 2 x y
abbrev inU (I : hI) (t u mp : Nat) (way : Int64) (f j : Nat) : Int64 := inw I t mp way f (I (4 + 2 * mp) (cn I u j)) (I (4 + (2 * mp + 1)) (cn I u j))
abbrev outs (I : hI) (t u mp : Nat) (way : Int64) (f : Nat) : Prop := inU I t u mp way f 0 ≤ 0 ∧ inU I t u mp way f 1 ≤ 0 ∧ inU I t u mp way f 2 ≤ 0
abbrev par (I : hI) (t u mp : Nat) : Prop := outs I t u mp (tT I t mp).toInt64 0 ∨ outs I t u mp (tT I t mp).toInt64 1 ∨ outs I t u mp (tT I t mp).toInt64 2
abbrev ovl (I : hI) (t u mp : Nat) : Prop := ¬ par I t u mp ∧ ¬ par I u t mp
def bent (I : hI) (t mp ax : Nat) (x y : Int32) : Int64 := (I (4 + (2 * (1 - mp) + ax)) (cn I t 0)).toInt64 * (tT I t mp).toInt64 + (sideC I mp (cn I t 2) (cn I t 0) x y).toInt64 * ((I (4 + (2 * (1 - mp) + ax)) (cn I t 1)).toInt64 - (I (4 + (2 * (1 - mp) + ax)) (cn I t 0)).toInt64) + (sideC I mp (cn I t 0) (cn I t 1) x y).toInt64 * ((I (4 + (2 * (1 - mp) + ax)) (cn I t 2)).toInt64 - (I (4 + (2 * (1 - mp) + ax)) (cn I t 0)).toInt64)
def addTr (I : hI) (n : Nat) (p q r : Int32) : hI := h_up (h_up (h_up (h_up I 8 1 (nI n + 1)) (10 + n) 0 p) (10 + n) 1 q) (10 + n) 2 r

def cpTr0 (I : hI) : hI := h_cp (h_cp (h_cp (h_cp (h_cp (h_cp (h_cp (h_cp (h_cp (h_cp (h_up I 8 1 (I 35 1)) 37 10 3) 38 11 3) 39 12 3) 40 13 3) 41 14 3) 42 15 3) 43 16 3) 44 17 3) 45 18 3) 46 19 3
def cpTr1 (I : hI) : hI := h_cp (h_cp (h_cp (h_cp (h_cp (h_cp (h_cp (h_cp (h_cp (h_cp (h_up I 35 1 (I 8 1)) 10 37 3) 11 38 3) 12 39 3) 13 40 3) 14 41 3) 15 42 3) 16 43 3) 17 44 3) 18 45 3) 19 46 3
set_option maxHeartbeats 1000000 in
set_option maxRecDepth 100000 in
theorem c_X5_has (l : Launch) (G : hQ) (I : hI) (J : hJ) (x : Int32) : h_Mi l yX5_has wsX5_has 0 0 G [rr G 8, .int x] I J (fun ρ I' J' => bz (0 ≤ x ∧ x < I 8 1) = ρ ∧ I = I' ∧ J = J') := by
  refine h_Mi.of (ty := .boolean) (cc := cX5_has) (maxL := 2) [(0, rr G 8), (1, .int x)] (by decide +kernel) rfl (Nat.le_of_ble_eq_true rfl) rfl ?_
  intro Γ K ret
  have i_X5 : ∀ w ∈ u_ws RX5 TX5 3, w ∈ wsX5_has := by decide +kernel
  refine x_iload_n (pc := 0) K 1 dX5_has_0 rfl rfl ?_
  refine x_if_lt (pc := 1) (tgt := 16) K dX5_has_1 (by decide) (fun c_1 => ?_) (fun c_1 => ?_)
  · refine x_iconst (pc := 16) (v := 0) K dX5_has_16 (by decide) ?_
    exact ret (pc := 17) dX5_has_17 (⟨by first | exact bz_1.mpr (by grind) | exact bz_0.mpr (by grind), rfl, rfl⟩) rfl
  · refine x_iload_n (pc := 4) K 1 dX5_has_4 rfl rfl ?_
    refine x_aload_n (pc := 5) K 0 dX5_has_5 rfl rfl ?_
    refine x_geti (pc := 6) (index := 9) (C := RX5) (T := TX5) (N := 3) (j0 := 1) (ref := "OldMap$Triangles") K (by decide) sh_8 rfl i_X5 (by decide) (by decide +kernel) rfl rfl dX5_has_6 ?_
    refine x_icmp_ge (pc := 9) (tgt := 16) K dX5_has_9 (by decide) (fun c_9 => ?_) (fun c_9 => ?_)
    · refine x_iconst (pc := 16) (v := 0) K dX5_has_16 (by decide) ?_
      exact ret (pc := 17) dX5_has_17 (⟨by first | exact bz_1.mpr (by grind) | exact bz_0.mpr (by grind), rfl, rfl⟩) rfl
    · refine x_iconst (pc := 12) (v := 1) K dX5_has_12 (by decide) ?_
      refine x_goto (pc := 13) (tgt := 17) K dX5_has_13 (by decide) ?_
      exact ret (pc := 17) dX5_has_17 (⟨by first | exact bz_1.mpr (by grind) | exact bz_0.mpr (by grind), rfl, rfl⟩) rfl

set_option maxHeartbeats 1000000 in
set_option maxRecDepth 100000 in
theorem c_X5_turn (l : Launch) (G : hQ) (I : hI) (J : hJ) (t mp : Nat) (hT : TOk I t) (hm : mp < 2) : h_Mi l yX5_turn wsX5_turn 2 51 G [rr G 8, .int (nI t), .int (nI mp)] I J (fun ρ I' J' => tT I t mp = ρ ∧ I = I' ∧ J = J') := by
  refine h_Mi.of (ty := .int) (cc := cX5_turn) (maxL := 4) [(0, rr G 8), (1, .int (nI t)), (2, .int (nI mp))] (by decide +kernel) rfl (Nat.le_of_ble_eq_true rfl) rfl ?_
  intro Γ K ret
  have i_X5 : ∀ w ∈ u_ws RX5 TX5 3, w ∈ wsX5_turn := by decide +kernel
  have htt : t < 10 := hT.1
  have hct0 := (hT.2 0 (by decide)).2
  have hct1 := (hT.2 1 (by decide)).2
  have hct2 := (hT.2 2 (by decide)).2
  refine x_aload_n (pc := 0) K 0 dX5_turn_0 rfl rfl ?_
  refine x_getr (r0 := 9) (pc := 1) (index := 17) (C := RX5) (T := TX5) (N := 3) (j0 := 2) (ref := "OldMap$Triangles") K (by decide) sh_8 rfl i_X5 (by decide) (by decide +kernel) rfl rfl rf_8_2 dX5_turn_1 ?_
  refine x_iload_n (pc := 4) K 1 dX5_turn_4 rfl rfl ?_
  refine y_aald (r0 := (10 + t)) (j := t) (pc := 5) K (by decide) sh_9 rfl (by omega) (by decide) (rf_9 _) dX5_turn_5 ?_
  refine x_astore_n (pc := 6) (lo' := [(3, _), (0, _), (1, _), (2, _)]) K dX5_turn_6 rfl (by decide) rfl ?_
  refine x_aload_n (pc := 7) K 1 dX5_turn_7 rfl rfl ?_
  refine x_getr (r0 := 2) (pc := 8) (index := 20) (C := RX5) (T := TX5) (N := 3) (j0 := 0) (ref := "OldMap$Triangles") K (by decide) sh_8 rfl i_X5 (by decide) (by decide +kernel) rfl rfl rf_8_0 dX5_turn_8 ?_
  refine x_iload_n (pc := 11) K 3 dX5_turn_11 rfl rfl ?_
  refine x_aload_n (pc := 12) K 0 dX5_turn_12 rfl rfl ?_
  refine x_iconst (pc := 13) (v := 0) K dX5_turn_13 (by decide) ?_
  refine y_iald (j := 0) (pc := 14) K (shk_cor (show t < 10 by omega)) (shr_cor _ (show t < 10 by omega)) rfl (by omega) (by decide) dX5_turn_14 ?_
  refine x_topie (nI (cn I t 0)) (hT.2 0 (by omega)).1 ?_
  refine x_aload_n (pc := 15) K 0 dX5_turn_15 rfl rfl ?_
  refine x_iconst (pc := 16) (v := 1) K dX5_turn_16 (by decide) ?_
  refine y_iald (j := 1) (pc := 17) K (shk_cor (show t < 10 by omega)) (shr_cor _ (show t < 10 by omega)) rfl (by omega) (by decide) dX5_turn_17 ?_
  refine x_topie (nI (cn I t 1)) (hT.2 1 (by omega)).1 ?_
  refine x_aload_n (pc := 18) K 0 dX5_turn_18 rfl rfl ?_
  refine x_iconst (pc := 19) (v := 2) K dX5_turn_19 (by decide) ?_
  refine y_iald (j := 2) (pc := 20) K (shk_cor (show t < 10 by omega)) (shr_cor _ (show t < 10 by omega)) rfl (by omega) (by decide) dX5_turn_20 ?_
  refine x_topie (nI (cn I t 2)) (hT.2 2 (by omega)).1 ?_
  refine x_calliN (pc := 21) (st := []) (n := 4) K (by decide) sh_2 rfl (c_X2_turn l G _ _ mp (cn I t 0) (cn I t 1) (cn I t 2) (by omega) (by omega) (by omega) (by omega)) (host := "OldMap") gX5_turn_X2_turn_n24 (by decide +kernel) (by decide +kernel) (by decide +kernel) (by decide +kernel) (by decide +kernel) rfl (by decide) (by decide) rfl rfl (Nat.le_of_ble_eq_true rfl) dX5_turn_21 (fun r_21 I_21 J_21 hp_21 => ?_)
  obtain ⟨rfl, rfl, rfl⟩ := hp_21
  exact ret (pc := 24) dX5_turn_24 (⟨rfl, rfl, rfl⟩) rfl

set_option maxHeartbeats 1000000 in
set_option maxRecDepth 100000 in
theorem c_X5_isFlat (l : Launch) (G : hQ) (I : hI) (J : hJ) (t : Nat) (hT : TOk I t) : h_Mi l yX5_isFlat wsX5_isFlat 3 74 G [rr G 8, .int (nI t)] I J (fun ρ I' J' => bz (fl I t) = ρ ∧ I = I' ∧ J = J') := by
  refine h_Mi.of (ty := .boolean) (cc := cX5_isFlat) (maxL := 2) [(0, rr G 8), (1, .int (nI t))] (by decide +kernel) rfl (Nat.le_of_ble_eq_true rfl) rfl ?_
  intro Γ K ret
  have htt : t < 10 := hT.1
  have hct0 := (hT.2 0 (by decide)).2
  have hct1 := (hT.2 1 (by decide)).2
  have hct2 := (hT.2 2 (by decide)).2
  refine x_aload_n (pc := 0) K 0 dX5_isFlat_0 rfl rfl ?_
  refine x_iload_n (pc := 1) K 1 dX5_isFlat_1 rfl rfl ?_
  refine x_iconst (pc := 2) (v := 0) K dX5_isFlat_2 (by decide) ?_
  refine x_calliV (pc := 3) (st := []) (n := 2) K (by decide) sh_8 rfl (c_X5_turn l G _ _ t 0 hT (by omega)) gX5_isFlat_X5_turn (by decide +kernel) rfl (by decide) (by decide) rfl rfl (Nat.le_of_ble_eq_true rfl) dX5_isFlat_3 (fun r_3 I_3 J_3 hp_3 => ?_)
  obtain ⟨rfl, rfl, rfl⟩ := hp_3
  refine x_if_eq (pc := 6) (tgt := 18) K dX5_isFlat_6 (by decide) (fun c_6 => ?_) (fun c_6 => ?_)
  · refine x_iconst (pc := 18) (v := 1) K dX5_isFlat_18 (by decide) ?_
    refine x_goto (pc := 19) (tgt := 23) K dX5_isFlat_19 (by decide) ?_
    exact ret (pc := 23) dX5_isFlat_23 (⟨by first | exact bz_1.mpr (by grind) | exact bz_0.mpr (by grind), rfl, rfl⟩) rfl
  · refine x_aload_n (pc := 9) K 0 dX5_isFlat_9 rfl rfl ?_
    refine x_iload_n (pc := 10) K 1 dX5_isFlat_10 rfl rfl ?_
    refine x_iconst (pc := 11) (v := 1) K dX5_isFlat_11 (by decide) ?_
    refine x_calliV (pc := 12) (st := []) (n := 2) K (by decide) sh_8 rfl (c_X5_turn l G _ _ t 1 hT (by omega)) gX5_isFlat_X5_turn (by decide +kernel) rfl (by decide) (by decide) rfl rfl (Nat.le_of_ble_eq_true rfl) dX5_isFlat_12 (fun r_12 I_12 J_12 hp_12 => ?_)
    obtain ⟨rfl, rfl, rfl⟩ := hp_12
    refine x_if_ne (pc := 15) (tgt := 22) K dX5_isFlat_15 (by decide) (fun c_15 => ?_) (fun c_15 => ?_)
    · refine x_iconst (pc := 22) (v := 0) K dX5_isFlat_22 (by decide) ?_
      exact ret (pc := 23) dX5_isFlat_23 (⟨by first | exact bz_1.mpr (by grind) | exact bz_0.mpr (by grind), rfl, rfl⟩) rfl
    · refine x_iconst (pc := 18) (v := 1) K dX5_isFlat_18 (by decide) ?_
      refine x_goto (pc := 19) (tgt := 23) K dX5_isFlat_19 (by decide) ?_
      exact ret (pc := 23) dX5_isFlat_23 (⟨by first | exact bz_1.mpr (by grind) | exact bz_0.mpr (by grind), rfl, rfl⟩) rfl

set_option maxHeartbeats 1000000 in
set_option maxRecDepth 100000 in
theorem c_X5_isOver (l : Launch) (G : hQ) (I : hI) (J : hJ) (t : Nat) (hT : TOk I t) : h_Mi l yX5_isOver wsX5_isOver 3 74 G [rr G 8, .int (nI t)] I J (fun ρ I' J' => bz (ov I t) = ρ ∧ I = I' ∧ J = J') := by
  refine h_Mi.of (ty := .boolean) (cc := cX5_isOver) (maxL := 4) [(0, rr G 8), (1, .int (nI t))] (by decide +kernel) rfl (Nat.le_of_ble_eq_true rfl) rfl ?_
  intro Γ K ret
  refine x_aload_n (pc := 0) K 0 dX5_isOver_0 rfl rfl ?_
  refine x_iload_n (pc := 1) K 1 dX5_isOver_1 rfl rfl ?_
  refine x_iconst (pc := 2) (v := 0) K dX5_isOver_2 (by decide) ?_
  refine x_calliV (pc := 3) (st := []) (n := 2) K (by decide) sh_8 rfl (c_X5_turn l G _ _ t 0 hT (by omega)) gX5_isOver_X5_turn (by decide +kernel) rfl (by decide) (by decide) rfl rfl (Nat.le_of_ble_eq_true rfl) dX5_isOver_3 (fun r_3 I_3 J_3 hp_3 => ?_)
  obtain ⟨rfl, rfl, rfl⟩ := hp_3
  refine x_i2l (pc := 6) K dX5_isOver_6 ?_
  refine x_lstore_n (pc := 7) (lo' := [(2, _), (0, _), (1, _)]) K dX5_isOver_7 rfl (by decide) rfl ?_
  refine x_lload_n (pc := 8) K 0 dX5_isOver_8 rfl rfl ?_
  refine x_aload_n (pc := 9) K 1 dX5_isOver_9 rfl rfl ?_
  refine x_iload_n (pc := 10) K 2 dX5_isOver_10 rfl rfl ?_
  refine x_iconst (pc := 11) (v := 1) K dX5_isOver_11 (by decide) ?_
  refine x_calliV (pc := 12) (st := [_]) (n := 2) K (by decide) sh_8 rfl (c_X5_turn l G _ _ t 1 hT (by omega)) gX5_isOver_X5_turn (by decide +kernel) rfl (by decide) (by decide) rfl rfl (Nat.le_of_ble_eq_true rfl) dX5_isOver_12 (fun r_12 I_12 J_12 hp_12 => ?_)
  obtain ⟨rfl, rfl, rfl⟩ := hp_12
  refine x_i2l (pc := 15) K dX5_isOver_15 ?_
  refine x_lmul (pc := 16) K dX5_isOver_16 ?_
  refine x_lconst (pc := 17) (v := 0) K dX5_isOver_17 (by decide) ?_
  refine x_lcmp (pc := 18) K dX5_isOver_18 ?_
  refine x_if_ge (pc := 19) (tgt := 26) K dX5_isOver_19 (by decide) (fun c_19 => ?_) (fun c_19 => ?_)
  · replace c_19 := (lg_cmp_ge _ _).mp c_19
    refine x_iconst (pc := 26) (v := 0) K dX5_isOver_26 (by decide) ?_
    exact ret (pc := 27) dX5_isOver_27 (⟨by first | exact bz_1.mpr (by grind) | exact bz_0.mpr (by grind), rfl, rfl⟩) rfl
  · replace c_19 := mt (lg_cmp_ge _ _).mpr c_19
    refine x_iconst (pc := 22) (v := 1) K dX5_isOver_22 (by decide) ?_
    refine x_goto (pc := 23) (tgt := 27) K dX5_isOver_23 (by decide) ?_
    exact ret (pc := 27) dX5_isOver_27 (⟨by first | exact bz_1.mpr (by grind) | exact bz_0.mpr (by grind), rfl, rfl⟩) rfl

set_option maxHeartbeats 1000000 in
set_option maxRecDepth 100000 in
theorem c_X5_inward (l : Launch) (G : hQ) (I : hI) (J : hJ) (t mp : Nat) (way : Int64) (f : Nat) (x y : Int32) (hT : TOk I t) (hm : mp < 2) (hf : f < 3) : h_Ml l yX5_inward wsX5_inward 1 27 G [rr G 8, .int (nI t), .int (nI mp), .long way, .int (nI f), .int x, .int y] I J (fun ρ I' J' => inw I t mp way f x y = ρ ∧ I = I' ∧ J = J') := by
  refine h_Ml.of (cc := cX5_inward) (maxL := 9) [(0, rr G 8), (1, .int (nI t)), (2, .int (nI mp)), (3, .long way), (5, .int (nI f)), (6, .int x), (7, .int y)] (by decide +kernel) rfl (Nat.le_of_ble_eq_true rfl) rfl ?_
  intro Γ K ret
  have i_X5 : ∀ w ∈ u_ws RX5 TX5 3, w ∈ wsX5_inward := by decide +kernel
  have htt : t < 10 := hT.1
  have hct0 := (hT.2 0 (by decide)).2
  have hct1 := (hT.2 1 (by decide)).2
  have hct2 := (hT.2 2 (by decide)).2
  have hcf := (hT.2 f hf).2
  have hcg := (hT.2 ((f + 1) % 3) (by omega)).2
  refine x_aload_n (pc := 0) K 0 dX5_inward_0 rfl rfl ?_
  refine x_getr (r0 := 9) (pc := 1) (index := 17) (C := RX5) (T := TX5) (N := 3) (j0 := 2) (ref := "OldMap$Triangles") K (by decide) sh_8 rfl i_X5 (by decide) (by decide +kernel) rfl rfl rf_8_2 dX5_inward_1 ?_
  refine x_iload_n (pc := 4) K 1 dX5_inward_4 rfl rfl ?_
  refine y_aald (r0 := (10 + t)) (j := t) (pc := 5) K (by decide) sh_9 rfl (by omega) (by decide) (rf_9 _) dX5_inward_5 ?_
  refine x_astore (pc := 6) (lo' := [(8, _), (0, _), (1, _), (2, _), (3, _), (5, _), (6, _), (7, _)]) K dX5_inward_6 (by decide) rfl ?_
  refine x_lload_n (pc := 8) K 4 dX5_inward_8 rfl rfl ?_
  refine x_aload_n (pc := 9) K 1 dX5_inward_9 rfl rfl ?_
  refine x_getr (r0 := 2) (pc := 10) (index := 20) (C := RX5) (T := TX5) (N := 3) (j0 := 0) (ref := "OldMap$Triangles") K (by decide) sh_8 rfl i_X5 (by decide) (by decide +kernel) rfl rfl rf_8_0 dX5_inward_10 ?_
  refine x_iload_n (pc := 13) K 3 dX5_inward_13 rfl rfl ?_
  refine x_aload (pc := 14) K 0 dX5_inward_14 rfl ?_
  refine x_iload (pc := 16) K 5 dX5_inward_16 rfl ?_
  refine y_iald (j := f) (pc := 18) K (shk_cor (show t < 10 by omega)) (shr_cor _ (show t < 10 by omega)) rfl (by omega) (by decide) dX5_inward_18 ?_
  refine x_topie (nI (cn I t f)) (hT.2 f (by omega)).1 ?_
  refine x_aload (pc := 19) K 0 dX5_inward_19 rfl ?_
  refine x_iload (pc := 21) K 5 dX5_inward_21 rfl ?_
  refine x_iconst (pc := 23) (v := 1) K dX5_inward_23 (by decide) ?_
  refine x_iadd (pc := 24) K dX5_inward_24 ?_
  refine x_iconst (pc := 25) (v := 3) K dX5_inward_25 (by decide) ?_
  refine x_irem (pc := 26) K dX5_inward_26 (by decide) ?_
  refine x_topie (nI ((f + 1) % 3)) (nI_remE (nI_addE rfl rfl) rfl (by omega) (by omega)) ?_
  refine y_iald (j := ((f + 1) % 3)) (pc := 27) K (shk_cor (show t < 10 by omega)) (shr_cor _ (show t < 10 by omega)) rfl (by omega) (by decide) dX5_inward_27 ?_
  refine x_topie (nI (cn I t ((f + 1) % 3))) (hT.2 ((f + 1) % 3) (by omega)).1 ?_
  refine x_iload (pc := 28) K 6 dX5_inward_28 rfl ?_
  refine x_iload (pc := 30) K 7 dX5_inward_30 rfl ?_
  refine x_calliN (pc := 32) (st := [_]) (n := 5) K (by decide) sh_2 rfl (c_X2_side l G _ _ mp (cn I t f) (cn I t ((f + 1) % 3)) _ _ (by omega) (by omega) (by omega)) (host := "OldMap") gX5_inward_X2_side_n33 (by decide +kernel) (by decide +kernel) (by decide +kernel) (by decide +kernel) (by decide +kernel) rfl (by decide) (by decide) rfl rfl (Nat.le_of_ble_eq_true rfl) dX5_inward_32 (fun r_32 I_32 J_32 hp_32 => ?_)
  obtain ⟨rfl, rfl, rfl⟩ := hp_32
  refine x_i2l (pc := 35) K dX5_inward_35 ?_
  refine x_lmul (pc := 36) K dX5_inward_36 ?_
  exact ret (pc := 37) dX5_inward_37 (⟨rfl, rfl, rfl⟩)

set_option maxHeartbeats 1000000 in
set_option maxRecDepth 100000 in
theorem c_X5_holds (l : Launch) (G : hQ) (I : hI) (J : hJ) (t mp : Nat) (x y : Int32) (hT : TOk I t) (hm : mp < 2) : h_Mi l yX5_holds wsX5_holds 3 74 G [rr G 8, .int (nI t), .int (nI mp), .int x, .int y] I J (fun ρ I' J' => bz (hol I t mp x y) = ρ ∧ I = I' ∧ J = J') := by
  refine h_Mi.of (ty := .boolean) (cc := cX5_holds) (maxL := 8) [(0, rr G 8), (1, .int (nI t)), (2, .int (nI mp)), (3, .int x), (4, .int y)] (by decide +kernel) rfl (Nat.le_of_ble_eq_true rfl) rfl ?_
  intro Γ K ret
  refine x_aload_n (pc := 0) K 0 dX5_holds_0 rfl rfl ?_
  refine x_iload_n (pc := 1) K 1 dX5_holds_1 rfl rfl ?_
  refine x_iload_n (pc := 2) K 2 dX5_holds_2 rfl rfl ?_
  refine x_calliV (pc := 3) (st := []) (n := 2) K (by decide) sh_8 rfl (c_X5_turn l G _ _ t mp hT (by omega)) gX5_holds_X5_turn (by decide +kernel) rfl (by decide) (by decide) rfl rfl (Nat.le_of_ble_eq_true rfl) dX5_holds_3 (fun r_3 I_3 J_3 hp_3 => ?_)
  obtain ⟨rfl, rfl, rfl⟩ := hp_3
  refine x_i2l (pc := 6) K dX5_holds_6 ?_
  refine x_lstore (pc := 7) (lo' := [(5, _), (0, _), (1, _), (2, _), (3, _), (4, _)]) K dX5_holds_7 (by decide) rfl ?_
  refine x_iconst (pc := 9) (v := 0) K dX5_holds_9 (by decide) ?_
  refine x_istore (pc := 10) (lo' := [(7, _), (5, _), (0, _), (1, _), (2, _), (3, _), (4, _)]) K dX5_holds_10 (by decide) rfl ?_
  refine x_iload (pc := 12) K 0 dX5_holds_12 rfl ?_
  refine x_iconst (pc := 14) (v := 3) K dX5_holds_14 (by decide) ?_
  refine x_icmp_ge (pc := 15) (tgt := 44) K dX5_holds_15 (by decide) (fun c_15 => ?_) (fun c_15 => ?_)
  · replace c_15 := cI_le (a := 3) (b := 0) rfl rfl (by omega) (by omega) c_15
    omega
  · replace c_15 := cI_nle (a := 3) (b := 0) rfl rfl (by omega) (by omega) c_15
    refine x_aload_n (pc := 18) K 2 dX5_holds_18 rfl rfl ?_
    refine x_iload_n (pc := 19) K 3 dX5_holds_19 rfl rfl ?_
    refine x_iload_n (pc := 20) K 4 dX5_holds_20 rfl rfl ?_
    refine x_lload (pc := 21) K 1 dX5_holds_21 rfl ?_
    refine x_iload (pc := 23) K 0 dX5_holds_23 rfl ?_
    refine x_iload_n (pc := 25) K 5 dX5_holds_25 rfl rfl ?_
    refine x_iload (pc := 26) K 6 dX5_holds_26 rfl ?_
    refine x_calllV (pc := 28) (st := []) (n := 6) K (by decide) sh_8 rfl (c_X5_inward l G _ _ t mp _ 0 _ _ hT (by omega) (by omega)) gX5_holds_X5_inward (by decide +kernel) rfl (by decide) (by decide) rfl rfl (Nat.le_of_ble_eq_true rfl) dX5_holds_28 (fun r_28 I_28 J_28 hp_28 => ?_)
    obtain ⟨rfl, rfl, rfl⟩ := hp_28
    refine x_lconst (pc := 31) (v := 0) K dX5_holds_31 (by decide) ?_
    refine x_lcmp (pc := 32) K dX5_holds_32 ?_
    refine x_if_ge (pc := 33) (tgt := 38) K dX5_holds_33 (by decide) (fun c_33 => ?_) (fun c_33 => ?_)
    · replace c_33 := (lg_cmp_ge _ _).mp c_33
      refine x_iinc (pc := 38) (q0 := 0) (v := nI (0 + 1)) (lo' := [(7, _), (5, _), (0, _), (1, _), (2, _), (3, _), (4, _)]) K dX5_holds_38 rfl (nI_incE rfl) (by decide) rfl ?_
      refine x_goto (pc := 41) (tgt := 12) K dX5_holds_41 (by decide) ?_
      refine x_iload (pc := 12) K 0 dX5_holds_12 rfl ?_
      refine x_iconst (pc := 14) (v := 3) K dX5_holds_14 (by decide) ?_
      refine x_icmp_ge (pc := 15) (tgt := 44) K dX5_holds_15 (by decide) (fun c_15_1 => ?_) (fun c_15_1 => ?_)
      · replace c_15_1 := cI_le (a := 3) (b := (0 + 1)) rfl rfl (by omega) (by omega) c_15_1
        omega
      · replace c_15_1 := cI_nle (a := 3) (b := (0 + 1)) rfl rfl (by omega) (by omega) c_15_1
        refine x_aload_n (pc := 18) K 2 dX5_holds_18 rfl rfl ?_
        refine x_iload_n (pc := 19) K 3 dX5_holds_19 rfl rfl ?_
        refine x_iload_n (pc := 20) K 4 dX5_holds_20 rfl rfl ?_
        refine x_lload (pc := 21) K 1 dX5_holds_21 rfl ?_
        refine x_iload (pc := 23) K 0 dX5_holds_23 rfl ?_
        refine x_iload_n (pc := 25) K 5 dX5_holds_25 rfl rfl ?_
        refine x_iload (pc := 26) K 6 dX5_holds_26 rfl ?_
        refine x_calllV (pc := 28) (st := []) (n := 6) K (by decide) sh_8 rfl (c_X5_inward l G _ _ t mp _ (0 + 1) _ _ hT (by omega) (by omega)) gX5_holds_X5_inward (by decide +kernel) rfl (by decide) (by decide) rfl rfl (Nat.le_of_ble_eq_true rfl) dX5_holds_28 (fun r_28 I_28 J_28 hp_28 => ?_)
        obtain ⟨rfl, rfl, rfl⟩ := hp_28
        refine x_lconst (pc := 31) (v := 0) K dX5_holds_31 (by decide) ?_
        refine x_lcmp (pc := 32) K dX5_holds_32 ?_
        refine x_if_ge (pc := 33) (tgt := 38) K dX5_holds_33 (by decide) (fun c_33_1 => ?_) (fun c_33_1 => ?_)
        · replace c_33_1 := (lg_cmp_ge _ _).mp c_33_1
          refine x_iinc (pc := 38) (q0 := 0) (v := nI ((0 + 1) + 1)) (lo' := [(7, _), (5, _), (0, _), (1, _), (2, _), (3, _), (4, _)]) K dX5_holds_38 rfl (nI_incE rfl) (by decide) rfl ?_
          refine x_goto (pc := 41) (tgt := 12) K dX5_holds_41 (by decide) ?_
          refine x_iload (pc := 12) K 0 dX5_holds_12 rfl ?_
          refine x_iconst (pc := 14) (v := 3) K dX5_holds_14 (by decide) ?_
          refine x_icmp_ge (pc := 15) (tgt := 44) K dX5_holds_15 (by decide) (fun c_15_2 => ?_) (fun c_15_2 => ?_)
          · replace c_15_2 := cI_le (a := 3) (b := ((0 + 1) + 1)) rfl rfl (by omega) (by omega) c_15_2
            omega
          · replace c_15_2 := cI_nle (a := 3) (b := ((0 + 1) + 1)) rfl rfl (by omega) (by omega) c_15_2
            refine x_aload_n (pc := 18) K 2 dX5_holds_18 rfl rfl ?_
            refine x_iload_n (pc := 19) K 3 dX5_holds_19 rfl rfl ?_
            refine x_iload_n (pc := 20) K 4 dX5_holds_20 rfl rfl ?_
            refine x_lload (pc := 21) K 1 dX5_holds_21 rfl ?_
            refine x_iload (pc := 23) K 0 dX5_holds_23 rfl ?_
            refine x_iload_n (pc := 25) K 5 dX5_holds_25 rfl rfl ?_
            refine x_iload (pc := 26) K 6 dX5_holds_26 rfl ?_
            refine x_calllV (pc := 28) (st := []) (n := 6) K (by decide) sh_8 rfl (c_X5_inward l G _ _ t mp _ ((0 + 1) + 1) _ _ hT (by omega) (by omega)) gX5_holds_X5_inward (by decide +kernel) rfl (by decide) (by decide) rfl rfl (Nat.le_of_ble_eq_true rfl) dX5_holds_28 (fun r_28 I_28 J_28 hp_28 => ?_)
            obtain ⟨rfl, rfl, rfl⟩ := hp_28
            refine x_lconst (pc := 31) (v := 0) K dX5_holds_31 (by decide) ?_
            refine x_lcmp (pc := 32) K dX5_holds_32 ?_
            refine x_if_ge (pc := 33) (tgt := 38) K dX5_holds_33 (by decide) (fun c_33_2 => ?_) (fun c_33_2 => ?_)
            · replace c_33_2 := (lg_cmp_ge _ _).mp c_33_2
              refine x_iinc (pc := 38) (q0 := 0) (v := nI (((0 + 1) + 1) + 1)) (lo' := [(7, _), (5, _), (0, _), (1, _), (2, _), (3, _), (4, _)]) K dX5_holds_38 rfl (nI_incE rfl) (by decide) rfl ?_
              refine x_goto (pc := 41) (tgt := 12) K dX5_holds_41 (by decide) ?_
              refine x_iload (pc := 12) K 0 dX5_holds_12 rfl ?_
              refine x_iconst (pc := 14) (v := 3) K dX5_holds_14 (by decide) ?_
              refine x_icmp_ge (pc := 15) (tgt := 44) K dX5_holds_15 (by decide) (fun c_15_3 => ?_) (fun c_15_3 => ?_)
              · replace c_15_3 := cI_le (a := 3) (b := (((0 + 1) + 1) + 1)) rfl rfl (by omega) (by omega) c_15_3
                refine x_iconst (pc := 44) (v := 1) K dX5_holds_44 (by decide) ?_
                exact ret (pc := 45) dX5_holds_45 (⟨by first | exact bz_1.mpr (by grind) | exact bz_0.mpr (by grind), rfl, rfl⟩) rfl
              · replace c_15_3 := cI_nle (a := 3) (b := (((0 + 1) + 1) + 1)) rfl rfl (by omega) (by omega) c_15_3
                omega
            · replace c_33_2 := mt (lg_cmp_ge _ _).mpr c_33_2
              refine x_iconst (pc := 36) (v := 0) K dX5_holds_36 (by decide) ?_
              exact ret (pc := 37) dX5_holds_37 (⟨by first | exact bz_1.mpr (by grind) | exact bz_0.mpr (by grind), rfl, rfl⟩) rfl
        · replace c_33_1 := mt (lg_cmp_ge _ _).mpr c_33_1
          refine x_iconst (pc := 36) (v := 0) K dX5_holds_36 (by decide) ?_
          exact ret (pc := 37) dX5_holds_37 (⟨by first | exact bz_1.mpr (by grind) | exact bz_0.mpr (by grind), rfl, rfl⟩) rfl
    · replace c_33 := mt (lg_cmp_ge _ _).mpr c_33
      refine x_iconst (pc := 36) (v := 0) K dX5_holds_36 (by decide) ?_
      exact ret (pc := 37) dX5_holds_37 (⟨by first | exact bz_1.mpr (by grind) | exact bz_0.mpr (by grind), rfl, rfl⟩) rfl

set_option maxHeartbeats 1000000 in
set_option maxRecDepth 100000 in
theorem c_X5_isOutside (l : Launch) (G : hQ) (I : hI) (J : hJ) (t u mp : Nat) (way : Int64) (f : Nat) (hT : TOk I t) (hU : TOk I u) (hm : mp < 2) (hf : f < 3) : h_Mi l yX5_isOutside wsX5_isOutside 2 55 G [rr G 8, .int (nI t), .int (nI mp), .long way, .int (nI f), rr G (10 + u)] I J (fun ρ I' J' => bz (outs I t u mp way f) = ρ ∧ I = I' ∧ J = J') := by
  refine h_Mi.of (ty := .boolean) (cc := cX5_isOutside) (maxL := 13) [(0, rr G 8), (1, .int (nI t)), (2, .int (nI mp)), (3, .long way), (5, .int (nI f)), (6, rr G (10 + u))] (by decide +kernel) rfl (Nat.le_of_ble_eq_true rfl) rfl ?_
  intro Γ K ret
  have i_X5 : ∀ w ∈ u_ws RX5 TX5 3, w ∈ wsX5_isOutside := by decide +kernel
  have i_X2 : ∀ w ∈ u_ws RX2 TX2 4, w ∈ wsX5_isOutside := by decide +kernel
  have htu : u < 10 := hU.1
  have hcu0 := (hU.2 0 (by decide)).2
  have hcu1 := (hU.2 1 (by decide)).2
  have hcu2 := (hU.2 2 (by decide)).2
  refine x_aload_n (pc := 0) K 0 dX5_isOutside_0 rfl rfl ?_
  refine x_getr (r0 := 2) (pc := 1) (index := 20) (C := RX5) (T := TX5) (N := 3) (j0 := 0) (ref := "OldMap$Triangles") K (by decide) sh_8 rfl i_X5 (by decide) (by decide +kernel) rfl rfl rf_8_0 dX5_isOutside_1 ?_
  refine x_getrN (r0 := 3) (pc := 4) (index := 49) (C := RX2) (T := TX2) (N := 4) (j0 := 1) (host := "OldMap") (ref := "OldMap$Points") K (by decide) sh_2 rfl i_X2 (by decide) (by decide +kernel) rfl rfl rf_2_1 dX5_isOutside_4 ?_
  refine x_iconst (pc := 7) (v := 2) K dX5_isOutside_7 (by decide) ?_
  refine x_iload_n (pc := 8) K 2 dX5_isOutside_8 rfl rfl ?_
  refine x_imul (pc := 9) K dX5_isOutside_9 ?_
  refine y_aald (r0 := (4 + (2 * mp))) (j := (2 * mp)) (pc := 10) K (by decide) sh_3 (nI_mulE rfl rfl) (by omega) (by decide) (rf_3 _) dX5_isOutside_10 ?_
  refine x_astore (pc := 11) (lo' := [(7, _), (0, _), (1, _), (2, _), (3, _), (5, _), (6, _)]) K dX5_isOutside_11 (by decide) rfl ?_
  refine x_aload_n (pc := 13) K 1 dX5_isOutside_13 rfl rfl ?_
  refine x_getr (r0 := 2) (pc := 14) (index := 20) (C := RX5) (T := TX5) (N := 3) (j0 := 0) (ref := "OldMap$Triangles") K (by decide) sh_8 rfl i_X5 (by decide) (by decide +kernel) rfl rfl rf_8_0 dX5_isOutside_14 ?_
  refine x_getrN (r0 := 3) (pc := 17) (index := 49) (C := RX2) (T := TX2) (N := 4) (j0 := 1) (host := "OldMap") (ref := "OldMap$Points") K (by decide) sh_2 rfl i_X2 (by decide) (by decide +kernel) rfl rfl rf_2_1 dX5_isOutside_17 ?_
  refine x_iconst (pc := 20) (v := 2) K dX5_isOutside_20 (by decide) ?_
  refine x_iload_n (pc := 21) K 3 dX5_isOutside_21 rfl rfl ?_
  refine x_imul (pc := 22) K dX5_isOutside_22 ?_
  refine x_iconst (pc := 23) (v := 1) K dX5_isOutside_23 (by decide) ?_
  refine x_iadd (pc := 24) K dX5_isOutside_24 ?_
  refine y_aald (r0 := (4 + ((2 * mp) + 1))) (j := ((2 * mp) + 1)) (pc := 25) K (by decide) sh_3 (nI_addE (nI_mulE rfl rfl) rfl) (by omega) (by decide) (rf_3 _) dX5_isOutside_25 ?_
  refine x_astore (pc := 26) (lo' := [(8, _), (7, _), (0, _), (1, _), (2, _), (3, _), (5, _), (6, _)]) K dX5_isOutside_26 (by decide) rfl ?_
  refine x_aload (pc := 28) K 7 dX5_isOutside_28 rfl ?_
  refine x_astore (pc := 30) (lo' := [(9, _), (8, _), (7, _), (0, _), (1, _), (2, _), (3, _), (5, _), (6, _)]) K dX5_isOutside_30 (by decide) rfl ?_
  refine x_aload (pc := 32) K 0 dX5_isOutside_32 rfl ?_
  refine x_alen (v := 3) (pc := 34) K (shk_cor hU.1) (shr_cor _ hU.1) rfl (by decide) rfl dX5_isOutside_34 ?_
  refine x_istore (pc := 35) (lo' := [(10, _), (9, _), (8, _), (7, _), (0, _), (1, _), (2, _), (3, _), (5, _), (6, _)]) K dX5_isOutside_35 (by decide) rfl ?_
  refine x_iconst (pc := 37) (v := 0) K dX5_isOutside_37 (by decide) ?_
  refine x_istore (pc := 38) (lo' := [(11, _), (10, _), (9, _), (8, _), (7, _), (0, _), (1, _), (2, _), (3, _), (5, _), (6, _)]) K dX5_isOutside_38 (by decide) rfl ?_
  refine x_iload (pc := 40) K 0 dX5_isOutside_40 rfl ?_
  refine x_iload (pc := 42) K 1 dX5_isOutside_42 rfl ?_
  refine x_icmp_ge (pc := 44) (tgt := 86) K dX5_isOutside_44 (by decide) (fun c_44 => ?_) (fun c_44 => ?_)
  · replace c_44 := cI_le (a := 3) (b := 0) rfl rfl (by omega) (by omega) c_44
    omega
  · replace c_44 := cI_nle (a := 3) (b := 0) rfl rfl (by omega) (by omega) c_44
    refine x_aload (pc := 47) K 2 dX5_isOutside_47 rfl ?_
    refine x_iload (pc := 49) K 0 dX5_isOutside_49 rfl ?_
    refine y_iald (j := 0) (pc := 51) K (shk_cor hU.1) (shr_cor _ hU.1) rfl (by omega) (by decide) dX5_isOutside_51 ?_
    refine x_topie (nI (cn I u 0)) (hU.2 0 (by omega)).1 ?_
    refine x_istore (pc := 52) (lo' := [(12, _), (11, _), (10, _), (9, _), (8, _), (7, _), (0, _), (1, _), (2, _), (3, _), (5, _), (6, _)]) K dX5_isOutside_52 (by decide) rfl ?_
    refine x_aload_n (pc := 54) K 6 dX5_isOutside_54 rfl rfl ?_
    refine x_iload_n (pc := 55) K 7 dX5_isOutside_55 rfl rfl ?_
    refine x_iload_n (pc := 56) K 8 dX5_isOutside_56 rfl rfl ?_
    refine x_lload_n (pc := 57) K 9 dX5_isOutside_57 rfl rfl ?_
    refine x_iload (pc := 58) K 10 dX5_isOutside_58 rfl ?_
    refine x_aload (pc := 60) K 5 dX5_isOutside_60 rfl ?_
    refine x_iload (pc := 62) K 0 dX5_isOutside_62 rfl ?_
    refine y_iald (j := (cn I u 0)) (pc := 64) K (shk_at (show (2 * mp) < 4 by omega)) (shr_at _ (show (2 * mp) < 4 by omega)) rfl (by omega) (by decide) dX5_isOutside_64 ?_
    refine x_aload (pc := 65) K 4 dX5_isOutside_65 rfl ?_
    refine x_iload (pc := 67) K 0 dX5_isOutside_67 rfl ?_
    refine y_iald (j := (cn I u 0)) (pc := 69) K (shk_at (show ((2 * mp) + 1) < 4 by omega)) (shr_at _ (show ((2 * mp) + 1) < 4 by omega)) rfl (by omega) (by decide) dX5_isOutside_69 ?_
    refine x_calllV (pc := 70) (st := []) (n := 6) K (by decide) sh_8 rfl (c_X5_inward l G _ _ t mp _ f _ _ hT (by omega) (by omega)) gX5_isOutside_X5_inward (by decide +kernel) rfl (by decide) (by decide) rfl rfl (Nat.le_of_ble_eq_true rfl) dX5_isOutside_70 (fun r_70 I_70 J_70 hp_70 => ?_)
    obtain ⟨rfl, rfl, rfl⟩ := hp_70
    refine x_lconst (pc := 73) (v := 0) K dX5_isOutside_73 (by decide) ?_
    refine x_lcmp (pc := 74) K dX5_isOutside_74 ?_
    refine x_if_le (pc := 75) (tgt := 80) K dX5_isOutside_75 (by decide) (fun c_75 => ?_) (fun c_75 => ?_)
    · replace c_75 := (lg_cmp_le _ _).mp c_75
      refine x_iinc (pc := 80) (q0 := 1) (v := nI (0 + 1)) (lo' := [(11, _), (12, _), (10, _), (9, _), (8, _), (7, _), (0, _), (1, _), (2, _), (3, _), (5, _), (6, _)]) K dX5_isOutside_80 rfl (nI_incE rfl) (by decide) rfl ?_
      refine x_goto (pc := 83) (tgt := 40) K dX5_isOutside_83 (by decide) ?_
      refine x_iload (pc := 40) K 0 dX5_isOutside_40 rfl ?_
      refine x_iload (pc := 42) K 2 dX5_isOutside_42 rfl ?_
      refine x_icmp_ge (pc := 44) (tgt := 86) K dX5_isOutside_44 (by decide) (fun c_44_1 => ?_) (fun c_44_1 => ?_)
      · replace c_44_1 := cI_le (a := 3) (b := (0 + 1)) rfl rfl (by omega) (by omega) c_44_1
        omega
      · replace c_44_1 := cI_nle (a := 3) (b := (0 + 1)) rfl rfl (by omega) (by omega) c_44_1
        refine x_aload (pc := 47) K 3 dX5_isOutside_47 rfl ?_
        refine x_iload (pc := 49) K 0 dX5_isOutside_49 rfl ?_
        refine y_iald (j := (0 + 1)) (pc := 51) K (shk_cor hU.1) (shr_cor _ hU.1) rfl (by omega) (by decide) dX5_isOutside_51 ?_
        refine x_topie (nI (cn I u (0 + 1))) (hU.2 (0 + 1) (by omega)).1 ?_
        refine x_istore (pc := 52) (lo' := [(12, _), (11, _), (10, _), (9, _), (8, _), (7, _), (0, _), (1, _), (2, _), (3, _), (5, _), (6, _)]) K dX5_isOutside_52 (by decide) rfl ?_
        refine x_aload_n (pc := 54) K 6 dX5_isOutside_54 rfl rfl ?_
        refine x_iload_n (pc := 55) K 7 dX5_isOutside_55 rfl rfl ?_
        refine x_iload_n (pc := 56) K 8 dX5_isOutside_56 rfl rfl ?_
        refine x_lload_n (pc := 57) K 9 dX5_isOutside_57 rfl rfl ?_
        refine x_iload (pc := 58) K 10 dX5_isOutside_58 rfl ?_
        refine x_aload (pc := 60) K 5 dX5_isOutside_60 rfl ?_
        refine x_iload (pc := 62) K 0 dX5_isOutside_62 rfl ?_
        refine y_iald (j := (cn I u (0 + 1))) (pc := 64) K (shk_at (show (2 * mp) < 4 by omega)) (shr_at _ (show (2 * mp) < 4 by omega)) rfl (by omega) (by decide) dX5_isOutside_64 ?_
        refine x_aload (pc := 65) K 4 dX5_isOutside_65 rfl ?_
        refine x_iload (pc := 67) K 0 dX5_isOutside_67 rfl ?_
        refine y_iald (j := (cn I u (0 + 1))) (pc := 69) K (shk_at (show ((2 * mp) + 1) < 4 by omega)) (shr_at _ (show ((2 * mp) + 1) < 4 by omega)) rfl (by omega) (by decide) dX5_isOutside_69 ?_
        refine x_calllV (pc := 70) (st := []) (n := 6) K (by decide) sh_8 rfl (c_X5_inward l G _ _ t mp _ f _ _ hT (by omega) (by omega)) gX5_isOutside_X5_inward (by decide +kernel) rfl (by decide) (by decide) rfl rfl (Nat.le_of_ble_eq_true rfl) dX5_isOutside_70 (fun r_70 I_70 J_70 hp_70 => ?_)
        obtain ⟨rfl, rfl, rfl⟩ := hp_70
        refine x_lconst (pc := 73) (v := 0) K dX5_isOutside_73 (by decide) ?_
        refine x_lcmp (pc := 74) K dX5_isOutside_74 ?_
        refine x_if_le (pc := 75) (tgt := 80) K dX5_isOutside_75 (by decide) (fun c_75_1 => ?_) (fun c_75_1 => ?_)
        · replace c_75_1 := (lg_cmp_le _ _).mp c_75_1
          refine x_iinc (pc := 80) (q0 := 1) (v := nI ((0 + 1) + 1)) (lo' := [(11, _), (12, _), (10, _), (9, _), (8, _), (7, _), (0, _), (1, _), (2, _), (3, _), (5, _), (6, _)]) K dX5_isOutside_80 rfl (nI_incE rfl) (by decide) rfl ?_
          refine x_goto (pc := 83) (tgt := 40) K dX5_isOutside_83 (by decide) ?_
          refine x_iload (pc := 40) K 0 dX5_isOutside_40 rfl ?_
          refine x_iload (pc := 42) K 2 dX5_isOutside_42 rfl ?_
          refine x_icmp_ge (pc := 44) (tgt := 86) K dX5_isOutside_44 (by decide) (fun c_44_2 => ?_) (fun c_44_2 => ?_)
          · replace c_44_2 := cI_le (a := 3) (b := ((0 + 1) + 1)) rfl rfl (by omega) (by omega) c_44_2
            omega
          · replace c_44_2 := cI_nle (a := 3) (b := ((0 + 1) + 1)) rfl rfl (by omega) (by omega) c_44_2
            refine x_aload (pc := 47) K 3 dX5_isOutside_47 rfl ?_
            refine x_iload (pc := 49) K 0 dX5_isOutside_49 rfl ?_
            refine y_iald (j := ((0 + 1) + 1)) (pc := 51) K (shk_cor hU.1) (shr_cor _ hU.1) rfl (by omega) (by decide) dX5_isOutside_51 ?_
            refine x_topie (nI (cn I u ((0 + 1) + 1))) (hU.2 ((0 + 1) + 1) (by omega)).1 ?_
            refine x_istore (pc := 52) (lo' := [(12, _), (11, _), (10, _), (9, _), (8, _), (7, _), (0, _), (1, _), (2, _), (3, _), (5, _), (6, _)]) K dX5_isOutside_52 (by decide) rfl ?_
            refine x_aload_n (pc := 54) K 6 dX5_isOutside_54 rfl rfl ?_
            refine x_iload_n (pc := 55) K 7 dX5_isOutside_55 rfl rfl ?_
            refine x_iload_n (pc := 56) K 8 dX5_isOutside_56 rfl rfl ?_
            refine x_lload_n (pc := 57) K 9 dX5_isOutside_57 rfl rfl ?_
            refine x_iload (pc := 58) K 10 dX5_isOutside_58 rfl ?_
            refine x_aload (pc := 60) K 5 dX5_isOutside_60 rfl ?_
            refine x_iload (pc := 62) K 0 dX5_isOutside_62 rfl ?_
            refine y_iald (j := (cn I u ((0 + 1) + 1))) (pc := 64) K (shk_at (show (2 * mp) < 4 by omega)) (shr_at _ (show (2 * mp) < 4 by omega)) rfl (by omega) (by decide) dX5_isOutside_64 ?_
            refine x_aload (pc := 65) K 4 dX5_isOutside_65 rfl ?_
            refine x_iload (pc := 67) K 0 dX5_isOutside_67 rfl ?_
            refine y_iald (j := (cn I u ((0 + 1) + 1))) (pc := 69) K (shk_at (show ((2 * mp) + 1) < 4 by omega)) (shr_at _ (show ((2 * mp) + 1) < 4 by omega)) rfl (by omega) (by decide) dX5_isOutside_69 ?_
            refine x_calllV (pc := 70) (st := []) (n := 6) K (by decide) sh_8 rfl (c_X5_inward l G _ _ t mp _ f _ _ hT (by omega) (by omega)) gX5_isOutside_X5_inward (by decide +kernel) rfl (by decide) (by decide) rfl rfl (Nat.le_of_ble_eq_true rfl) dX5_isOutside_70 (fun r_70 I_70 J_70 hp_70 => ?_)
            obtain ⟨rfl, rfl, rfl⟩ := hp_70
            refine x_lconst (pc := 73) (v := 0) K dX5_isOutside_73 (by decide) ?_
            refine x_lcmp (pc := 74) K dX5_isOutside_74 ?_
            refine x_if_le (pc := 75) (tgt := 80) K dX5_isOutside_75 (by decide) (fun c_75_2 => ?_) (fun c_75_2 => ?_)
            · replace c_75_2 := (lg_cmp_le _ _).mp c_75_2
              refine x_iinc (pc := 80) (q0 := 1) (v := nI (((0 + 1) + 1) + 1)) (lo' := [(11, _), (12, _), (10, _), (9, _), (8, _), (7, _), (0, _), (1, _), (2, _), (3, _), (5, _), (6, _)]) K dX5_isOutside_80 rfl (nI_incE rfl) (by decide) rfl ?_
              refine x_goto (pc := 83) (tgt := 40) K dX5_isOutside_83 (by decide) ?_
              refine x_iload (pc := 40) K 0 dX5_isOutside_40 rfl ?_
              refine x_iload (pc := 42) K 2 dX5_isOutside_42 rfl ?_
              refine x_icmp_ge (pc := 44) (tgt := 86) K dX5_isOutside_44 (by decide) (fun c_44_3 => ?_) (fun c_44_3 => ?_)
              · replace c_44_3 := cI_le (a := 3) (b := (((0 + 1) + 1) + 1)) rfl rfl (by omega) (by omega) c_44_3
                refine x_iconst (pc := 86) (v := 1) K dX5_isOutside_86 (by decide) ?_
                exact ret (pc := 87) dX5_isOutside_87 (⟨by first | exact bz_1.mpr (by grind) | exact bz_0.mpr (by grind), rfl, rfl⟩) rfl
              · replace c_44_3 := cI_nle (a := 3) (b := (((0 + 1) + 1) + 1)) rfl rfl (by omega) (by omega) c_44_3
                omega
            · replace c_75_2 := mt (lg_cmp_le _ _).mpr c_75_2
              refine x_iconst (pc := 78) (v := 0) K dX5_isOutside_78 (by decide) ?_
              exact ret (pc := 79) dX5_isOutside_79 (⟨by first | exact bz_1.mpr (by grind) | exact bz_0.mpr (by grind), rfl, rfl⟩) rfl
        · replace c_75_1 := mt (lg_cmp_le _ _).mpr c_75_1
          refine x_iconst (pc := 78) (v := 0) K dX5_isOutside_78 (by decide) ?_
          exact ret (pc := 79) dX5_isOutside_79 (⟨by first | exact bz_1.mpr (by grind) | exact bz_0.mpr (by grind), rfl, rfl⟩) rfl
    · replace c_75 := mt (lg_cmp_le _ _).mpr c_75
      refine x_iconst (pc := 78) (v := 0) K dX5_isOutside_78 (by decide) ?_
      exact ret (pc := 79) dX5_isOutside_79 (⟨by first | exact bz_1.mpr (by grind) | exact bz_0.mpr (by grind), rfl, rfl⟩) rfl

set_option maxHeartbeats 1000000 in
set_option maxRecDepth 100000 in
theorem c_X5_isParted (l : Launch) (G : hQ) (I : hI) (J : hJ) (t u mp : Nat) (hT : TOk I t) (hU : TOk I u) (hm : mp < 2) : h_Mi l yX5_isParted wsX5_isParted 3 87 G [rr G 8, .int (nI t), .int (nI u), .int (nI mp)] I J (fun ρ I' J' => bz (par I t u mp) = ρ ∧ I = I' ∧ J = J') := by
  refine h_Mi.of (ty := .boolean) (cc := cX5_isParted) (maxL := 7) [(0, rr G 8), (1, .int (nI t)), (2, .int (nI u)), (3, .int (nI mp))] (by decide +kernel) rfl (Nat.le_of_ble_eq_true rfl) rfl ?_
  intro Γ K ret
  have i_X5 : ∀ w ∈ u_ws RX5 TX5 3, w ∈ wsX5_isParted := by decide +kernel
  have htu : u < 10 := hU.1
  have hcu0 := (hU.2 0 (by decide)).2
  have hcu1 := (hU.2 1 (by decide)).2
  have hcu2 := (hU.2 2 (by decide)).2
  refine x_aload_n (pc := 0) K 0 dX5_isParted_0 rfl rfl ?_
  refine x_iload_n (pc := 1) K 1 dX5_isParted_1 rfl rfl ?_
  refine x_iload_n (pc := 2) K 3 dX5_isParted_2 rfl rfl ?_
  refine x_calliV (pc := 3) (st := []) (n := 2) K (by decide) sh_8 rfl (c_X5_turn l G _ _ t mp hT (by omega)) gX5_isParted_X5_turn (by decide +kernel) rfl (by decide) (by decide) rfl rfl (Nat.le_of_ble_eq_true rfl) dX5_isParted_3 (fun r_3 I_3 J_3 hp_3 => ?_)
  obtain ⟨rfl, rfl, rfl⟩ := hp_3
  refine x_i2l (pc := 6) K dX5_isParted_6 ?_
  refine x_lstore (pc := 7) (lo' := [(4, _), (0, _), (1, _), (2, _), (3, _)]) K dX5_isParted_7 (by decide) rfl ?_
  refine x_iconst (pc := 9) (v := 0) K dX5_isParted_9 (by decide) ?_
  refine x_istore (pc := 10) (lo' := [(6, _), (4, _), (0, _), (1, _), (2, _), (3, _)]) K dX5_isParted_10 (by decide) rfl ?_
  refine x_iload (pc := 12) K 0 dX5_isParted_12 rfl ?_
  refine x_iconst (pc := 14) (v := 3) K dX5_isParted_14 (by decide) ?_
  refine x_icmp_ge (pc := 15) (tgt := 45) K dX5_isParted_15 (by decide) (fun c_15 => ?_) (fun c_15 => ?_)
  · replace c_15 := cI_le (a := 3) (b := 0) rfl rfl (by omega) (by omega) c_15
    omega
  · replace c_15 := cI_nle (a := 3) (b := 0) rfl rfl (by omega) (by omega) c_15
    refine x_aload_n (pc := 18) K 2 dX5_isParted_18 rfl rfl ?_
    refine x_iload_n (pc := 19) K 3 dX5_isParted_19 rfl rfl ?_
    refine x_iload_n (pc := 20) K 5 dX5_isParted_20 rfl rfl ?_
    refine x_lload (pc := 21) K 1 dX5_isParted_21 rfl ?_
    refine x_iload (pc := 23) K 0 dX5_isParted_23 rfl ?_
    refine x_aload_n (pc := 25) K 2 dX5_isParted_25 rfl rfl ?_
    refine x_getr (r0 := 9) (pc := 26) (index := 17) (C := RX5) (T := TX5) (N := 3) (j0 := 2) (ref := "OldMap$Triangles") K (by decide) sh_8 rfl i_X5 (by decide) (by decide +kernel) rfl rfl rf_8_2 dX5_isParted_26 ?_
    refine x_iload_n (pc := 29) K 4 dX5_isParted_29 rfl rfl ?_
    refine y_aald (r0 := (10 + u)) (j := u) (pc := 30) K (by decide) sh_9 rfl (by omega) (by decide) (rf_9 _) dX5_isParted_30 ?_
    refine x_calliV (pc := 31) (st := []) (n := 5) K (by decide) sh_8 rfl (c_X5_isOutside l G _ _ t u mp _ 0 hT hU (by omega) (by omega)) gX5_isParted_X5_isOutside (by decide +kernel) rfl (by decide) (by decide) rfl rfl (Nat.le_of_ble_eq_true rfl) dX5_isParted_31 (fun r_31 I_31 J_31 hp_31 => ?_)
    obtain ⟨rfl, rfl, rfl⟩ := hp_31
    refine x_if_eq (pc := 34) (tgt := 39) K dX5_isParted_34 (by decide) (fun c_34 => ?_) (fun c_34 => ?_)
    · replace c_34 := bz_0.mp c_34
      refine x_iinc (pc := 39) (q0 := 0) (v := nI (0 + 1)) (lo' := [(6, _), (4, _), (0, _), (1, _), (2, _), (3, _)]) K dX5_isParted_39 rfl (nI_incE rfl) (by decide) rfl ?_
      refine x_goto (pc := 42) (tgt := 12) K dX5_isParted_42 (by decide) ?_
      refine x_iload (pc := 12) K 0 dX5_isParted_12 rfl ?_
      refine x_iconst (pc := 14) (v := 3) K dX5_isParted_14 (by decide) ?_
      refine x_icmp_ge (pc := 15) (tgt := 45) K dX5_isParted_15 (by decide) (fun c_15_1 => ?_) (fun c_15_1 => ?_)
      · replace c_15_1 := cI_le (a := 3) (b := (0 + 1)) rfl rfl (by omega) (by omega) c_15_1
        omega
      · replace c_15_1 := cI_nle (a := 3) (b := (0 + 1)) rfl rfl (by omega) (by omega) c_15_1
        refine x_aload_n (pc := 18) K 2 dX5_isParted_18 rfl rfl ?_
        refine x_iload_n (pc := 19) K 3 dX5_isParted_19 rfl rfl ?_
        refine x_iload_n (pc := 20) K 5 dX5_isParted_20 rfl rfl ?_
        refine x_lload (pc := 21) K 1 dX5_isParted_21 rfl ?_
        refine x_iload (pc := 23) K 0 dX5_isParted_23 rfl ?_
        refine x_aload_n (pc := 25) K 2 dX5_isParted_25 rfl rfl ?_
        refine x_getr (r0 := 9) (pc := 26) (index := 17) (C := RX5) (T := TX5) (N := 3) (j0 := 2) (ref := "OldMap$Triangles") K (by decide) sh_8 rfl i_X5 (by decide) (by decide +kernel) rfl rfl rf_8_2 dX5_isParted_26 ?_
        refine x_iload_n (pc := 29) K 4 dX5_isParted_29 rfl rfl ?_
        refine y_aald (r0 := (10 + u)) (j := u) (pc := 30) K (by decide) sh_9 rfl (by omega) (by decide) (rf_9 _) dX5_isParted_30 ?_
        refine x_calliV (pc := 31) (st := []) (n := 5) K (by decide) sh_8 rfl (c_X5_isOutside l G _ _ t u mp _ (0 + 1) hT hU (by omega) (by omega)) gX5_isParted_X5_isOutside (by decide +kernel) rfl (by decide) (by decide) rfl rfl (Nat.le_of_ble_eq_true rfl) dX5_isParted_31 (fun r_31 I_31 J_31 hp_31 => ?_)
        obtain ⟨rfl, rfl, rfl⟩ := hp_31
        refine x_if_eq (pc := 34) (tgt := 39) K dX5_isParted_34 (by decide) (fun c_34_1 => ?_) (fun c_34_1 => ?_)
        · replace c_34_1 := bz_0.mp c_34_1
          refine x_iinc (pc := 39) (q0 := 0) (v := nI ((0 + 1) + 1)) (lo' := [(6, _), (4, _), (0, _), (1, _), (2, _), (3, _)]) K dX5_isParted_39 rfl (nI_incE rfl) (by decide) rfl ?_
          refine x_goto (pc := 42) (tgt := 12) K dX5_isParted_42 (by decide) ?_
          refine x_iload (pc := 12) K 0 dX5_isParted_12 rfl ?_
          refine x_iconst (pc := 14) (v := 3) K dX5_isParted_14 (by decide) ?_
          refine x_icmp_ge (pc := 15) (tgt := 45) K dX5_isParted_15 (by decide) (fun c_15_2 => ?_) (fun c_15_2 => ?_)
          · replace c_15_2 := cI_le (a := 3) (b := ((0 + 1) + 1)) rfl rfl (by omega) (by omega) c_15_2
            omega
          · replace c_15_2 := cI_nle (a := 3) (b := ((0 + 1) + 1)) rfl rfl (by omega) (by omega) c_15_2
            refine x_aload_n (pc := 18) K 2 dX5_isParted_18 rfl rfl ?_
            refine x_iload_n (pc := 19) K 3 dX5_isParted_19 rfl rfl ?_
            refine x_iload_n (pc := 20) K 5 dX5_isParted_20 rfl rfl ?_
            refine x_lload (pc := 21) K 1 dX5_isParted_21 rfl ?_
            refine x_iload (pc := 23) K 0 dX5_isParted_23 rfl ?_
            refine x_aload_n (pc := 25) K 2 dX5_isParted_25 rfl rfl ?_
            refine x_getr (r0 := 9) (pc := 26) (index := 17) (C := RX5) (T := TX5) (N := 3) (j0 := 2) (ref := "OldMap$Triangles") K (by decide) sh_8 rfl i_X5 (by decide) (by decide +kernel) rfl rfl rf_8_2 dX5_isParted_26 ?_
            refine x_iload_n (pc := 29) K 4 dX5_isParted_29 rfl rfl ?_
            refine y_aald (r0 := (10 + u)) (j := u) (pc := 30) K (by decide) sh_9 rfl (by omega) (by decide) (rf_9 _) dX5_isParted_30 ?_
            refine x_calliV (pc := 31) (st := []) (n := 5) K (by decide) sh_8 rfl (c_X5_isOutside l G _ _ t u mp _ ((0 + 1) + 1) hT hU (by omega) (by omega)) gX5_isParted_X5_isOutside (by decide +kernel) rfl (by decide) (by decide) rfl rfl (Nat.le_of_ble_eq_true rfl) dX5_isParted_31 (fun r_31 I_31 J_31 hp_31 => ?_)
            obtain ⟨rfl, rfl, rfl⟩ := hp_31
            refine x_if_eq (pc := 34) (tgt := 39) K dX5_isParted_34 (by decide) (fun c_34_2 => ?_) (fun c_34_2 => ?_)
            · replace c_34_2 := bz_0.mp c_34_2
              refine x_iinc (pc := 39) (q0 := 0) (v := nI (((0 + 1) + 1) + 1)) (lo' := [(6, _), (4, _), (0, _), (1, _), (2, _), (3, _)]) K dX5_isParted_39 rfl (nI_incE rfl) (by decide) rfl ?_
              refine x_goto (pc := 42) (tgt := 12) K dX5_isParted_42 (by decide) ?_
              refine x_iload (pc := 12) K 0 dX5_isParted_12 rfl ?_
              refine x_iconst (pc := 14) (v := 3) K dX5_isParted_14 (by decide) ?_
              refine x_icmp_ge (pc := 15) (tgt := 45) K dX5_isParted_15 (by decide) (fun c_15_3 => ?_) (fun c_15_3 => ?_)
              · replace c_15_3 := cI_le (a := 3) (b := (((0 + 1) + 1) + 1)) rfl rfl (by omega) (by omega) c_15_3
                refine x_iconst (pc := 45) (v := 0) K dX5_isParted_45 (by decide) ?_
                exact ret (pc := 46) dX5_isParted_46 (⟨by first | exact bz_1.mpr (by grind) | exact bz_0.mpr (by grind), rfl, rfl⟩) rfl
              · replace c_15_3 := cI_nle (a := 3) (b := (((0 + 1) + 1) + 1)) rfl rfl (by omega) (by omega) c_15_3
                omega
            · replace c_34_2 := bz_n0.mp c_34_2
              refine x_iconst (pc := 37) (v := 1) K dX5_isParted_37 (by decide) ?_
              exact ret (pc := 38) dX5_isParted_38 (⟨by first | exact bz_1.mpr (by grind) | exact bz_0.mpr (by grind), rfl, rfl⟩) rfl
        · replace c_34_1 := bz_n0.mp c_34_1
          refine x_iconst (pc := 37) (v := 1) K dX5_isParted_37 (by decide) ?_
          exact ret (pc := 38) dX5_isParted_38 (⟨by first | exact bz_1.mpr (by grind) | exact bz_0.mpr (by grind), rfl, rfl⟩) rfl
    · replace c_34 := bz_n0.mp c_34
      refine x_iconst (pc := 37) (v := 1) K dX5_isParted_37 (by decide) ?_
      exact ret (pc := 38) dX5_isParted_38 (⟨by first | exact bz_1.mpr (by grind) | exact bz_0.mpr (by grind), rfl, rfl⟩) rfl

set_option maxHeartbeats 1000000 in
set_option maxRecDepth 100000 in
theorem c_X5_overlap (l : Launch) (G : hQ) (I : hI) (J : hJ) (t u mp : Nat) (hT : TOk I t) (hU : TOk I u) (hm : mp < 2) : h_Mi l yX5_overlap wsX5_overlap 4 113 G [rr G 8, .int (nI t), .int (nI u), .int (nI mp)] I J (fun ρ I' J' => bz (ovl I t u mp) = ρ ∧ I = I' ∧ J = J') := by
  refine h_Mi.of (ty := .boolean) (cc := cX5_overlap) (maxL := 4) [(0, rr G 8), (1, .int (nI t)), (2, .int (nI u)), (3, .int (nI mp))] (by decide +kernel) rfl (Nat.le_of_ble_eq_true rfl) rfl ?_
  intro Γ K ret
  refine x_aload_n (pc := 0) K 0 dX5_overlap_0 rfl rfl ?_
  refine x_iload_n (pc := 1) K 1 dX5_overlap_1 rfl rfl ?_
  refine x_iload_n (pc := 2) K 2 dX5_overlap_2 rfl rfl ?_
  refine x_iload_n (pc := 3) K 3 dX5_overlap_3 rfl rfl ?_
  refine x_calliV (pc := 4) (st := []) (n := 3) K (by decide) sh_8 rfl (c_X5_isParted l G _ _ t u mp hT hU (by omega)) gX5_overlap_X5_isParted (by decide +kernel) rfl (by decide) (by decide) rfl rfl (Nat.le_of_ble_eq_true rfl) dX5_overlap_4 (fun r_4 I_4 J_4 hp_4 => ?_)
  obtain ⟨rfl, rfl, rfl⟩ := hp_4
  refine x_if_ne (pc := 7) (tgt := 24) K dX5_overlap_7 (by decide) (fun c_7 => ?_) (fun c_7 => ?_)
  · replace c_7 := bz_n0.mp c_7
    refine x_iconst (pc := 24) (v := 0) K dX5_overlap_24 (by decide) ?_
    exact ret (pc := 25) dX5_overlap_25 (⟨by first | exact bz_1.mpr ⟨by assumption, by assumption⟩ | exact bz_0.mpr (fun h => h.1 (by assumption)) | exact bz_0.mpr (fun h => h.2 (by assumption)), rfl, rfl⟩) rfl
  · replace c_7 := bz_0.mp c_7
    refine x_aload_n (pc := 10) K 0 dX5_overlap_10 rfl rfl ?_
    refine x_iload_n (pc := 11) K 2 dX5_overlap_11 rfl rfl ?_
    refine x_iload_n (pc := 12) K 1 dX5_overlap_12 rfl rfl ?_
    refine x_iload_n (pc := 13) K 3 dX5_overlap_13 rfl rfl ?_
    refine x_calliV (pc := 14) (st := []) (n := 3) K (by decide) sh_8 rfl (c_X5_isParted l G _ _ u t mp hU hT (by omega)) gX5_overlap_X5_isParted (by decide +kernel) rfl (by decide) (by decide) rfl rfl (Nat.le_of_ble_eq_true rfl) dX5_overlap_14 (fun r_14 I_14 J_14 hp_14 => ?_)
    obtain ⟨rfl, rfl, rfl⟩ := hp_14
    refine x_if_ne (pc := 17) (tgt := 24) K dX5_overlap_17 (by decide) (fun c_17 => ?_) (fun c_17 => ?_)
    · replace c_17 := bz_n0.mp c_17
      refine x_iconst (pc := 24) (v := 0) K dX5_overlap_24 (by decide) ?_
      exact ret (pc := 25) dX5_overlap_25 (⟨by first | exact bz_1.mpr ⟨by assumption, by assumption⟩ | exact bz_0.mpr (fun h => h.1 (by assumption)) | exact bz_0.mpr (fun h => h.2 (by assumption)), rfl, rfl⟩) rfl
    · replace c_17 := bz_0.mp c_17
      refine x_iconst (pc := 20) (v := 1) K dX5_overlap_20 (by decide) ?_
      refine x_goto (pc := 21) (tgt := 25) K dX5_overlap_21 (by decide) ?_
      exact ret (pc := 25) dX5_overlap_25 (⟨by first | exact bz_1.mpr ⟨by assumption, by assumption⟩ | exact bz_0.mpr (fun h => h.1 (by assumption)) | exact bz_0.mpr (fun h => h.2 (by assumption)), rfl, rfl⟩) rfl

set_option maxHeartbeats 1000000 in
set_option maxRecDepth 100000 in
theorem c_X5_bentAbove (l : Launch) (G : hQ) (I : hI) (J : hJ) (t mp ax : Nat) (x y : Int32) (hT : TOk I t) (hm : mp < 2) (hx : ax < 2) : h_Ml l yX5_bentAbove wsX5_bentAbove 3 74 G [rr G 8, .int (nI t), .int (nI mp), .int x, .int y, .int (nI ax)] I J (fun ρ I' J' => bent I t mp ax x y = ρ ∧ I = I' ∧ J = J') := by
  refine h_Ml.of (cc := cX5_bentAbove) (maxL := 14) [(0, rr G 8), (1, .int (nI t)), (2, .int (nI mp)), (3, .int x), (4, .int y), (5, .int (nI ax))] (by decide +kernel) rfl (Nat.le_of_ble_eq_true rfl) rfl ?_
  intro Γ K ret
  have i_X5 : ∀ w ∈ u_ws RX5 TX5 3, w ∈ wsX5_bentAbove := by decide +kernel
  have i_X2 : ∀ w ∈ u_ws RX2 TX2 4, w ∈ wsX5_bentAbove := by decide +kernel
  have htt : t < 10 := hT.1
  have hct0 := (hT.2 0 (by decide)).2
  have hct1 := (hT.2 1 (by decide)).2
  have hct2 := (hT.2 2 (by decide)).2
  refine x_aload_n (pc := 0) K 0 dX5_bentAbove_0 rfl rfl ?_
  refine x_getr (r0 := 9) (pc := 1) (index := 17) (C := RX5) (T := TX5) (N := 3) (j0 := 2) (ref := "OldMap$Triangles") K (by decide) sh_8 rfl i_X5 (by decide) (by decide +kernel) rfl rfl rf_8_2 dX5_bentAbove_1 ?_
  refine x_iload_n (pc := 4) K 1 dX5_bentAbove_4 rfl rfl ?_
  refine y_aald (r0 := (10 + t)) (j := t) (pc := 5) K (by decide) sh_9 rfl (by omega) (by decide) (rf_9 _) dX5_bentAbove_5 ?_
  refine x_astore (pc := 6) (lo' := [(6, _), (0, _), (1, _), (2, _), (3, _), (4, _), (5, _)]) K dX5_bentAbove_6 (by decide) rfl ?_
  refine x_aload_n (pc := 8) K 1 dX5_bentAbove_8 rfl rfl ?_
  refine x_getr (r0 := 2) (pc := 9) (index := 20) (C := RX5) (T := TX5) (N := 3) (j0 := 0) (ref := "OldMap$Triangles") K (by decide) sh_8 rfl i_X5 (by decide) (by decide +kernel) rfl rfl rf_8_0 dX5_bentAbove_9 ?_
  refine x_getrN (r0 := 3) (pc := 12) (index := 49) (C := RX2) (T := TX2) (N := 4) (j0 := 1) (host := "OldMap") (ref := "OldMap$Points") K (by decide) sh_2 rfl i_X2 (by decide) (by decide +kernel) rfl rfl rf_2_1 dX5_bentAbove_12 ?_
  refine x_iconst (pc := 15) (v := 2) K dX5_bentAbove_15 (by decide) ?_
  refine x_iconst (pc := 16) (v := 1) K dX5_bentAbove_16 (by decide) ?_
  refine x_iload_n (pc := 17) K 3 dX5_bentAbove_17 rfl rfl ?_
  refine x_isub (pc := 18) K dX5_bentAbove_18 ?_
  refine x_imul (pc := 19) K dX5_bentAbove_19 ?_
  refine x_iload (pc := 20) K 6 dX5_bentAbove_20 rfl ?_
  refine x_iadd (pc := 22) K dX5_bentAbove_22 ?_
  refine y_aald (r0 := (4 + ((2 * (1 - mp)) + ax))) (j := ((2 * (1 - mp)) + ax)) (pc := 23) K (by decide) sh_3 (nI_addE (nI_mulE rfl (nI_subE (by omega) rfl rfl)) rfl) (by omega) (by decide) (rf_3 _) dX5_bentAbove_23 ?_
  refine x_astore (pc := 24) (lo' := [(7, _), (6, _), (0, _), (1, _), (2, _), (3, _), (4, _), (5, _)]) K dX5_bentAbove_24 (by decide) rfl ?_
  refine x_aload (pc := 26) K 0 dX5_bentAbove_26 rfl ?_
  refine x_aload (pc := 28) K 1 dX5_bentAbove_28 rfl ?_
  refine x_iconst (pc := 30) (v := 0) K dX5_bentAbove_30 (by decide) ?_
  refine y_iald (j := 0) (pc := 31) K (shk_cor (show t < 10 by omega)) (shr_cor _ (show t < 10 by omega)) rfl (by omega) (by decide) dX5_bentAbove_31 ?_
  refine x_topie (nI (cn I t 0)) (hT.2 0 (by omega)).1 ?_
  refine y_iald (j := (cn I t 0)) (pc := 32) K (shk_at (show ((2 * (1 - mp)) + ax) < 4 by omega)) (shr_at _ (show ((2 * (1 - mp)) + ax) < 4 by omega)) rfl (by omega) (by decide) dX5_bentAbove_32 ?_
  refine x_i2l (pc := 33) K dX5_bentAbove_33 ?_
  refine x_lstore (pc := 34) (lo' := [(8, _), (7, _), (6, _), (0, _), (1, _), (2, _), (3, _), (4, _), (5, _)]) K dX5_bentAbove_34 (by decide) rfl ?_
  refine x_aload_n (pc := 36) K 3 dX5_bentAbove_36 rfl rfl ?_
  refine x_getr (r0 := 2) (pc := 37) (index := 20) (C := RX5) (T := TX5) (N := 3) (j0 := 0) (ref := "OldMap$Triangles") K (by decide) sh_8 rfl i_X5 (by decide) (by decide +kernel) rfl rfl rf_8_0 dX5_bentAbove_37 ?_
  refine x_iload_n (pc := 40) K 5 dX5_bentAbove_40 rfl rfl ?_
  refine x_aload (pc := 41) K 2 dX5_bentAbove_41 rfl ?_
  refine x_iconst (pc := 43) (v := 2) K dX5_bentAbove_43 (by decide) ?_
  refine y_iald (j := 2) (pc := 44) K (shk_cor (show t < 10 by omega)) (shr_cor _ (show t < 10 by omega)) rfl (by omega) (by decide) dX5_bentAbove_44 ?_
  refine x_topie (nI (cn I t 2)) (hT.2 2 (by omega)).1 ?_
  refine x_aload (pc := 45) K 2 dX5_bentAbove_45 rfl ?_
  refine x_iconst (pc := 47) (v := 0) K dX5_bentAbove_47 (by decide) ?_
  refine y_iald (j := 0) (pc := 48) K (shk_cor (show t < 10 by omega)) (shr_cor _ (show t < 10 by omega)) rfl (by omega) (by decide) dX5_bentAbove_48 ?_
  refine x_topie (nI (cn I t 0)) (hT.2 0 (by omega)).1 ?_
  refine x_iload_n (pc := 49) K 6 dX5_bentAbove_49 rfl rfl ?_
  refine x_iload (pc := 50) K 7 dX5_bentAbove_50 rfl ?_
  refine x_calliN (pc := 52) (st := []) (n := 5) K (by decide) sh_2 rfl (c_X2_side l G _ _ mp (cn I t 2) (cn I t 0) _ _ (by omega) (by omega) (by omega)) (host := "OldMap") gX5_bentAbove_X2_side_n33 (by decide +kernel) (by decide +kernel) (by decide +kernel) (by decide +kernel) (by decide +kernel) rfl (by decide) (by decide) rfl rfl (Nat.le_of_ble_eq_true rfl) dX5_bentAbove_52 (fun r_52 I_52 J_52 hp_52 => ?_)
  obtain ⟨rfl, rfl, rfl⟩ := hp_52
  refine x_i2l (pc := 55) K dX5_bentAbove_55 ?_
  refine x_lstore (pc := 56) (lo' := [(10, _), (8, _), (7, _), (6, _), (0, _), (1, _), (2, _), (3, _), (4, _), (5, _)]) K dX5_bentAbove_56 (by decide) rfl ?_
  refine x_aload_n (pc := 58) K 4 dX5_bentAbove_58 rfl rfl ?_
  refine x_getr (r0 := 2) (pc := 59) (index := 20) (C := RX5) (T := TX5) (N := 3) (j0 := 0) (ref := "OldMap$Triangles") K (by decide) sh_8 rfl i_X5 (by decide) (by decide +kernel) rfl rfl rf_8_0 dX5_bentAbove_59 ?_
  refine x_iload_n (pc := 62) K 6 dX5_bentAbove_62 rfl rfl ?_
  refine x_aload (pc := 63) K 3 dX5_bentAbove_63 rfl ?_
  refine x_iconst (pc := 65) (v := 0) K dX5_bentAbove_65 (by decide) ?_
  refine y_iald (j := 0) (pc := 66) K (shk_cor (show t < 10 by omega)) (shr_cor _ (show t < 10 by omega)) rfl (by omega) (by decide) dX5_bentAbove_66 ?_
  refine x_topie (nI (cn I t 0)) (hT.2 0 (by omega)).1 ?_
  refine x_aload (pc := 67) K 3 dX5_bentAbove_67 rfl ?_
  refine x_iconst (pc := 69) (v := 1) K dX5_bentAbove_69 (by decide) ?_
  refine y_iald (j := 1) (pc := 70) K (shk_cor (show t < 10 by omega)) (shr_cor _ (show t < 10 by omega)) rfl (by omega) (by decide) dX5_bentAbove_70 ?_
  refine x_topie (nI (cn I t 1)) (hT.2 1 (by omega)).1 ?_
  refine x_iload_n (pc := 71) K 7 dX5_bentAbove_71 rfl rfl ?_
  refine x_iload (pc := 72) K 8 dX5_bentAbove_72 rfl ?_
  refine x_calliN (pc := 74) (st := []) (n := 5) K (by decide) sh_2 rfl (c_X2_side l G _ _ mp (cn I t 0) (cn I t 1) _ _ (by omega) (by omega) (by omega)) (host := "OldMap") gX5_bentAbove_X2_side_n33 (by decide +kernel) (by decide +kernel) (by decide +kernel) (by decide +kernel) (by decide +kernel) rfl (by decide) (by decide) rfl rfl (Nat.le_of_ble_eq_true rfl) dX5_bentAbove_74 (fun r_74 I_74 J_74 hp_74 => ?_)
  obtain ⟨rfl, rfl, rfl⟩ := hp_74
  refine x_i2l (pc := 77) K dX5_bentAbove_77 ?_
  refine x_lstore (pc := 78) (lo' := [(12, _), (10, _), (8, _), (7, _), (6, _), (0, _), (1, _), (2, _), (3, _), (4, _), (5, _)]) K dX5_bentAbove_78 (by decide) rfl ?_
  refine x_lload (pc := 80) K 2 dX5_bentAbove_80 rfl ?_
  refine x_aload_n (pc := 82) K 5 dX5_bentAbove_82 rfl rfl ?_
  refine x_iload_n (pc := 83) K 6 dX5_bentAbove_83 rfl rfl ?_
  refine x_iload_n (pc := 84) K 7 dX5_bentAbove_84 rfl rfl ?_
  refine x_calliV (pc := 85) (st := [_]) (n := 2) K (by decide) sh_8 rfl (c_X5_turn l G _ _ t mp hT (by omega)) gX5_bentAbove_X5_turn (by decide +kernel) rfl (by decide) (by decide) rfl rfl (Nat.le_of_ble_eq_true rfl) dX5_bentAbove_85 (fun r_85 I_85 J_85 hp_85 => ?_)
  obtain ⟨rfl, rfl, rfl⟩ := hp_85
  refine x_i2l (pc := 88) K dX5_bentAbove_88 ?_
  refine x_lmul (pc := 89) K dX5_bentAbove_89 ?_
  refine x_lload (pc := 90) K 1 dX5_bentAbove_90 rfl ?_
  refine x_aload (pc := 92) K 3 dX5_bentAbove_92 rfl ?_
  refine x_aload (pc := 94) K 4 dX5_bentAbove_94 rfl ?_
  refine x_iconst (pc := 96) (v := 1) K dX5_bentAbove_96 (by decide) ?_
  refine y_iald (j := 1) (pc := 97) K (shk_cor (show t < 10 by omega)) (shr_cor _ (show t < 10 by omega)) rfl (by omega) (by decide) dX5_bentAbove_97 ?_
  refine x_topie (nI (cn I t 1)) (hT.2 1 (by omega)).1 ?_
  refine y_iald (j := (cn I t 1)) (pc := 98) K (shk_at (show ((2 * (1 - mp)) + ax) < 4 by omega)) (shr_at _ (show ((2 * (1 - mp)) + ax) < 4 by omega)) rfl (by omega) (by decide) dX5_bentAbove_98 ?_
  refine x_i2l (pc := 99) K dX5_bentAbove_99 ?_
  refine x_lload (pc := 100) K 2 dX5_bentAbove_100 rfl ?_
  refine x_lsub (pc := 102) K dX5_bentAbove_102 ?_
  refine x_lmul (pc := 103) K dX5_bentAbove_103 ?_
  refine x_ladd (pc := 104) K dX5_bentAbove_104 ?_
  refine x_lload (pc := 105) K 0 dX5_bentAbove_105 rfl ?_
  refine x_aload (pc := 107) K 3 dX5_bentAbove_107 rfl ?_
  refine x_aload (pc := 109) K 4 dX5_bentAbove_109 rfl ?_
  refine x_iconst (pc := 111) (v := 2) K dX5_bentAbove_111 (by decide) ?_
  refine y_iald (j := 2) (pc := 112) K (shk_cor (show t < 10 by omega)) (shr_cor _ (show t < 10 by omega)) rfl (by omega) (by decide) dX5_bentAbove_112 ?_
  refine x_topie (nI (cn I t 2)) (hT.2 2 (by omega)).1 ?_
  refine y_iald (j := (cn I t 2)) (pc := 113) K (shk_at (show ((2 * (1 - mp)) + ax) < 4 by omega)) (shr_at _ (show ((2 * (1 - mp)) + ax) < 4 by omega)) rfl (by omega) (by decide) dX5_bentAbove_113 ?_
  refine x_i2l (pc := 114) K dX5_bentAbove_114 ?_
  refine x_lload (pc := 115) K 2 dX5_bentAbove_115 rfl ?_
  refine x_lsub (pc := 117) K dX5_bentAbove_117 ?_
  refine x_lmul (pc := 118) K dX5_bentAbove_118 ?_
  refine x_ladd (pc := 119) K dX5_bentAbove_119 ?_
  exact ret (pc := 120) dX5_bentAbove_120 (⟨rfl, rfl, rfl⟩)

set_option maxHeartbeats 1000000 in
set_option maxRecDepth 100000 in
theorem c_X5_add (l : Launch) (G : hQ) (I : hI) (J : hJ) (n : Nat) (p q r : Int32) (hn : I 8 1 = nI n) (h10 : n ≤ 10) : h_Mi l yX5_add wsX5_add 0 0 G [rr G 8, .int p, .int q, .int r] I J (fun r2 I' J' => (if n < 10 then nI n else -2) = r2 ∧ (if n < 10 then addTr I n p q r else I) = I' ∧ J = J') := by
  refine h_Mi.of (ty := .int) (cc := cX5_add) (maxL := 5) [(0, rr G 8), (1, .int p), (2, .int q), (3, .int r)] (by decide +kernel) rfl (Nat.le_of_ble_eq_true rfl) rfl ?_
  intro Γ K ret
  have i_X5 : ∀ w ∈ u_ws RX5 TX5 3, w ∈ wsX5_add := by decide +kernel
  refine x_aload_n (pc := 0) K 0 dX5_add_0 rfl rfl ?_
  refine x_geti (pc := 1) (index := 9) (C := RX5) (T := TX5) (N := 3) (j0 := 1) (ref := "OldMap$Triangles") K (by decide) sh_8 rfl i_X5 (by decide) (by decide +kernel) rfl rfl dX5_add_1 ?_
  refine x_topie (nI n) hn ?_
  refine x_bipush (pc := 4) (v := 10) K dX5_add_4 (by decide) ?_
  refine x_icmp_lt (pc := 6) (tgt := 12) K dX5_add_6 (by decide) (fun c_6 => ?_) (fun c_6 => ?_)
  · replace c_6 := cI_lt (a := n) (b := 10) rfl rfl (by omega) (by omega) c_6
    refine x_aload_n (pc := 12) K 0 dX5_add_12 rfl rfl ?_
    refine x_geti (pc := 13) (index := 9) (C := RX5) (T := TX5) (N := 3) (j0 := 1) (ref := "OldMap$Triangles") K (by decide) sh_8 rfl i_X5 (by decide) (by decide +kernel) rfl rfl dX5_add_13 ?_
    refine x_topie (nI n) hn ?_
    refine x_istore (pc := 16) (lo' := [(4, _), (0, _), (1, _), (2, _), (3, _)]) K dX5_add_16 (by decide) rfl ?_
    refine x_aload_n (pc := 18) K 1 dX5_add_18 rfl rfl ?_
    refine x_dup (pc := 19) K dX5_add_19 rfl ?_
    refine x_geti (pc := 20) (index := 9) (C := RX5) (T := TX5) (N := 3) (j0 := 1) (ref := "OldMap$Triangles") K (by decide) sh_8 rfl i_X5 (by decide) (by decide +kernel) rfl rfl dX5_add_20 ?_
    refine x_topie (nI n) hn ?_
    refine x_iconst (pc := 23) (v := 1) K dX5_add_23 (by decide) ?_
    refine x_iadd (pc := 24) K dX5_add_24 ?_
    refine x_puti (ty := .int) (pc := 25) (index := 9) (C := RX5) (T := TX5) (N := 3) (j0 := 1) (ref := "OldMap$Triangles") K (by decide) sh_8 rfl i_X5 (by decide) (by decide +kernel) rfl tyX5 tyX5_ok nmX5 rfl (by decide +kernel) rfl rfl rfl dX5_add_25 ?_
    refine x_aload_n (pc := 28) K 1 dX5_add_28 rfl rfl ?_
    refine x_getr (r0 := 9) (pc := 29) (index := 17) (C := RX5) (T := TX5) (N := 3) (j0 := 2) (ref := "OldMap$Triangles") K (by decide) sh_8 rfl i_X5 (by decide) (by decide +kernel) rfl rfl rf_8_2 dX5_add_29 ?_
    refine x_iload (pc := 32) K 0 dX5_add_32 rfl ?_
    refine y_aald (r0 := (10 + n)) (j := n) (pc := 34) K (by decide) sh_9 rfl (by omega) (by decide) (rf_9 _) dX5_add_34 ?_
    refine x_iconst (pc := 35) (v := 0) K dX5_add_35 (by decide) ?_
    refine x_iload_n (pc := 36) K 2 dX5_add_36 rfl rfl ?_
    refine y_iast (j := 0) (pc := 37) K (shk_cor (show n < 10 by omega)) (shr_cor _ (show n < 10 by omega)) rfl (by omega) (by decide) dX5_add_37 ?_
    refine x_aload_n (pc := 38) K 1 dX5_add_38 rfl rfl ?_
    refine x_getr (r0 := 9) (pc := 39) (index := 17) (C := RX5) (T := TX5) (N := 3) (j0 := 2) (ref := "OldMap$Triangles") K (by decide) sh_8 rfl i_X5 (by decide) (by decide +kernel) rfl rfl rf_8_2 dX5_add_39 ?_
    refine x_iload (pc := 42) K 0 dX5_add_42 rfl ?_
    refine y_aald (r0 := (10 + n)) (j := n) (pc := 44) K (by decide) sh_9 rfl (by omega) (by decide) (rf_9 _) dX5_add_44 ?_
    refine x_iconst (pc := 45) (v := 1) K dX5_add_45 (by decide) ?_
    refine x_iload_n (pc := 46) K 3 dX5_add_46 rfl rfl ?_
    refine y_iast (j := 1) (pc := 47) K (shk_cor (show n < 10 by omega)) (shr_cor _ (show n < 10 by omega)) rfl (by omega) (by decide) dX5_add_47 ?_
    refine x_aload_n (pc := 48) K 1 dX5_add_48 rfl rfl ?_
    refine x_getr (r0 := 9) (pc := 49) (index := 17) (C := RX5) (T := TX5) (N := 3) (j0 := 2) (ref := "OldMap$Triangles") K (by decide) sh_8 rfl i_X5 (by decide) (by decide +kernel) rfl rfl rf_8_2 dX5_add_49 ?_
    refine x_iload (pc := 52) K 0 dX5_add_52 rfl ?_
    refine y_aald (r0 := (10 + n)) (j := n) (pc := 54) K (by decide) sh_9 rfl (by omega) (by decide) (rf_9 _) dX5_add_54 ?_
    refine x_iconst (pc := 55) (v := 2) K dX5_add_55 (by decide) ?_
    refine x_iload_n (pc := 56) K 4 dX5_add_56 rfl rfl ?_
    refine y_iast (j := 2) (pc := 57) K (shk_cor (show n < 10 by omega)) (shr_cor _ (show n < 10 by omega)) rfl (by omega) (by decide) dX5_add_57 ?_
    refine x_iload (pc := 58) K 0 dX5_add_58 rfl ?_
    exact ret (pc := 60) dX5_add_60 (⟨by rw [if_pos (by omega)], by rw [if_pos (by omega)]; rfl, rfl⟩) rfl
  · replace c_6 := cI_nlt (a := n) (b := 10) rfl rfl (by omega) (by omega) c_6
    refine x_bipush (pc := 9) (v := -2) K dX5_add_9 (by decide) ?_
    exact ret (pc := 11) dX5_add_11 (⟨by rw [if_neg (by omega)], by rw [if_neg (by omega)], rfl⟩) rfl

set_option maxHeartbeats 1000000 in
set_option maxRecDepth 100000 in
theorem c_X5_firstAround (l : Launch) (G : hQ) (I : hI) (J : hJ) (mp : Nat) (x y : Int32) (hm : mp < 2) (n : Nat) (hn : I 8 1 = nI n) (h10 : n ≤ 10) (hA : ∀ t, t < n → TOk I t) : h_Mi l yX5_firstAround wsX5_firstAround 4 101 G [rr G 8, .int (nI mp), .int x, .int y] I J (fun ρ I' J' => fstI (fun t => ¬ fl I t ∧ hol I t mp x y) 0 n = ρ ∧ I = I' ∧ J = J') := by
  refine h_Mi.of (ty := .int) (cc := cX5_firstAround) (maxL := 5) [(0, rr G 8), (1, .int (nI mp)), (2, .int x), (3, .int y)] (by decide +kernel) rfl (Nat.le_of_ble_eq_true rfl) rfl ?_
  intro Γ K ret
  have i_X5 : ∀ w ∈ u_ws RX5 TX5 3, w ∈ wsX5_firstAround := by decide +kernel
  have loop : ∀ k, k ≤ n → (fstI (fun t => ¬ fl I t ∧ hol I t mp x y) 0 n = fstI (fun t => ¬ fl I t ∧ hol I t mp x y) k (n - k)) → h_WW Γ G 3 [(4, .int (nI k)), (0, rr G 8), (1, .int (nI mp)), (2, .int x), (3, .int y)] [] I J := by
    refine loopU n (fun k hk ih => ?_)
    intro hi
    refine x_iload (pc := 3) K 0 dX5_firstAround_3 rfl ?_
    refine x_aload_n (pc := 5) K 1 dX5_firstAround_5 rfl rfl ?_
    refine x_geti (pc := 6) (index := 9) (C := RX5) (T := TX5) (N := 3) (j0 := 1) (ref := "OldMap$Triangles") K (by decide) sh_8 rfl i_X5 (by decide) (by decide +kernel) rfl rfl dX5_firstAround_6 ?_
    refine x_topie (nI n) hn ?_
    refine x_icmp_ge (pc := 9) (tgt := 42) K dX5_firstAround_9 (by decide) (fun c_9 => ?_) (fun c_9 => ?_)
    · replace c_9 := cI_le (a := n) (b := k) rfl rfl (by omega) (by omega) c_9
      refine x_bipush (pc := 42) (v := -5) K dX5_firstAround_42 (by decide) ?_
      exact ret (pc := 44) dX5_firstAround_44 (⟨by rw [hi, fstI_e (by omega)], rfl, rfl⟩) rfl
    · replace c_9 := cI_nle (a := n) (b := k) rfl rfl (by omega) (by omega) c_9
      refine x_aload_n (pc := 12) K 1 dX5_firstAround_12 rfl rfl ?_
      refine x_iload (pc := 13) K 0 dX5_firstAround_13 rfl ?_
      refine x_calliV (pc := 15) (st := []) (n := 1) K (by decide) sh_8 rfl (c_X5_isFlat l G _ _ k (hA k (by omega))) gX5_firstAround_X5_isFlat (by decide +kernel) rfl (by decide) (by decide) rfl rfl (Nat.le_of_ble_eq_true rfl) dX5_firstAround_15 (fun r_15 I_15 J_15 hp_15 => ?_)
      obtain ⟨rfl, rfl, rfl⟩ := hp_15
      refine x_if_ne (pc := 18) (tgt := 36) K dX5_firstAround_18 (by decide) (fun c_18 => ?_) (fun c_18 => ?_)
      · replace c_18 := bz_n0.mp c_18
        refine x_iinc (pc := 36) (q0 := 0) (v := nI (k + 1)) (lo' := [(4, _), (0, _), (1, _), (2, _), (3, _)]) K dX5_firstAround_36 rfl (nI_incE rfl) (by decide) rfl ?_
        refine x_goto (pc := 39) (tgt := 3) K dX5_firstAround_39 (by decide) ?_
        refine x_lo (lo' := [(4, _), (0, _), (1, _), (2, _), (3, _)]) [0, 1, 2, 3, 4] rfl ?_
        exact x_loe (by rfl) (ih (by omega) (by rw [hi, fstI_f (by omega) (by grind)]))
      · replace c_18 := bz_0.mp c_18
        refine x_aload_n (pc := 21) K 1 dX5_firstAround_21 rfl rfl ?_
        refine x_iload (pc := 22) K 0 dX5_firstAround_22 rfl ?_
        refine x_iload_n (pc := 24) K 2 dX5_firstAround_24 rfl rfl ?_
        refine x_iload_n (pc := 25) K 3 dX5_firstAround_25 rfl rfl ?_
        refine x_iload_n (pc := 26) K 4 dX5_firstAround_26 rfl rfl ?_
        refine x_calliV (pc := 27) (st := []) (n := 4) K (by decide) sh_8 rfl (c_X5_holds l G _ _ k mp _ _ (hA k (by omega)) (by omega)) gX5_firstAround_X5_holds (by decide +kernel) rfl (by decide) (by decide) rfl rfl (Nat.le_of_ble_eq_true rfl) dX5_firstAround_27 (fun r_27 I_27 J_27 hp_27 => ?_)
        obtain ⟨rfl, rfl, rfl⟩ := hp_27
        refine x_if_eq (pc := 30) (tgt := 36) K dX5_firstAround_30 (by decide) (fun c_30 => ?_) (fun c_30 => ?_)
        · replace c_30 := bz_0.mp c_30
          refine x_iinc (pc := 36) (q0 := 0) (v := nI (k + 1)) (lo' := [(4, _), (0, _), (1, _), (2, _), (3, _)]) K dX5_firstAround_36 rfl (nI_incE rfl) (by decide) rfl ?_
          refine x_goto (pc := 39) (tgt := 3) K dX5_firstAround_39 (by decide) ?_
          refine x_lo (lo' := [(4, _), (0, _), (1, _), (2, _), (3, _)]) [0, 1, 2, 3, 4] rfl ?_
          exact x_loe (by rfl) (ih (by omega) (by rw [hi, fstI_f (by omega) (by grind)]))
        · replace c_30 := bz_n0.mp c_30
          refine x_iload (pc := 33) K 0 dX5_firstAround_33 rfl ?_
          exact ret (pc := 35) dX5_firstAround_35 (⟨by rw [hi, fstI_t (by omega) ⟨c_18, c_30⟩], rfl, rfl⟩) rfl
  refine x_iconst (pc := 0) (v := 0) K dX5_firstAround_0 (by decide) ?_
  refine x_istore (pc := 1) (lo' := [(4, _), (0, _), (1, _), (2, _), (3, _)]) K dX5_firstAround_1 (by decide) rfl ?_
  refine x_lo (lo' := [(4, _), (0, _), (1, _), (2, _), (3, _)]) [0, 1, 2, 3, 4] rfl ?_
  exact x_loe (by rfl) (loop 0 (Nat.zero_le _) rfl)

set_option maxHeartbeats 1000000 in
set_option maxRecDepth 100000 in
theorem c_X5_manyOver (l : Launch) (G : hQ) (I : hI) (J : hJ) (n : Nat) (hn : I 8 1 = nI n) (h10 : n ≤ 10) (hA : ∀ t, t < n → TOk I t) : h_Mi l yX5_manyOver wsX5_manyOver 4 97 G [rr G 8] I J (fun ρ I' J' => sumI (fun t => if ov I t then 1 else 0) n = ρ ∧ I = I' ∧ J = J') := by
  refine h_Mi.of (ty := .int) (cc := cX5_manyOver) (maxL := 3) [(0, rr G 8)] (by decide +kernel) rfl (Nat.le_of_ble_eq_true rfl) rfl ?_
  intro Γ K ret
  have i_X5 : ∀ w ∈ u_ws RX5 TX5 3, w ∈ wsX5_manyOver := by decide +kernel
  have loop : ∀ k, k ≤ n → h_WW Γ G 4 [(2, .int (nI k)), (1, .int (sumI (fun t => if ov I t then 1 else 0) k)), (0, rr G 8)] [] I J := by
    refine loopU n (fun k hk ih => ?_)
    refine x_iload_n (pc := 4) K 0 dX5_manyOver_4 rfl rfl ?_
    refine x_aload_n (pc := 5) K 2 dX5_manyOver_5 rfl rfl ?_
    refine x_geti (pc := 6) (index := 9) (C := RX5) (T := TX5) (N := 3) (j0 := 1) (ref := "OldMap$Triangles") K (by decide) sh_8 rfl i_X5 (by decide) (by decide +kernel) rfl rfl dX5_manyOver_6 ?_
    refine x_topie (nI n) hn ?_
    refine x_icmp_ge (pc := 9) (tgt := 34) K dX5_manyOver_9 (by decide) (fun c_9 => ?_) (fun c_9 => ?_)
    · replace c_9 := cI_le (a := n) (b := k) rfl rfl (by omega) (by omega) c_9
      refine x_iload_n (pc := 34) K 1 dX5_manyOver_34 rfl rfl ?_
      exact ret (pc := 35) dX5_manyOver_35 (⟨by rw [show n = k by omega], rfl, rfl⟩) rfl
    · replace c_9 := cI_nle (a := n) (b := k) rfl rfl (by omega) (by omega) c_9
      refine x_iload_n (pc := 12) K 1 dX5_manyOver_12 rfl rfl ?_
      refine x_aload_n (pc := 13) K 2 dX5_manyOver_13 rfl rfl ?_
      refine x_iload_n (pc := 14) K 0 dX5_manyOver_14 rfl rfl ?_
      refine x_calliV (pc := 15) (st := [_]) (n := 1) K (by decide) sh_8 rfl (c_X5_isOver l G _ _ k (hA k (by omega))) gX5_manyOver_X5_isOver (by decide +kernel) rfl (by decide) (by decide) rfl rfl (Nat.le_of_ble_eq_true rfl) dX5_manyOver_15 (fun r_15 I_15 J_15 hp_15 => ?_)
      obtain ⟨rfl, rfl, rfl⟩ := hp_15
      refine x_if_eq (pc := 18) (tgt := 25) K dX5_manyOver_18 (by decide) (fun c_18 => ?_) (fun c_18 => ?_)
      · replace c_18 := bz_0.mp c_18
        refine x_iconst (pc := 25) (v := 0) K dX5_manyOver_25 (by decide) ?_
        refine x_iadd (pc := 26) K dX5_manyOver_26 ?_
        refine x_istore_n (pc := 27) (lo' := [(1, _), (2, _), (0, _)]) K dX5_manyOver_27 rfl (by decide) rfl ?_
        refine x_iinc (pc := 28) (q0 := 1) (v := nI (k + 1)) (lo' := [(2, _), (1, _), (0, _)]) K dX5_manyOver_28 rfl (nI_incE rfl) (by decide) rfl ?_
        refine x_goto (pc := 31) (tgt := 4) K dX5_manyOver_31 (by decide) ?_
        refine x_lo (lo' := [(2, _), (1, _), (0, _)]) [0, 1, 2] rfl ?_
        exact x_loe (by simp [sumI, c_18]) (ih (by omega))
      · replace c_18 := bz_n0.mp c_18
        refine x_iconst (pc := 21) (v := 1) K dX5_manyOver_21 (by decide) ?_
        refine x_goto (pc := 22) (tgt := 26) K dX5_manyOver_22 (by decide) ?_
        refine x_iadd (pc := 26) K dX5_manyOver_26 ?_
        refine x_istore_n (pc := 27) (lo' := [(1, _), (2, _), (0, _)]) K dX5_manyOver_27 rfl (by decide) rfl ?_
        refine x_iinc (pc := 28) (q0 := 1) (v := nI (k + 1)) (lo' := [(2, _), (1, _), (0, _)]) K dX5_manyOver_28 rfl (nI_incE rfl) (by decide) rfl ?_
        refine x_goto (pc := 31) (tgt := 4) K dX5_manyOver_31 (by decide) ?_
        refine x_lo (lo' := [(2, _), (1, _), (0, _)]) [0, 1, 2] rfl ?_
        exact x_loe (by simp [sumI, c_18]) (ih (by omega))
  refine x_iconst (pc := 0) (v := 0) K dX5_manyOver_0 (by decide) ?_
  refine x_istore_n (pc := 1) (lo' := [(1, _), (0, _)]) K dX5_manyOver_1 rfl (by decide) rfl ?_
  refine x_iconst (pc := 2) (v := 0) K dX5_manyOver_2 (by decide) ?_
  refine x_istore_n (pc := 3) (lo' := [(2, _), (1, _), (0, _)]) K dX5_manyOver_3 rfl (by decide) rfl ?_
  refine x_lo (lo' := [(2, _), (1, _), (0, _)]) [0, 1, 2] rfl ?_
  exact x_loe (by rfl) (loop 0 (Nat.zero_le _))

set_option maxHeartbeats 1000000 in
set_option maxRecDepth 100000 in
theorem c_X5_manyFlat (l : Launch) (G : hQ) (I : hI) (J : hJ) (n : Nat) (hn : I 8 1 = nI n) (h10 : n ≤ 10) (hA : ∀ t, t < n → TOk I t) : h_Mi l yX5_manyFlat wsX5_manyFlat 4 95 G [rr G 8] I J (fun ρ I' J' => sumI (fun t => if fl I t then 1 else 0) n = ρ ∧ I = I' ∧ J = J') := by
  refine h_Mi.of (ty := .int) (cc := cX5_manyFlat) (maxL := 3) [(0, rr G 8)] (by decide +kernel) rfl (Nat.le_of_ble_eq_true rfl) rfl ?_
  intro Γ K ret
  have i_X5 : ∀ w ∈ u_ws RX5 TX5 3, w ∈ wsX5_manyFlat := by decide +kernel
  have loop : ∀ k, k ≤ n → h_WW Γ G 4 [(2, .int (nI k)), (1, .int (sumI (fun t => if fl I t then 1 else 0) k)), (0, rr G 8)] [] I J := by
    refine loopU n (fun k hk ih => ?_)
    refine x_iload_n (pc := 4) K 0 dX5_manyFlat_4 rfl rfl ?_
    refine x_aload_n (pc := 5) K 2 dX5_manyFlat_5 rfl rfl ?_
    refine x_geti (pc := 6) (index := 9) (C := RX5) (T := TX5) (N := 3) (j0 := 1) (ref := "OldMap$Triangles") K (by decide) sh_8 rfl i_X5 (by decide) (by decide +kernel) rfl rfl dX5_manyFlat_6 ?_
    refine x_topie (nI n) hn ?_
    refine x_icmp_ge (pc := 9) (tgt := 34) K dX5_manyFlat_9 (by decide) (fun c_9 => ?_) (fun c_9 => ?_)
    · replace c_9 := cI_le (a := n) (b := k) rfl rfl (by omega) (by omega) c_9
      refine x_iload_n (pc := 34) K 1 dX5_manyFlat_34 rfl rfl ?_
      exact ret (pc := 35) dX5_manyFlat_35 (⟨by rw [show n = k by omega], rfl, rfl⟩) rfl
    · replace c_9 := cI_nle (a := n) (b := k) rfl rfl (by omega) (by omega) c_9
      refine x_iload_n (pc := 12) K 1 dX5_manyFlat_12 rfl rfl ?_
      refine x_aload_n (pc := 13) K 2 dX5_manyFlat_13 rfl rfl ?_
      refine x_iload_n (pc := 14) K 0 dX5_manyFlat_14 rfl rfl ?_
      refine x_calliV (pc := 15) (st := [_]) (n := 1) K (by decide) sh_8 rfl (c_X5_isFlat l G _ _ k (hA k (by omega))) gX5_manyFlat_X5_isFlat (by decide +kernel) rfl (by decide) (by decide) rfl rfl (Nat.le_of_ble_eq_true rfl) dX5_manyFlat_15 (fun r_15 I_15 J_15 hp_15 => ?_)
      obtain ⟨rfl, rfl, rfl⟩ := hp_15
      refine x_if_eq (pc := 18) (tgt := 25) K dX5_manyFlat_18 (by decide) (fun c_18 => ?_) (fun c_18 => ?_)
      · replace c_18 := bz_0.mp c_18
        refine x_iconst (pc := 25) (v := 0) K dX5_manyFlat_25 (by decide) ?_
        refine x_iadd (pc := 26) K dX5_manyFlat_26 ?_
        refine x_istore_n (pc := 27) (lo' := [(1, _), (2, _), (0, _)]) K dX5_manyFlat_27 rfl (by decide) rfl ?_
        refine x_iinc (pc := 28) (q0 := 1) (v := nI (k + 1)) (lo' := [(2, _), (1, _), (0, _)]) K dX5_manyFlat_28 rfl (nI_incE rfl) (by decide) rfl ?_
        refine x_goto (pc := 31) (tgt := 4) K dX5_manyFlat_31 (by decide) ?_
        refine x_lo (lo' := [(2, _), (1, _), (0, _)]) [0, 1, 2] rfl ?_
        exact x_loe (by simp [sumI, c_18]) (ih (by omega))
      · replace c_18 := bz_n0.mp c_18
        refine x_iconst (pc := 21) (v := 1) K dX5_manyFlat_21 (by decide) ?_
        refine x_goto (pc := 22) (tgt := 26) K dX5_manyFlat_22 (by decide) ?_
        refine x_iadd (pc := 26) K dX5_manyFlat_26 ?_
        refine x_istore_n (pc := 27) (lo' := [(1, _), (2, _), (0, _)]) K dX5_manyFlat_27 rfl (by decide) rfl ?_
        refine x_iinc (pc := 28) (q0 := 1) (v := nI (k + 1)) (lo' := [(2, _), (1, _), (0, _)]) K dX5_manyFlat_28 rfl (nI_incE rfl) (by decide) rfl ?_
        refine x_goto (pc := 31) (tgt := 4) K dX5_manyFlat_31 (by decide) ?_
        refine x_lo (lo' := [(2, _), (1, _), (0, _)]) [0, 1, 2] rfl ?_
        exact x_loe (by simp [sumI, c_18]) (ih (by omega))
  refine x_iconst (pc := 0) (v := 0) K dX5_manyFlat_0 (by decide) ?_
  refine x_istore_n (pc := 1) (lo' := [(1, _), (0, _)]) K dX5_manyFlat_1 rfl (by decide) rfl ?_
  refine x_iconst (pc := 2) (v := 0) K dX5_manyFlat_2 (by decide) ?_
  refine x_istore_n (pc := 3) (lo' := [(2, _), (1, _), (0, _)]) K dX5_manyFlat_3 rfl (by decide) rfl ?_
  refine x_lo (lo' := [(2, _), (1, _), (0, _)]) [0, 1, 2] rfl ?_
  exact x_loe (by rfl) (loop 0 (Nat.zero_le _))

set_option maxHeartbeats 1000000 in
set_option maxRecDepth 100000 in
theorem c_X5_manyOverlaps (l : Launch) (G : hQ) (I : hI) (J : hJ) (mp : Nat) (hm : mp < 2) (n : Nat) (hn : I 8 1 = nI n) (h10 : n ≤ 10) (hA : ∀ t, t < n → TOk I t) : h_Mi l yX5_manyOverlaps wsX5_manyOverlaps 5 136 G [rr G 8, .int (nI mp)] I J (fun ρ I' J' => sumI (fun t => sumI (fun d => if ¬ fl I t ∧ ¬ fl I (t + 1 + d) ∧ ovl I t (t + 1 + d) mp then 1 else 0) (n - (t + 1))) n = ρ ∧ I = I' ∧ J = J') := by
  refine h_Mi.of (ty := .int) (cc := cX5_manyOverlaps) (maxL := 5) [(0, rr G 8), (1, .int (nI mp))] (by decide +kernel) rfl (Nat.le_of_ble_eq_true rfl) rfl ?_
  intro Γ K ret
  have i_X5 : ∀ w ∈ u_ws RX5 TX5 3, w ∈ wsX5_manyOverlaps := by decide +kernel
  have loop : ∀ t, t ≤ n → h_WW Γ G 4 [(3, .int (nI t)), (2, .int (sumI (fun t => sumI (fun d => if ¬ fl I t ∧ ¬ fl I (t + 1 + d) ∧ ovl I t (t + 1 + d) mp then 1 else 0) (n - (t + 1))) t)), (0, rr G 8), (1, .int (nI mp))] [] I J := by
    refine loopU n (fun t hk ih => ?_)
    refine x_iload_n (pc := 4) K 0 dX5_manyOverlaps_4 rfl rfl ?_
    refine x_aload_n (pc := 5) K 2 dX5_manyOverlaps_5 rfl rfl ?_
    refine x_geti (pc := 6) (index := 9) (C := RX5) (T := TX5) (N := 3) (j0 := 1) (ref := "OldMap$Triangles") K (by decide) sh_8 rfl i_X5 (by decide) (by decide +kernel) rfl rfl dX5_manyOverlaps_6 ?_
    refine x_topie (nI n) hn ?_
    refine x_icmp_ge (pc := 9) (tgt := 74) K dX5_manyOverlaps_9 (by decide) (fun c_9 => ?_) (fun c_9 => ?_)
    · replace c_9 := cI_le (a := n) (b := t) rfl rfl (by omega) (by omega) c_9
      refine x_iload_n (pc := 74) K 1 dX5_manyOverlaps_74 rfl rfl ?_
      exact ret (pc := 75) dX5_manyOverlaps_75 (⟨by rw [show n = t by omega], rfl, rfl⟩) rfl
    · replace c_9 := cI_nle (a := n) (b := t) rfl rfl (by omega) (by omega) c_9
      have post : h_WW Γ G 68 [(4, .int (nI (t + 1 + (n - (t + 1))))), (2, .int (sumI (fun t => sumI (fun d => if ¬ fl I t ∧ ¬ fl I (t + 1 + d) ∧ ovl I t (t + 1 + d) mp then 1 else 0) (n - (t + 1))) t + sumI (fun d => if ¬ fl I t ∧ ¬ fl I (t + 1 + d) ∧ ovl I t (t + 1 + d) mp then 1 else 0) (n - (t + 1)))), (3, .int (nI t)), (0, rr G 8), (1, .int (nI mp))] [] I J := by
        refine x_iinc (pc := 68) (q0 := 2) (v := nI (t + 1)) (lo' := [(3, _), (4, _), (2, _), (0, _), (1, _)]) K dX5_manyOverlaps_68 rfl (nI_incE rfl) (by decide) rfl ?_
        refine x_goto (pc := 71) (tgt := 4) K dX5_manyOverlaps_71 (by decide) ?_
        refine x_lo (lo' := [(3, _), (2, _), (0, _), (1, _)]) [0, 2, 3, 4] rfl ?_
        exact x_loe (by simp [sumI]) (ih (by omega))
      have inner : ∀ d, d ≤ (n - (t + 1)) → h_WW Γ G 17 [(4, .int (nI (t + 1 + d))), (2, .int (sumI (fun t => sumI (fun d => if ¬ fl I t ∧ ¬ fl I (t + 1 + d) ∧ ovl I t (t + 1 + d) mp then 1 else 0) (n - (t + 1))) t + sumI (fun d => if ¬ fl I t ∧ ¬ fl I (t + 1 + d) ∧ ovl I t (t + 1 + d) mp then 1 else 0) d)), (3, .int (nI t)), (0, rr G 8), (1, .int (nI mp))] [] I J := by
        refine loopU (n - (t + 1)) (fun d hk ih => ?_)
        refine x_iload (pc := 17) K 0 dX5_manyOverlaps_17 rfl ?_
        refine x_aload_n (pc := 19) K 3 dX5_manyOverlaps_19 rfl rfl ?_
        refine x_geti (pc := 20) (index := 9) (C := RX5) (T := TX5) (N := 3) (j0 := 1) (ref := "OldMap$Triangles") K (by decide) sh_8 rfl i_X5 (by decide) (by decide +kernel) rfl rfl dX5_manyOverlaps_20 ?_
        refine x_topie (nI n) hn ?_
        refine x_icmp_ge (pc := 23) (tgt := 68) K dX5_manyOverlaps_23 (by decide) (fun c_23 => ?_) (fun c_23 => ?_)
        · replace c_23 := cI_le (a := n) (b := (t + 1 + d)) rfl rfl (by omega) (by omega) c_23
          have hd : d = n - (t + 1) := by omega
          subst hd
          exact post
        · replace c_23 := cI_nle (a := n) (b := (t + 1 + d)) rfl rfl (by omega) (by omega) c_23
          refine x_iload_n (pc := 26) K 1 dX5_manyOverlaps_26 rfl rfl ?_
          refine x_aload_n (pc := 27) K 3 dX5_manyOverlaps_27 rfl rfl ?_
          refine x_iload_n (pc := 28) K 2 dX5_manyOverlaps_28 rfl rfl ?_
          refine x_calliV (pc := 29) (st := [_]) (n := 1) K (by decide) sh_8 rfl (c_X5_isFlat l G _ _ t (hA t (by omega))) gX5_manyOverlaps_X5_isFlat (by decide +kernel) rfl (by decide) (by decide) rfl rfl (Nat.le_of_ble_eq_true rfl) dX5_manyOverlaps_29 (fun r_29 I_29 J_29 hp_29 => ?_)
          obtain ⟨rfl, rfl, rfl⟩ := hp_29
          refine x_if_ne (pc := 32) (tgt := 59) K dX5_manyOverlaps_32 (by decide) (fun c_32 => ?_) (fun c_32 => ?_)
          · replace c_32 := bz_n0.mp c_32
            refine x_iconst (pc := 59) (v := 0) K dX5_manyOverlaps_59 (by decide) ?_
            refine x_iadd (pc := 60) K dX5_manyOverlaps_60 ?_
            refine x_istore_n (pc := 61) (lo' := [(2, _), (4, _), (3, _), (0, _), (1, _)]) K dX5_manyOverlaps_61 rfl (by decide) rfl ?_
            refine x_iinc (pc := 62) (q0 := 1) (v := nI ((t + 1 + d) + 1)) (lo' := [(4, _), (2, _), (3, _), (0, _), (1, _)]) K dX5_manyOverlaps_62 rfl (nI_incE rfl) (by decide) rfl ?_
            refine x_goto (pc := 65) (tgt := 17) K dX5_manyOverlaps_65 (by decide) ?_
            refine x_lo (lo' := [(4, _), (2, _), (3, _), (0, _), (1, _)]) [0, 1, 2, 3, 4] rfl ?_
            exact x_loe (by simp only [sumI]; rw [if_neg (fun h => h.1 c_32), Int32.add_assoc]; rfl) (ih (by omega))
          · replace c_32 := bz_0.mp c_32
            refine x_aload_n (pc := 35) K 3 dX5_manyOverlaps_35 rfl rfl ?_
            refine x_iload (pc := 36) K 0 dX5_manyOverlaps_36 rfl ?_
            refine x_calliV (pc := 38) (st := [_]) (n := 1) K (by decide) sh_8 rfl (c_X5_isFlat l G _ _ (t + 1 + d) (hA (t + 1 + d) (by omega))) gX5_manyOverlaps_X5_isFlat (by decide +kernel) rfl (by decide) (by decide) rfl rfl (Nat.le_of_ble_eq_true rfl) dX5_manyOverlaps_38 (fun r_38 I_38 J_38 hp_38 => ?_)
            obtain ⟨rfl, rfl, rfl⟩ := hp_38
            refine x_if_ne (pc := 41) (tgt := 59) K dX5_manyOverlaps_41 (by decide) (fun c_41 => ?_) (fun c_41 => ?_)
            · replace c_41 := bz_n0.mp c_41
              refine x_iconst (pc := 59) (v := 0) K dX5_manyOverlaps_59 (by decide) ?_
              refine x_iadd (pc := 60) K dX5_manyOverlaps_60 ?_
              refine x_istore_n (pc := 61) (lo' := [(2, _), (4, _), (3, _), (0, _), (1, _)]) K dX5_manyOverlaps_61 rfl (by decide) rfl ?_
              refine x_iinc (pc := 62) (q0 := 1) (v := nI ((t + 1 + d) + 1)) (lo' := [(4, _), (2, _), (3, _), (0, _), (1, _)]) K dX5_manyOverlaps_62 rfl (nI_incE rfl) (by decide) rfl ?_
              refine x_goto (pc := 65) (tgt := 17) K dX5_manyOverlaps_65 (by decide) ?_
              refine x_lo (lo' := [(4, _), (2, _), (3, _), (0, _), (1, _)]) [0, 1, 2, 3, 4] rfl ?_
              exact x_loe (by simp only [sumI]; rw [if_neg (fun h => h.2.1 c_41), Int32.add_assoc]; rfl) (ih (by omega))
            · replace c_41 := bz_0.mp c_41
              refine x_aload_n (pc := 44) K 3 dX5_manyOverlaps_44 rfl rfl ?_
              refine x_iload_n (pc := 45) K 2 dX5_manyOverlaps_45 rfl rfl ?_
              refine x_iload (pc := 46) K 0 dX5_manyOverlaps_46 rfl ?_
              refine x_iload_n (pc := 48) K 4 dX5_manyOverlaps_48 rfl rfl ?_
              refine x_calliV (pc := 49) (st := [_]) (n := 3) K (by decide) sh_8 rfl (c_X5_overlap l G _ _ t (t + 1 + d) mp (hA t (by omega)) (hA (t + 1 + d) (by omega)) (by omega)) gX5_manyOverlaps_X5_overlap (by decide +kernel) rfl (by decide) (by decide) rfl rfl (Nat.le_of_ble_eq_true rfl) dX5_manyOverlaps_49 (fun r_49 I_49 J_49 hp_49 => ?_)
              obtain ⟨rfl, rfl, rfl⟩ := hp_49
              refine x_if_eq (pc := 52) (tgt := 59) K dX5_manyOverlaps_52 (by decide) (fun c_52 => ?_) (fun c_52 => ?_)
              · replace c_52 := bz_0.mp c_52
                refine x_iconst (pc := 59) (v := 0) K dX5_manyOverlaps_59 (by decide) ?_
                refine x_iadd (pc := 60) K dX5_manyOverlaps_60 ?_
                refine x_istore_n (pc := 61) (lo' := [(2, _), (4, _), (3, _), (0, _), (1, _)]) K dX5_manyOverlaps_61 rfl (by decide) rfl ?_
                refine x_iinc (pc := 62) (q0 := 1) (v := nI ((t + 1 + d) + 1)) (lo' := [(4, _), (2, _), (3, _), (0, _), (1, _)]) K dX5_manyOverlaps_62 rfl (nI_incE rfl) (by decide) rfl ?_
                refine x_goto (pc := 65) (tgt := 17) K dX5_manyOverlaps_65 (by decide) ?_
                refine x_lo (lo' := [(4, _), (2, _), (3, _), (0, _), (1, _)]) [0, 1, 2, 3, 4] rfl ?_
                exact x_loe (by simp only [sumI]; rw [if_neg (fun h => c_52 h.2.2), Int32.add_assoc]; rfl) (ih (by omega))
              · replace c_52 := bz_n0.mp c_52
                refine x_iconst (pc := 55) (v := 1) K dX5_manyOverlaps_55 (by decide) ?_
                refine x_goto (pc := 56) (tgt := 60) K dX5_manyOverlaps_56 (by decide) ?_
                refine x_iadd (pc := 60) K dX5_manyOverlaps_60 ?_
                refine x_istore_n (pc := 61) (lo' := [(2, _), (4, _), (3, _), (0, _), (1, _)]) K dX5_manyOverlaps_61 rfl (by decide) rfl ?_
                refine x_iinc (pc := 62) (q0 := 1) (v := nI ((t + 1 + d) + 1)) (lo' := [(4, _), (2, _), (3, _), (0, _), (1, _)]) K dX5_manyOverlaps_62 rfl (nI_incE rfl) (by decide) rfl ?_
                refine x_goto (pc := 65) (tgt := 17) K dX5_manyOverlaps_65 (by decide) ?_
                refine x_lo (lo' := [(4, _), (2, _), (3, _), (0, _), (1, _)]) [0, 1, 2, 3, 4] rfl ?_
                exact x_loe (by simp only [sumI]; rw [if_pos (And.intro c_32 (And.intro c_41 c_52)), Int32.add_assoc]; rfl) (ih (by omega))
      refine x_iload_n (pc := 12) K 0 dX5_manyOverlaps_12 rfl rfl ?_
      refine x_iconst (pc := 13) (v := 1) K dX5_manyOverlaps_13 (by decide) ?_
      refine x_iadd (pc := 14) K dX5_manyOverlaps_14 ?_
      refine x_istore (pc := 15) (lo' := [(4, _), (3, _), (2, _), (0, _), (1, _)]) K dX5_manyOverlaps_15 (by decide) rfl ?_
      refine x_lo (lo' := [(4, _), (2, _), (3, _), (0, _), (1, _)]) [0, 2, 1, 3, 4] rfl ?_
      exact x_loe (by simp [sumI, nI_1]) (inner 0 (Nat.zero_le _))
  refine x_iconst (pc := 0) (v := 0) K dX5_manyOverlaps_0 (by decide) ?_
  refine x_istore_n (pc := 1) (lo' := [(2, _), (0, _), (1, _)]) K dX5_manyOverlaps_1 rfl (by decide) rfl ?_
  refine x_iconst (pc := 2) (v := 0) K dX5_manyOverlaps_2 (by decide) ?_
  refine x_istore_n (pc := 3) (lo' := [(3, _), (2, _), (0, _), (1, _)]) K dX5_manyOverlaps_3 rfl (by decide) rfl ?_
  refine x_lo (lo' := [(3, _), (2, _), (0, _), (1, _)]) [0, 1, 2, 3] rfl ?_
  exact x_loe (by rfl) (loop 0 (Nat.zero_le _))

set_option maxHeartbeats 1000000 in
set_option maxRecDepth 100000 in
theorem c_X5_copyFrom0 (l : Launch) (G : hQ) (I : hI) (J : hJ) : h_Mv l yX5_copyFrom wsX5_copyFrom 1 20 G [rr G 8, rr G 35] I J (fun I' J' => cpTr0 I = I' ∧ J = J') := by
  refine h_Mv.of (cc := cX5_copyFrom) (maxL := 3) [(0, rr G 8), (1, rr G 35)] (by decide +kernel) rfl (Nat.le_of_ble_eq_true rfl) rfl ?_
  intro Γ K ret
  have i_X5 : ∀ w ∈ u_ws RX5 TX5 3, w ∈ wsX5_copyFrom := by decide +kernel
  refine x_aload_n (pc := 0) K 0 dX5_copyFrom_0 rfl rfl ?_
  refine x_aload_n (pc := 1) K 1 dX5_copyFrom_1 rfl rfl ?_
  refine x_geti (pc := 2) (index := 9) (C := RX5) (T := TX5) (N := 3) (j0 := 1) (ref := "OldMap$Triangles") K (by decide) sh_35 rfl i_X5 (by decide) (by decide +kernel) rfl rfl dX5_copyFrom_2 ?_
  refine x_puti (ty := .int) (pc := 5) (index := 9) (C := RX5) (T := TX5) (N := 3) (j0 := 1) (ref := "OldMap$Triangles") K (by decide) sh_8 rfl i_X5 (by decide) (by decide +kernel) rfl tyX5 tyX5_ok nmX5 rfl (by decide +kernel) rfl rfl rfl dX5_copyFrom_5 ?_
  refine x_iconst (pc := 8) (v := 0) K dX5_copyFrom_8 (by decide) ?_
  refine x_istore_n (pc := 9) (lo' := [(2, _), (0, _), (1, _)]) K dX5_copyFrom_9 rfl (by decide) rfl ?_
  refine x_iload_n (pc := 10) K 0 dX5_copyFrom_10 rfl rfl ?_
  refine x_bipush (pc := 11) (v := 10) K dX5_copyFrom_11 (by decide) ?_
  refine x_icmp_ge (pc := 13) (tgt := 40) K dX5_copyFrom_13 (by decide) (fun c_13 => ?_) (fun c_13 => ?_)
  · replace c_13 := cI_le (a := 10) (b := 0) rfl rfl (by omega) (by omega) c_13
    omega
  · replace c_13 := cI_nle (a := 10) (b := 0) rfl rfl (by omega) (by omega) c_13
    refine x_aload_n (pc := 16) K 2 dX5_copyFrom_16 rfl rfl ?_
    refine x_getr (r0 := 36) (pc := 17) (index := 17) (C := RX5) (T := TX5) (N := 3) (j0 := 2) (ref := "OldMap$Triangles") K (by decide) sh_35 rfl i_X5 (by decide) (by decide +kernel) rfl rfl rf_35_2 dX5_copyFrom_17 ?_
    refine x_iload_n (pc := 20) K 0 dX5_copyFrom_20 rfl rfl ?_
    refine y_aald (r0 := (37 + 0)) (j := 0) (pc := 21) K (by decide) sh_36 rfl (by omega) (by decide) (rf_36 _) dX5_copyFrom_21 ?_
    refine x_iconst (pc := 22) (v := 0) K dX5_copyFrom_22 (by decide) ?_
    refine x_aload_n (pc := 23) K 1 dX5_copyFrom_23 rfl rfl ?_
    refine x_getr (r0 := 9) (pc := 24) (index := 17) (C := RX5) (T := TX5) (N := 3) (j0 := 2) (ref := "OldMap$Triangles") K (by decide) sh_8 rfl i_X5 (by decide) (by decide +kernel) rfl rfl rf_8_2 dX5_copyFrom_24 ?_
    refine x_iload_n (pc := 27) K 0 dX5_copyFrom_27 rfl rfl ?_
    refine y_aald (r0 := (10 + 0)) (j := 0) (pc := 28) K (by decide) sh_9 rfl (by omega) (by decide) (rf_9 _) dX5_copyFrom_28 ?_
    refine x_iconst (pc := 29) (v := 0) K dX5_copyFrom_29 (by decide) ?_
    refine x_iconst (pc := 30) (v := 3) K dX5_copyFrom_30 (by decide) ?_
    refine y_copy (n := 3) (pc := 31) K (shk_cork (show 0 < 10 by omega)) (shr_cork _ (show 0 < 10 by omega)) (shk_cor (show 0 < 10 by omega)) (shr_cor _ (show 0 < 10 by omega)) rfl rfl rfl (by decide) (by decide) (by decide) (by decide +kernel) (by decide +kernel) (by decide +kernel) (by decide +kernel) (by decide) (Nat.le_of_ble_eq_true rfl) dX5_copyFrom_31 ?_
    refine x_iinc (pc := 34) (q0 := 0) (v := nI (0 + 1)) (lo' := [(2, _), (0, _), (1, _)]) K dX5_copyFrom_34 rfl (nI_incE rfl) (by decide) rfl ?_
    refine x_goto (pc := 37) (tgt := 10) K dX5_copyFrom_37 (by decide) ?_
    refine x_iload_n (pc := 10) K 0 dX5_copyFrom_10 rfl rfl ?_
    refine x_bipush (pc := 11) (v := 10) K dX5_copyFrom_11 (by decide) ?_
    refine x_icmp_ge (pc := 13) (tgt := 40) K dX5_copyFrom_13 (by decide) (fun c_13_1 => ?_) (fun c_13_1 => ?_)
    · replace c_13_1 := cI_le (a := 10) (b := (0 + 1)) rfl rfl (by omega) (by omega) c_13_1
      omega
    · replace c_13_1 := cI_nle (a := 10) (b := (0 + 1)) rfl rfl (by omega) (by omega) c_13_1
      refine x_aload_n (pc := 16) K 2 dX5_copyFrom_16 rfl rfl ?_
      refine x_getr (r0 := 36) (pc := 17) (index := 17) (C := RX5) (T := TX5) (N := 3) (j0 := 2) (ref := "OldMap$Triangles") K (by decide) sh_35 rfl i_X5 (by decide) (by decide +kernel) rfl rfl rf_35_2 dX5_copyFrom_17 ?_
      refine x_iload_n (pc := 20) K 0 dX5_copyFrom_20 rfl rfl ?_
      refine y_aald (r0 := (37 + (0 + 1))) (j := (0 + 1)) (pc := 21) K (by decide) sh_36 rfl (by omega) (by decide) (rf_36 _) dX5_copyFrom_21 ?_
      refine x_iconst (pc := 22) (v := 0) K dX5_copyFrom_22 (by decide) ?_
      refine x_aload_n (pc := 23) K 1 dX5_copyFrom_23 rfl rfl ?_
      refine x_getr (r0 := 9) (pc := 24) (index := 17) (C := RX5) (T := TX5) (N := 3) (j0 := 2) (ref := "OldMap$Triangles") K (by decide) sh_8 rfl i_X5 (by decide) (by decide +kernel) rfl rfl rf_8_2 dX5_copyFrom_24 ?_
      refine x_iload_n (pc := 27) K 0 dX5_copyFrom_27 rfl rfl ?_
      refine y_aald (r0 := (10 + (0 + 1))) (j := (0 + 1)) (pc := 28) K (by decide) sh_9 rfl (by omega) (by decide) (rf_9 _) dX5_copyFrom_28 ?_
      refine x_iconst (pc := 29) (v := 0) K dX5_copyFrom_29 (by decide) ?_
      refine x_iconst (pc := 30) (v := 3) K dX5_copyFrom_30 (by decide) ?_
      refine y_copy (n := 3) (pc := 31) K (shk_cork (show (0 + 1) < 10 by omega)) (shr_cork _ (show (0 + 1) < 10 by omega)) (shk_cor (show (0 + 1) < 10 by omega)) (shr_cor _ (show (0 + 1) < 10 by omega)) rfl rfl rfl (by decide) (by decide) (by decide) (by decide +kernel) (by decide +kernel) (by decide +kernel) (by decide +kernel) (by decide) (Nat.le_of_ble_eq_true rfl) dX5_copyFrom_31 ?_
      refine x_iinc (pc := 34) (q0 := 0) (v := nI ((0 + 1) + 1)) (lo' := [(2, _), (0, _), (1, _)]) K dX5_copyFrom_34 rfl (nI_incE rfl) (by decide) rfl ?_
      refine x_goto (pc := 37) (tgt := 10) K dX5_copyFrom_37 (by decide) ?_
      refine x_iload_n (pc := 10) K 0 dX5_copyFrom_10 rfl rfl ?_
      refine x_bipush (pc := 11) (v := 10) K dX5_copyFrom_11 (by decide) ?_
      refine x_icmp_ge (pc := 13) (tgt := 40) K dX5_copyFrom_13 (by decide) (fun c_13_2 => ?_) (fun c_13_2 => ?_)
      · replace c_13_2 := cI_le (a := 10) (b := ((0 + 1) + 1)) rfl rfl (by omega) (by omega) c_13_2
        omega
      · replace c_13_2 := cI_nle (a := 10) (b := ((0 + 1) + 1)) rfl rfl (by omega) (by omega) c_13_2
        refine x_aload_n (pc := 16) K 2 dX5_copyFrom_16 rfl rfl ?_
        refine x_getr (r0 := 36) (pc := 17) (index := 17) (C := RX5) (T := TX5) (N := 3) (j0 := 2) (ref := "OldMap$Triangles") K (by decide) sh_35 rfl i_X5 (by decide) (by decide +kernel) rfl rfl rf_35_2 dX5_copyFrom_17 ?_
        refine x_iload_n (pc := 20) K 0 dX5_copyFrom_20 rfl rfl ?_
        refine y_aald (r0 := (37 + ((0 + 1) + 1))) (j := ((0 + 1) + 1)) (pc := 21) K (by decide) sh_36 rfl (by omega) (by decide) (rf_36 _) dX5_copyFrom_21 ?_
        refine x_iconst (pc := 22) (v := 0) K dX5_copyFrom_22 (by decide) ?_
        refine x_aload_n (pc := 23) K 1 dX5_copyFrom_23 rfl rfl ?_
        refine x_getr (r0 := 9) (pc := 24) (index := 17) (C := RX5) (T := TX5) (N := 3) (j0 := 2) (ref := "OldMap$Triangles") K (by decide) sh_8 rfl i_X5 (by decide) (by decide +kernel) rfl rfl rf_8_2 dX5_copyFrom_24 ?_
        refine x_iload_n (pc := 27) K 0 dX5_copyFrom_27 rfl rfl ?_
        refine y_aald (r0 := (10 + ((0 + 1) + 1))) (j := ((0 + 1) + 1)) (pc := 28) K (by decide) sh_9 rfl (by omega) (by decide) (rf_9 _) dX5_copyFrom_28 ?_
        refine x_iconst (pc := 29) (v := 0) K dX5_copyFrom_29 (by decide) ?_
        refine x_iconst (pc := 30) (v := 3) K dX5_copyFrom_30 (by decide) ?_
        refine y_copy (n := 3) (pc := 31) K (shk_cork (show ((0 + 1) + 1) < 10 by omega)) (shr_cork _ (show ((0 + 1) + 1) < 10 by omega)) (shk_cor (show ((0 + 1) + 1) < 10 by omega)) (shr_cor _ (show ((0 + 1) + 1) < 10 by omega)) rfl rfl rfl (by decide) (by decide) (by decide) (by decide +kernel) (by decide +kernel) (by decide +kernel) (by decide +kernel) (by decide) (Nat.le_of_ble_eq_true rfl) dX5_copyFrom_31 ?_
        refine x_iinc (pc := 34) (q0 := 0) (v := nI (((0 + 1) + 1) + 1)) (lo' := [(2, _), (0, _), (1, _)]) K dX5_copyFrom_34 rfl (nI_incE rfl) (by decide) rfl ?_
        refine x_goto (pc := 37) (tgt := 10) K dX5_copyFrom_37 (by decide) ?_
        refine x_iload_n (pc := 10) K 0 dX5_copyFrom_10 rfl rfl ?_
        refine x_bipush (pc := 11) (v := 10) K dX5_copyFrom_11 (by decide) ?_
        refine x_icmp_ge (pc := 13) (tgt := 40) K dX5_copyFrom_13 (by decide) (fun c_13_3 => ?_) (fun c_13_3 => ?_)
        · replace c_13_3 := cI_le (a := 10) (b := (((0 + 1) + 1) + 1)) rfl rfl (by omega) (by omega) c_13_3
          omega
        · replace c_13_3 := cI_nle (a := 10) (b := (((0 + 1) + 1) + 1)) rfl rfl (by omega) (by omega) c_13_3
          refine x_aload_n (pc := 16) K 2 dX5_copyFrom_16 rfl rfl ?_
          refine x_getr (r0 := 36) (pc := 17) (index := 17) (C := RX5) (T := TX5) (N := 3) (j0 := 2) (ref := "OldMap$Triangles") K (by decide) sh_35 rfl i_X5 (by decide) (by decide +kernel) rfl rfl rf_35_2 dX5_copyFrom_17 ?_
          refine x_iload_n (pc := 20) K 0 dX5_copyFrom_20 rfl rfl ?_
          refine y_aald (r0 := (37 + (((0 + 1) + 1) + 1))) (j := (((0 + 1) + 1) + 1)) (pc := 21) K (by decide) sh_36 rfl (by omega) (by decide) (rf_36 _) dX5_copyFrom_21 ?_
          refine x_iconst (pc := 22) (v := 0) K dX5_copyFrom_22 (by decide) ?_
          refine x_aload_n (pc := 23) K 1 dX5_copyFrom_23 rfl rfl ?_
          refine x_getr (r0 := 9) (pc := 24) (index := 17) (C := RX5) (T := TX5) (N := 3) (j0 := 2) (ref := "OldMap$Triangles") K (by decide) sh_8 rfl i_X5 (by decide) (by decide +kernel) rfl rfl rf_8_2 dX5_copyFrom_24 ?_
          refine x_iload_n (pc := 27) K 0 dX5_copyFrom_27 rfl rfl ?_
          refine y_aald (r0 := (10 + (((0 + 1) + 1) + 1))) (j := (((0 + 1) + 1) + 1)) (pc := 28) K (by decide) sh_9 rfl (by omega) (by decide) (rf_9 _) dX5_copyFrom_28 ?_
          refine x_iconst (pc := 29) (v := 0) K dX5_copyFrom_29 (by decide) ?_
          refine x_iconst (pc := 30) (v := 3) K dX5_copyFrom_30 (by decide) ?_
          refine y_copy (n := 3) (pc := 31) K (shk_cork (show (((0 + 1) + 1) + 1) < 10 by omega)) (shr_cork _ (show (((0 + 1) + 1) + 1) < 10 by omega)) (shk_cor (show (((0 + 1) + 1) + 1) < 10 by omega)) (shr_cor _ (show (((0 + 1) + 1) + 1) < 10 by omega)) rfl rfl rfl (by decide) (by decide) (by decide) (by decide +kernel) (by decide +kernel) (by decide +kernel) (by decide +kernel) (by decide) (Nat.le_of_ble_eq_true rfl) dX5_copyFrom_31 ?_
          refine x_iinc (pc := 34) (q0 := 0) (v := nI ((((0 + 1) + 1) + 1) + 1)) (lo' := [(2, _), (0, _), (1, _)]) K dX5_copyFrom_34 rfl (nI_incE rfl) (by decide) rfl ?_
          refine x_goto (pc := 37) (tgt := 10) K dX5_copyFrom_37 (by decide) ?_
          refine x_iload_n (pc := 10) K 0 dX5_copyFrom_10 rfl rfl ?_
          refine x_bipush (pc := 11) (v := 10) K dX5_copyFrom_11 (by decide) ?_
          refine x_icmp_ge (pc := 13) (tgt := 40) K dX5_copyFrom_13 (by decide) (fun c_13_4 => ?_) (fun c_13_4 => ?_)
          · replace c_13_4 := cI_le (a := 10) (b := ((((0 + 1) + 1) + 1) + 1)) rfl rfl (by omega) (by omega) c_13_4
            omega
          · replace c_13_4 := cI_nle (a := 10) (b := ((((0 + 1) + 1) + 1) + 1)) rfl rfl (by omega) (by omega) c_13_4
            refine x_aload_n (pc := 16) K 2 dX5_copyFrom_16 rfl rfl ?_
            refine x_getr (r0 := 36) (pc := 17) (index := 17) (C := RX5) (T := TX5) (N := 3) (j0 := 2) (ref := "OldMap$Triangles") K (by decide) sh_35 rfl i_X5 (by decide) (by decide +kernel) rfl rfl rf_35_2 dX5_copyFrom_17 ?_
            refine x_iload_n (pc := 20) K 0 dX5_copyFrom_20 rfl rfl ?_
            refine y_aald (r0 := (37 + ((((0 + 1) + 1) + 1) + 1))) (j := ((((0 + 1) + 1) + 1) + 1)) (pc := 21) K (by decide) sh_36 rfl (by omega) (by decide) (rf_36 _) dX5_copyFrom_21 ?_
            refine x_iconst (pc := 22) (v := 0) K dX5_copyFrom_22 (by decide) ?_
            refine x_aload_n (pc := 23) K 1 dX5_copyFrom_23 rfl rfl ?_
            refine x_getr (r0 := 9) (pc := 24) (index := 17) (C := RX5) (T := TX5) (N := 3) (j0 := 2) (ref := "OldMap$Triangles") K (by decide) sh_8 rfl i_X5 (by decide) (by decide +kernel) rfl rfl rf_8_2 dX5_copyFrom_24 ?_
            refine x_iload_n (pc := 27) K 0 dX5_copyFrom_27 rfl rfl ?_
            refine y_aald (r0 := (10 + ((((0 + 1) + 1) + 1) + 1))) (j := ((((0 + 1) + 1) + 1) + 1)) (pc := 28) K (by decide) sh_9 rfl (by omega) (by decide) (rf_9 _) dX5_copyFrom_28 ?_
            refine x_iconst (pc := 29) (v := 0) K dX5_copyFrom_29 (by decide) ?_
            refine x_iconst (pc := 30) (v := 3) K dX5_copyFrom_30 (by decide) ?_
            refine y_copy (n := 3) (pc := 31) K (shk_cork (show ((((0 + 1) + 1) + 1) + 1) < 10 by omega)) (shr_cork _ (show ((((0 + 1) + 1) + 1) + 1) < 10 by omega)) (shk_cor (show ((((0 + 1) + 1) + 1) + 1) < 10 by omega)) (shr_cor _ (show ((((0 + 1) + 1) + 1) + 1) < 10 by omega)) rfl rfl rfl (by decide) (by decide) (by decide) (by decide +kernel) (by decide +kernel) (by decide +kernel) (by decide +kernel) (by decide) (Nat.le_of_ble_eq_true rfl) dX5_copyFrom_31 ?_
            refine x_iinc (pc := 34) (q0 := 0) (v := nI (((((0 + 1) + 1) + 1) + 1) + 1)) (lo' := [(2, _), (0, _), (1, _)]) K dX5_copyFrom_34 rfl (nI_incE rfl) (by decide) rfl ?_
            refine x_goto (pc := 37) (tgt := 10) K dX5_copyFrom_37 (by decide) ?_
            refine x_iload_n (pc := 10) K 0 dX5_copyFrom_10 rfl rfl ?_
            refine x_bipush (pc := 11) (v := 10) K dX5_copyFrom_11 (by decide) ?_
            refine x_icmp_ge (pc := 13) (tgt := 40) K dX5_copyFrom_13 (by decide) (fun c_13_5 => ?_) (fun c_13_5 => ?_)
            · replace c_13_5 := cI_le (a := 10) (b := (((((0 + 1) + 1) + 1) + 1) + 1)) rfl rfl (by omega) (by omega) c_13_5
              omega
            · replace c_13_5 := cI_nle (a := 10) (b := (((((0 + 1) + 1) + 1) + 1) + 1)) rfl rfl (by omega) (by omega) c_13_5
              refine x_aload_n (pc := 16) K 2 dX5_copyFrom_16 rfl rfl ?_
              refine x_getr (r0 := 36) (pc := 17) (index := 17) (C := RX5) (T := TX5) (N := 3) (j0 := 2) (ref := "OldMap$Triangles") K (by decide) sh_35 rfl i_X5 (by decide) (by decide +kernel) rfl rfl rf_35_2 dX5_copyFrom_17 ?_
              refine x_iload_n (pc := 20) K 0 dX5_copyFrom_20 rfl rfl ?_
              refine y_aald (r0 := (37 + (((((0 + 1) + 1) + 1) + 1) + 1))) (j := (((((0 + 1) + 1) + 1) + 1) + 1)) (pc := 21) K (by decide) sh_36 rfl (by omega) (by decide) (rf_36 _) dX5_copyFrom_21 ?_
              refine x_iconst (pc := 22) (v := 0) K dX5_copyFrom_22 (by decide) ?_
              refine x_aload_n (pc := 23) K 1 dX5_copyFrom_23 rfl rfl ?_
              refine x_getr (r0 := 9) (pc := 24) (index := 17) (C := RX5) (T := TX5) (N := 3) (j0 := 2) (ref := "OldMap$Triangles") K (by decide) sh_8 rfl i_X5 (by decide) (by decide +kernel) rfl rfl rf_8_2 dX5_copyFrom_24 ?_
              refine x_iload_n (pc := 27) K 0 dX5_copyFrom_27 rfl rfl ?_
              refine y_aald (r0 := (10 + (((((0 + 1) + 1) + 1) + 1) + 1))) (j := (((((0 + 1) + 1) + 1) + 1) + 1)) (pc := 28) K (by decide) sh_9 rfl (by omega) (by decide) (rf_9 _) dX5_copyFrom_28 ?_
              refine x_iconst (pc := 29) (v := 0) K dX5_copyFrom_29 (by decide) ?_
              refine x_iconst (pc := 30) (v := 3) K dX5_copyFrom_30 (by decide) ?_
              refine y_copy (n := 3) (pc := 31) K (shk_cork (show (((((0 + 1) + 1) + 1) + 1) + 1) < 10 by omega)) (shr_cork _ (show (((((0 + 1) + 1) + 1) + 1) + 1) < 10 by omega)) (shk_cor (show (((((0 + 1) + 1) + 1) + 1) + 1) < 10 by omega)) (shr_cor _ (show (((((0 + 1) + 1) + 1) + 1) + 1) < 10 by omega)) rfl rfl rfl (by decide) (by decide) (by decide) (by decide +kernel) (by decide +kernel) (by decide +kernel) (by decide +kernel) (by decide) (Nat.le_of_ble_eq_true rfl) dX5_copyFrom_31 ?_
              refine x_iinc (pc := 34) (q0 := 0) (v := nI ((((((0 + 1) + 1) + 1) + 1) + 1) + 1)) (lo' := [(2, _), (0, _), (1, _)]) K dX5_copyFrom_34 rfl (nI_incE rfl) (by decide) rfl ?_
              refine x_goto (pc := 37) (tgt := 10) K dX5_copyFrom_37 (by decide) ?_
              refine x_iload_n (pc := 10) K 0 dX5_copyFrom_10 rfl rfl ?_
              refine x_bipush (pc := 11) (v := 10) K dX5_copyFrom_11 (by decide) ?_
              refine x_icmp_ge (pc := 13) (tgt := 40) K dX5_copyFrom_13 (by decide) (fun c_13_6 => ?_) (fun c_13_6 => ?_)
              · replace c_13_6 := cI_le (a := 10) (b := ((((((0 + 1) + 1) + 1) + 1) + 1) + 1)) rfl rfl (by omega) (by omega) c_13_6
                omega
              · replace c_13_6 := cI_nle (a := 10) (b := ((((((0 + 1) + 1) + 1) + 1) + 1) + 1)) rfl rfl (by omega) (by omega) c_13_6
                refine x_aload_n (pc := 16) K 2 dX5_copyFrom_16 rfl rfl ?_
                refine x_getr (r0 := 36) (pc := 17) (index := 17) (C := RX5) (T := TX5) (N := 3) (j0 := 2) (ref := "OldMap$Triangles") K (by decide) sh_35 rfl i_X5 (by decide) (by decide +kernel) rfl rfl rf_35_2 dX5_copyFrom_17 ?_
                refine x_iload_n (pc := 20) K 0 dX5_copyFrom_20 rfl rfl ?_
                refine y_aald (r0 := (37 + ((((((0 + 1) + 1) + 1) + 1) + 1) + 1))) (j := ((((((0 + 1) + 1) + 1) + 1) + 1) + 1)) (pc := 21) K (by decide) sh_36 rfl (by omega) (by decide) (rf_36 _) dX5_copyFrom_21 ?_
                refine x_iconst (pc := 22) (v := 0) K dX5_copyFrom_22 (by decide) ?_
                refine x_aload_n (pc := 23) K 1 dX5_copyFrom_23 rfl rfl ?_
                refine x_getr (r0 := 9) (pc := 24) (index := 17) (C := RX5) (T := TX5) (N := 3) (j0 := 2) (ref := "OldMap$Triangles") K (by decide) sh_8 rfl i_X5 (by decide) (by decide +kernel) rfl rfl rf_8_2 dX5_copyFrom_24 ?_
                refine x_iload_n (pc := 27) K 0 dX5_copyFrom_27 rfl rfl ?_
                refine y_aald (r0 := (10 + ((((((0 + 1) + 1) + 1) + 1) + 1) + 1))) (j := ((((((0 + 1) + 1) + 1) + 1) + 1) + 1)) (pc := 28) K (by decide) sh_9 rfl (by omega) (by decide) (rf_9 _) dX5_copyFrom_28 ?_
                refine x_iconst (pc := 29) (v := 0) K dX5_copyFrom_29 (by decide) ?_
                refine x_iconst (pc := 30) (v := 3) K dX5_copyFrom_30 (by decide) ?_
                refine y_copy (n := 3) (pc := 31) K (shk_cork (show ((((((0 + 1) + 1) + 1) + 1) + 1) + 1) < 10 by omega)) (shr_cork _ (show ((((((0 + 1) + 1) + 1) + 1) + 1) + 1) < 10 by omega)) (shk_cor (show ((((((0 + 1) + 1) + 1) + 1) + 1) + 1) < 10 by omega)) (shr_cor _ (show ((((((0 + 1) + 1) + 1) + 1) + 1) + 1) < 10 by omega)) rfl rfl rfl (by decide) (by decide) (by decide) (by decide +kernel) (by decide +kernel) (by decide +kernel) (by decide +kernel) (by decide) (Nat.le_of_ble_eq_true rfl) dX5_copyFrom_31 ?_
                refine x_iinc (pc := 34) (q0 := 0) (v := nI (((((((0 + 1) + 1) + 1) + 1) + 1) + 1) + 1)) (lo' := [(2, _), (0, _), (1, _)]) K dX5_copyFrom_34 rfl (nI_incE rfl) (by decide) rfl ?_
                refine x_goto (pc := 37) (tgt := 10) K dX5_copyFrom_37 (by decide) ?_
                refine x_iload_n (pc := 10) K 0 dX5_copyFrom_10 rfl rfl ?_
                refine x_bipush (pc := 11) (v := 10) K dX5_copyFrom_11 (by decide) ?_
                refine x_icmp_ge (pc := 13) (tgt := 40) K dX5_copyFrom_13 (by decide) (fun c_13_7 => ?_) (fun c_13_7 => ?_)
                · replace c_13_7 := cI_le (a := 10) (b := (((((((0 + 1) + 1) + 1) + 1) + 1) + 1) + 1)) rfl rfl (by omega) (by omega) c_13_7
                  omega
                · replace c_13_7 := cI_nle (a := 10) (b := (((((((0 + 1) + 1) + 1) + 1) + 1) + 1) + 1)) rfl rfl (by omega) (by omega) c_13_7
                  refine x_aload_n (pc := 16) K 2 dX5_copyFrom_16 rfl rfl ?_
                  refine x_getr (r0 := 36) (pc := 17) (index := 17) (C := RX5) (T := TX5) (N := 3) (j0 := 2) (ref := "OldMap$Triangles") K (by decide) sh_35 rfl i_X5 (by decide) (by decide +kernel) rfl rfl rf_35_2 dX5_copyFrom_17 ?_
                  refine x_iload_n (pc := 20) K 0 dX5_copyFrom_20 rfl rfl ?_
                  refine y_aald (r0 := (37 + (((((((0 + 1) + 1) + 1) + 1) + 1) + 1) + 1))) (j := (((((((0 + 1) + 1) + 1) + 1) + 1) + 1) + 1)) (pc := 21) K (by decide) sh_36 rfl (by omega) (by decide) (rf_36 _) dX5_copyFrom_21 ?_
                  refine x_iconst (pc := 22) (v := 0) K dX5_copyFrom_22 (by decide) ?_
                  refine x_aload_n (pc := 23) K 1 dX5_copyFrom_23 rfl rfl ?_
                  refine x_getr (r0 := 9) (pc := 24) (index := 17) (C := RX5) (T := TX5) (N := 3) (j0 := 2) (ref := "OldMap$Triangles") K (by decide) sh_8 rfl i_X5 (by decide) (by decide +kernel) rfl rfl rf_8_2 dX5_copyFrom_24 ?_
                  refine x_iload_n (pc := 27) K 0 dX5_copyFrom_27 rfl rfl ?_
                  refine y_aald (r0 := (10 + (((((((0 + 1) + 1) + 1) + 1) + 1) + 1) + 1))) (j := (((((((0 + 1) + 1) + 1) + 1) + 1) + 1) + 1)) (pc := 28) K (by decide) sh_9 rfl (by omega) (by decide) (rf_9 _) dX5_copyFrom_28 ?_
                  refine x_iconst (pc := 29) (v := 0) K dX5_copyFrom_29 (by decide) ?_
                  refine x_iconst (pc := 30) (v := 3) K dX5_copyFrom_30 (by decide) ?_
                  refine y_copy (n := 3) (pc := 31) K (shk_cork (show (((((((0 + 1) + 1) + 1) + 1) + 1) + 1) + 1) < 10 by omega)) (shr_cork _ (show (((((((0 + 1) + 1) + 1) + 1) + 1) + 1) + 1) < 10 by omega)) (shk_cor (show (((((((0 + 1) + 1) + 1) + 1) + 1) + 1) + 1) < 10 by omega)) (shr_cor _ (show (((((((0 + 1) + 1) + 1) + 1) + 1) + 1) + 1) < 10 by omega)) rfl rfl rfl (by decide) (by decide) (by decide) (by decide +kernel) (by decide +kernel) (by decide +kernel) (by decide +kernel) (by decide) (Nat.le_of_ble_eq_true rfl) dX5_copyFrom_31 ?_
                  refine x_iinc (pc := 34) (q0 := 0) (v := nI ((((((((0 + 1) + 1) + 1) + 1) + 1) + 1) + 1) + 1)) (lo' := [(2, _), (0, _), (1, _)]) K dX5_copyFrom_34 rfl (nI_incE rfl) (by decide) rfl ?_
                  refine x_goto (pc := 37) (tgt := 10) K dX5_copyFrom_37 (by decide) ?_
                  refine x_iload_n (pc := 10) K 0 dX5_copyFrom_10 rfl rfl ?_
                  refine x_bipush (pc := 11) (v := 10) K dX5_copyFrom_11 (by decide) ?_
                  refine x_icmp_ge (pc := 13) (tgt := 40) K dX5_copyFrom_13 (by decide) (fun c_13_8 => ?_) (fun c_13_8 => ?_)
                  · replace c_13_8 := cI_le (a := 10) (b := ((((((((0 + 1) + 1) + 1) + 1) + 1) + 1) + 1) + 1)) rfl rfl (by omega) (by omega) c_13_8
                    omega
                  · replace c_13_8 := cI_nle (a := 10) (b := ((((((((0 + 1) + 1) + 1) + 1) + 1) + 1) + 1) + 1)) rfl rfl (by omega) (by omega) c_13_8
                    refine x_aload_n (pc := 16) K 2 dX5_copyFrom_16 rfl rfl ?_
                    refine x_getr (r0 := 36) (pc := 17) (index := 17) (C := RX5) (T := TX5) (N := 3) (j0 := 2) (ref := "OldMap$Triangles") K (by decide) sh_35 rfl i_X5 (by decide) (by decide +kernel) rfl rfl rf_35_2 dX5_copyFrom_17 ?_
                    refine x_iload_n (pc := 20) K 0 dX5_copyFrom_20 rfl rfl ?_
                    refine y_aald (r0 := (37 + ((((((((0 + 1) + 1) + 1) + 1) + 1) + 1) + 1) + 1))) (j := ((((((((0 + 1) + 1) + 1) + 1) + 1) + 1) + 1) + 1)) (pc := 21) K (by decide) sh_36 rfl (by omega) (by decide) (rf_36 _) dX5_copyFrom_21 ?_
                    refine x_iconst (pc := 22) (v := 0) K dX5_copyFrom_22 (by decide) ?_
                    refine x_aload_n (pc := 23) K 1 dX5_copyFrom_23 rfl rfl ?_
                    refine x_getr (r0 := 9) (pc := 24) (index := 17) (C := RX5) (T := TX5) (N := 3) (j0 := 2) (ref := "OldMap$Triangles") K (by decide) sh_8 rfl i_X5 (by decide) (by decide +kernel) rfl rfl rf_8_2 dX5_copyFrom_24 ?_
                    refine x_iload_n (pc := 27) K 0 dX5_copyFrom_27 rfl rfl ?_
                    refine y_aald (r0 := (10 + ((((((((0 + 1) + 1) + 1) + 1) + 1) + 1) + 1) + 1))) (j := ((((((((0 + 1) + 1) + 1) + 1) + 1) + 1) + 1) + 1)) (pc := 28) K (by decide) sh_9 rfl (by omega) (by decide) (rf_9 _) dX5_copyFrom_28 ?_
                    refine x_iconst (pc := 29) (v := 0) K dX5_copyFrom_29 (by decide) ?_
                    refine x_iconst (pc := 30) (v := 3) K dX5_copyFrom_30 (by decide) ?_
                    refine y_copy (n := 3) (pc := 31) K (shk_cork (show ((((((((0 + 1) + 1) + 1) + 1) + 1) + 1) + 1) + 1) < 10 by omega)) (shr_cork _ (show ((((((((0 + 1) + 1) + 1) + 1) + 1) + 1) + 1) + 1) < 10 by omega)) (shk_cor (show ((((((((0 + 1) + 1) + 1) + 1) + 1) + 1) + 1) + 1) < 10 by omega)) (shr_cor _ (show ((((((((0 + 1) + 1) + 1) + 1) + 1) + 1) + 1) + 1) < 10 by omega)) rfl rfl rfl (by decide) (by decide) (by decide) (by decide +kernel) (by decide +kernel) (by decide +kernel) (by decide +kernel) (by decide) (Nat.le_of_ble_eq_true rfl) dX5_copyFrom_31 ?_
                    refine x_iinc (pc := 34) (q0 := 0) (v := nI (((((((((0 + 1) + 1) + 1) + 1) + 1) + 1) + 1) + 1) + 1)) (lo' := [(2, _), (0, _), (1, _)]) K dX5_copyFrom_34 rfl (nI_incE rfl) (by decide) rfl ?_
                    refine x_goto (pc := 37) (tgt := 10) K dX5_copyFrom_37 (by decide) ?_
                    refine x_iload_n (pc := 10) K 0 dX5_copyFrom_10 rfl rfl ?_
                    refine x_bipush (pc := 11) (v := 10) K dX5_copyFrom_11 (by decide) ?_
                    refine x_icmp_ge (pc := 13) (tgt := 40) K dX5_copyFrom_13 (by decide) (fun c_13_9 => ?_) (fun c_13_9 => ?_)
                    · replace c_13_9 := cI_le (a := 10) (b := (((((((((0 + 1) + 1) + 1) + 1) + 1) + 1) + 1) + 1) + 1)) rfl rfl (by omega) (by omega) c_13_9
                      omega
                    · replace c_13_9 := cI_nle (a := 10) (b := (((((((((0 + 1) + 1) + 1) + 1) + 1) + 1) + 1) + 1) + 1)) rfl rfl (by omega) (by omega) c_13_9
                      refine x_aload_n (pc := 16) K 2 dX5_copyFrom_16 rfl rfl ?_
                      refine x_getr (r0 := 36) (pc := 17) (index := 17) (C := RX5) (T := TX5) (N := 3) (j0 := 2) (ref := "OldMap$Triangles") K (by decide) sh_35 rfl i_X5 (by decide) (by decide +kernel) rfl rfl rf_35_2 dX5_copyFrom_17 ?_
                      refine x_iload_n (pc := 20) K 0 dX5_copyFrom_20 rfl rfl ?_
                      refine y_aald (r0 := (37 + (((((((((0 + 1) + 1) + 1) + 1) + 1) + 1) + 1) + 1) + 1))) (j := (((((((((0 + 1) + 1) + 1) + 1) + 1) + 1) + 1) + 1) + 1)) (pc := 21) K (by decide) sh_36 rfl (by omega) (by decide) (rf_36 _) dX5_copyFrom_21 ?_
                      refine x_iconst (pc := 22) (v := 0) K dX5_copyFrom_22 (by decide) ?_
                      refine x_aload_n (pc := 23) K 1 dX5_copyFrom_23 rfl rfl ?_
                      refine x_getr (r0 := 9) (pc := 24) (index := 17) (C := RX5) (T := TX5) (N := 3) (j0 := 2) (ref := "OldMap$Triangles") K (by decide) sh_8 rfl i_X5 (by decide) (by decide +kernel) rfl rfl rf_8_2 dX5_copyFrom_24 ?_
                      refine x_iload_n (pc := 27) K 0 dX5_copyFrom_27 rfl rfl ?_
                      refine y_aald (r0 := (10 + (((((((((0 + 1) + 1) + 1) + 1) + 1) + 1) + 1) + 1) + 1))) (j := (((((((((0 + 1) + 1) + 1) + 1) + 1) + 1) + 1) + 1) + 1)) (pc := 28) K (by decide) sh_9 rfl (by omega) (by decide) (rf_9 _) dX5_copyFrom_28 ?_
                      refine x_iconst (pc := 29) (v := 0) K dX5_copyFrom_29 (by decide) ?_
                      refine x_iconst (pc := 30) (v := 3) K dX5_copyFrom_30 (by decide) ?_
                      refine y_copy (n := 3) (pc := 31) K (shk_cork (show (((((((((0 + 1) + 1) + 1) + 1) + 1) + 1) + 1) + 1) + 1) < 10 by omega)) (shr_cork _ (show (((((((((0 + 1) + 1) + 1) + 1) + 1) + 1) + 1) + 1) + 1) < 10 by omega)) (shk_cor (show (((((((((0 + 1) + 1) + 1) + 1) + 1) + 1) + 1) + 1) + 1) < 10 by omega)) (shr_cor _ (show (((((((((0 + 1) + 1) + 1) + 1) + 1) + 1) + 1) + 1) + 1) < 10 by omega)) rfl rfl rfl (by decide) (by decide) (by decide) (by decide +kernel) (by decide +kernel) (by decide +kernel) (by decide +kernel) (by decide) (Nat.le_of_ble_eq_true rfl) dX5_copyFrom_31 ?_
                      refine x_iinc (pc := 34) (q0 := 0) (v := nI ((((((((((0 + 1) + 1) + 1) + 1) + 1) + 1) + 1) + 1) + 1) + 1)) (lo' := [(2, _), (0, _), (1, _)]) K dX5_copyFrom_34 rfl (nI_incE rfl) (by decide) rfl ?_
                      refine x_goto (pc := 37) (tgt := 10) K dX5_copyFrom_37 (by decide) ?_
                      refine x_iload_n (pc := 10) K 0 dX5_copyFrom_10 rfl rfl ?_
                      refine x_bipush (pc := 11) (v := 10) K dX5_copyFrom_11 (by decide) ?_
                      refine x_icmp_ge (pc := 13) (tgt := 40) K dX5_copyFrom_13 (by decide) (fun c_13_10 => ?_) (fun c_13_10 => ?_)
                      · replace c_13_10 := cI_le (a := 10) (b := ((((((((((0 + 1) + 1) + 1) + 1) + 1) + 1) + 1) + 1) + 1) + 1)) rfl rfl (by omega) (by omega) c_13_10
                        exact ret (pc := 40) dX5_copyFrom_40 (⟨rfl, rfl⟩)
                      · replace c_13_10 := cI_nle (a := 10) (b := ((((((((((0 + 1) + 1) + 1) + 1) + 1) + 1) + 1) + 1) + 1) + 1)) rfl rfl (by omega) (by omega) c_13_10
                        omega

set_option maxHeartbeats 1000000 in
set_option maxRecDepth 100000 in
theorem c_X5_copyFrom1 (l : Launch) (G : hQ) (I : hI) (J : hJ) : h_Mv l yX5_copyFrom wsX5_copyFrom 1 20 G [rr G 35, rr G 8] I J (fun I' J' => cpTr1 I = I' ∧ J = J') := by
  refine h_Mv.of (cc := cX5_copyFrom) (maxL := 3) [(0, rr G 35), (1, rr G 8)] (by decide +kernel) rfl (Nat.le_of_ble_eq_true rfl) rfl ?_
  intro Γ K ret
  have i_X5 : ∀ w ∈ u_ws RX5 TX5 3, w ∈ wsX5_copyFrom := by decide +kernel
  refine x_aload_n (pc := 0) K 0 dX5_copyFrom_0 rfl rfl ?_
  refine x_aload_n (pc := 1) K 1 dX5_copyFrom_1 rfl rfl ?_
  refine x_geti (pc := 2) (index := 9) (C := RX5) (T := TX5) (N := 3) (j0 := 1) (ref := "OldMap$Triangles") K (by decide) sh_8 rfl i_X5 (by decide) (by decide +kernel) rfl rfl dX5_copyFrom_2 ?_
  refine x_puti (ty := .int) (pc := 5) (index := 9) (C := RX5) (T := TX5) (N := 3) (j0 := 1) (ref := "OldMap$Triangles") K (by decide) sh_35 rfl i_X5 (by decide) (by decide +kernel) rfl tyX5 tyX5_ok nmX5 rfl (by decide +kernel) rfl rfl rfl dX5_copyFrom_5 ?_
  refine x_iconst (pc := 8) (v := 0) K dX5_copyFrom_8 (by decide) ?_
  refine x_istore_n (pc := 9) (lo' := [(2, _), (0, _), (1, _)]) K dX5_copyFrom_9 rfl (by decide) rfl ?_
  refine x_iload_n (pc := 10) K 0 dX5_copyFrom_10 rfl rfl ?_
  refine x_bipush (pc := 11) (v := 10) K dX5_copyFrom_11 (by decide) ?_
  refine x_icmp_ge (pc := 13) (tgt := 40) K dX5_copyFrom_13 (by decide) (fun c_13 => ?_) (fun c_13 => ?_)
  · replace c_13 := cI_le (a := 10) (b := 0) rfl rfl (by omega) (by omega) c_13
    omega
  · replace c_13 := cI_nle (a := 10) (b := 0) rfl rfl (by omega) (by omega) c_13
    refine x_aload_n (pc := 16) K 2 dX5_copyFrom_16 rfl rfl ?_
    refine x_getr (r0 := 9) (pc := 17) (index := 17) (C := RX5) (T := TX5) (N := 3) (j0 := 2) (ref := "OldMap$Triangles") K (by decide) sh_8 rfl i_X5 (by decide) (by decide +kernel) rfl rfl rf_8_2 dX5_copyFrom_17 ?_
    refine x_iload_n (pc := 20) K 0 dX5_copyFrom_20 rfl rfl ?_
    refine y_aald (r0 := (10 + 0)) (j := 0) (pc := 21) K (by decide) sh_9 rfl (by omega) (by decide) (rf_9 _) dX5_copyFrom_21 ?_
    refine x_iconst (pc := 22) (v := 0) K dX5_copyFrom_22 (by decide) ?_
    refine x_aload_n (pc := 23) K 1 dX5_copyFrom_23 rfl rfl ?_
    refine x_getr (r0 := 36) (pc := 24) (index := 17) (C := RX5) (T := TX5) (N := 3) (j0 := 2) (ref := "OldMap$Triangles") K (by decide) sh_35 rfl i_X5 (by decide) (by decide +kernel) rfl rfl rf_35_2 dX5_copyFrom_24 ?_
    refine x_iload_n (pc := 27) K 0 dX5_copyFrom_27 rfl rfl ?_
    refine y_aald (r0 := (37 + 0)) (j := 0) (pc := 28) K (by decide) sh_36 rfl (by omega) (by decide) (rf_36 _) dX5_copyFrom_28 ?_
    refine x_iconst (pc := 29) (v := 0) K dX5_copyFrom_29 (by decide) ?_
    refine x_iconst (pc := 30) (v := 3) K dX5_copyFrom_30 (by decide) ?_
    refine y_copy (n := 3) (pc := 31) K (shk_cor (show 0 < 10 by omega)) (shr_cor _ (show 0 < 10 by omega)) (shk_cork (show 0 < 10 by omega)) (shr_cork _ (show 0 < 10 by omega)) rfl rfl rfl (by decide) (by decide) (by decide) (by decide +kernel) (by decide +kernel) (by decide +kernel) (by decide +kernel) (by decide) (Nat.le_of_ble_eq_true rfl) dX5_copyFrom_31 ?_
    refine x_iinc (pc := 34) (q0 := 0) (v := nI (0 + 1)) (lo' := [(2, _), (0, _), (1, _)]) K dX5_copyFrom_34 rfl (nI_incE rfl) (by decide) rfl ?_
    refine x_goto (pc := 37) (tgt := 10) K dX5_copyFrom_37 (by decide) ?_
    refine x_iload_n (pc := 10) K 0 dX5_copyFrom_10 rfl rfl ?_
    refine x_bipush (pc := 11) (v := 10) K dX5_copyFrom_11 (by decide) ?_
    refine x_icmp_ge (pc := 13) (tgt := 40) K dX5_copyFrom_13 (by decide) (fun c_13_1 => ?_) (fun c_13_1 => ?_)
    · replace c_13_1 := cI_le (a := 10) (b := (0 + 1)) rfl rfl (by omega) (by omega) c_13_1
      omega
    · replace c_13_1 := cI_nle (a := 10) (b := (0 + 1)) rfl rfl (by omega) (by omega) c_13_1
      refine x_aload_n (pc := 16) K 2 dX5_copyFrom_16 rfl rfl ?_
      refine x_getr (r0 := 9) (pc := 17) (index := 17) (C := RX5) (T := TX5) (N := 3) (j0 := 2) (ref := "OldMap$Triangles") K (by decide) sh_8 rfl i_X5 (by decide) (by decide +kernel) rfl rfl rf_8_2 dX5_copyFrom_17 ?_
      refine x_iload_n (pc := 20) K 0 dX5_copyFrom_20 rfl rfl ?_
      refine y_aald (r0 := (10 + (0 + 1))) (j := (0 + 1)) (pc := 21) K (by decide) sh_9 rfl (by omega) (by decide) (rf_9 _) dX5_copyFrom_21 ?_
      refine x_iconst (pc := 22) (v := 0) K dX5_copyFrom_22 (by decide) ?_
      refine x_aload_n (pc := 23) K 1 dX5_copyFrom_23 rfl rfl ?_
      refine x_getr (r0 := 36) (pc := 24) (index := 17) (C := RX5) (T := TX5) (N := 3) (j0 := 2) (ref := "OldMap$Triangles") K (by decide) sh_35 rfl i_X5 (by decide) (by decide +kernel) rfl rfl rf_35_2 dX5_copyFrom_24 ?_
      refine x_iload_n (pc := 27) K 0 dX5_copyFrom_27 rfl rfl ?_
      refine y_aald (r0 := (37 + (0 + 1))) (j := (0 + 1)) (pc := 28) K (by decide) sh_36 rfl (by omega) (by decide) (rf_36 _) dX5_copyFrom_28 ?_
      refine x_iconst (pc := 29) (v := 0) K dX5_copyFrom_29 (by decide) ?_
      refine x_iconst (pc := 30) (v := 3) K dX5_copyFrom_30 (by decide) ?_
      refine y_copy (n := 3) (pc := 31) K (shk_cor (show (0 + 1) < 10 by omega)) (shr_cor _ (show (0 + 1) < 10 by omega)) (shk_cork (show (0 + 1) < 10 by omega)) (shr_cork _ (show (0 + 1) < 10 by omega)) rfl rfl rfl (by decide) (by decide) (by decide) (by decide +kernel) (by decide +kernel) (by decide +kernel) (by decide +kernel) (by decide) (Nat.le_of_ble_eq_true rfl) dX5_copyFrom_31 ?_
      refine x_iinc (pc := 34) (q0 := 0) (v := nI ((0 + 1) + 1)) (lo' := [(2, _), (0, _), (1, _)]) K dX5_copyFrom_34 rfl (nI_incE rfl) (by decide) rfl ?_
      refine x_goto (pc := 37) (tgt := 10) K dX5_copyFrom_37 (by decide) ?_
      refine x_iload_n (pc := 10) K 0 dX5_copyFrom_10 rfl rfl ?_
      refine x_bipush (pc := 11) (v := 10) K dX5_copyFrom_11 (by decide) ?_
      refine x_icmp_ge (pc := 13) (tgt := 40) K dX5_copyFrom_13 (by decide) (fun c_13_2 => ?_) (fun c_13_2 => ?_)
      · replace c_13_2 := cI_le (a := 10) (b := ((0 + 1) + 1)) rfl rfl (by omega) (by omega) c_13_2
        omega
      · replace c_13_2 := cI_nle (a := 10) (b := ((0 + 1) + 1)) rfl rfl (by omega) (by omega) c_13_2
        refine x_aload_n (pc := 16) K 2 dX5_copyFrom_16 rfl rfl ?_
        refine x_getr (r0 := 9) (pc := 17) (index := 17) (C := RX5) (T := TX5) (N := 3) (j0 := 2) (ref := "OldMap$Triangles") K (by decide) sh_8 rfl i_X5 (by decide) (by decide +kernel) rfl rfl rf_8_2 dX5_copyFrom_17 ?_
        refine x_iload_n (pc := 20) K 0 dX5_copyFrom_20 rfl rfl ?_
        refine y_aald (r0 := (10 + ((0 + 1) + 1))) (j := ((0 + 1) + 1)) (pc := 21) K (by decide) sh_9 rfl (by omega) (by decide) (rf_9 _) dX5_copyFrom_21 ?_
        refine x_iconst (pc := 22) (v := 0) K dX5_copyFrom_22 (by decide) ?_
        refine x_aload_n (pc := 23) K 1 dX5_copyFrom_23 rfl rfl ?_
        refine x_getr (r0 := 36) (pc := 24) (index := 17) (C := RX5) (T := TX5) (N := 3) (j0 := 2) (ref := "OldMap$Triangles") K (by decide) sh_35 rfl i_X5 (by decide) (by decide +kernel) rfl rfl rf_35_2 dX5_copyFrom_24 ?_
        refine x_iload_n (pc := 27) K 0 dX5_copyFrom_27 rfl rfl ?_
        refine y_aald (r0 := (37 + ((0 + 1) + 1))) (j := ((0 + 1) + 1)) (pc := 28) K (by decide) sh_36 rfl (by omega) (by decide) (rf_36 _) dX5_copyFrom_28 ?_
        refine x_iconst (pc := 29) (v := 0) K dX5_copyFrom_29 (by decide) ?_
        refine x_iconst (pc := 30) (v := 3) K dX5_copyFrom_30 (by decide) ?_
        refine y_copy (n := 3) (pc := 31) K (shk_cor (show ((0 + 1) + 1) < 10 by omega)) (shr_cor _ (show ((0 + 1) + 1) < 10 by omega)) (shk_cork (show ((0 + 1) + 1) < 10 by omega)) (shr_cork _ (show ((0 + 1) + 1) < 10 by omega)) rfl rfl rfl (by decide) (by decide) (by decide) (by decide +kernel) (by decide +kernel) (by decide +kernel) (by decide +kernel) (by decide) (Nat.le_of_ble_eq_true rfl) dX5_copyFrom_31 ?_
        refine x_iinc (pc := 34) (q0 := 0) (v := nI (((0 + 1) + 1) + 1)) (lo' := [(2, _), (0, _), (1, _)]) K dX5_copyFrom_34 rfl (nI_incE rfl) (by decide) rfl ?_
        refine x_goto (pc := 37) (tgt := 10) K dX5_copyFrom_37 (by decide) ?_
        refine x_iload_n (pc := 10) K 0 dX5_copyFrom_10 rfl rfl ?_
        refine x_bipush (pc := 11) (v := 10) K dX5_copyFrom_11 (by decide) ?_
        refine x_icmp_ge (pc := 13) (tgt := 40) K dX5_copyFrom_13 (by decide) (fun c_13_3 => ?_) (fun c_13_3 => ?_)
        · replace c_13_3 := cI_le (a := 10) (b := (((0 + 1) + 1) + 1)) rfl rfl (by omega) (by omega) c_13_3
          omega
        · replace c_13_3 := cI_nle (a := 10) (b := (((0 + 1) + 1) + 1)) rfl rfl (by omega) (by omega) c_13_3
          refine x_aload_n (pc := 16) K 2 dX5_copyFrom_16 rfl rfl ?_
          refine x_getr (r0 := 9) (pc := 17) (index := 17) (C := RX5) (T := TX5) (N := 3) (j0 := 2) (ref := "OldMap$Triangles") K (by decide) sh_8 rfl i_X5 (by decide) (by decide +kernel) rfl rfl rf_8_2 dX5_copyFrom_17 ?_
          refine x_iload_n (pc := 20) K 0 dX5_copyFrom_20 rfl rfl ?_
          refine y_aald (r0 := (10 + (((0 + 1) + 1) + 1))) (j := (((0 + 1) + 1) + 1)) (pc := 21) K (by decide) sh_9 rfl (by omega) (by decide) (rf_9 _) dX5_copyFrom_21 ?_
          refine x_iconst (pc := 22) (v := 0) K dX5_copyFrom_22 (by decide) ?_
          refine x_aload_n (pc := 23) K 1 dX5_copyFrom_23 rfl rfl ?_
          refine x_getr (r0 := 36) (pc := 24) (index := 17) (C := RX5) (T := TX5) (N := 3) (j0 := 2) (ref := "OldMap$Triangles") K (by decide) sh_35 rfl i_X5 (by decide) (by decide +kernel) rfl rfl rf_35_2 dX5_copyFrom_24 ?_
          refine x_iload_n (pc := 27) K 0 dX5_copyFrom_27 rfl rfl ?_
          refine y_aald (r0 := (37 + (((0 + 1) + 1) + 1))) (j := (((0 + 1) + 1) + 1)) (pc := 28) K (by decide) sh_36 rfl (by omega) (by decide) (rf_36 _) dX5_copyFrom_28 ?_
          refine x_iconst (pc := 29) (v := 0) K dX5_copyFrom_29 (by decide) ?_
          refine x_iconst (pc := 30) (v := 3) K dX5_copyFrom_30 (by decide) ?_
          refine y_copy (n := 3) (pc := 31) K (shk_cor (show (((0 + 1) + 1) + 1) < 10 by omega)) (shr_cor _ (show (((0 + 1) + 1) + 1) < 10 by omega)) (shk_cork (show (((0 + 1) + 1) + 1) < 10 by omega)) (shr_cork _ (show (((0 + 1) + 1) + 1) < 10 by omega)) rfl rfl rfl (by decide) (by decide) (by decide) (by decide +kernel) (by decide +kernel) (by decide +kernel) (by decide +kernel) (by decide) (Nat.le_of_ble_eq_true rfl) dX5_copyFrom_31 ?_
          refine x_iinc (pc := 34) (q0 := 0) (v := nI ((((0 + 1) + 1) + 1) + 1)) (lo' := [(2, _), (0, _), (1, _)]) K dX5_copyFrom_34 rfl (nI_incE rfl) (by decide) rfl ?_
          refine x_goto (pc := 37) (tgt := 10) K dX5_copyFrom_37 (by decide) ?_
          refine x_iload_n (pc := 10) K 0 dX5_copyFrom_10 rfl rfl ?_
          refine x_bipush (pc := 11) (v := 10) K dX5_copyFrom_11 (by decide) ?_
          refine x_icmp_ge (pc := 13) (tgt := 40) K dX5_copyFrom_13 (by decide) (fun c_13_4 => ?_) (fun c_13_4 => ?_)
          · replace c_13_4 := cI_le (a := 10) (b := ((((0 + 1) + 1) + 1) + 1)) rfl rfl (by omega) (by omega) c_13_4
            omega
          · replace c_13_4 := cI_nle (a := 10) (b := ((((0 + 1) + 1) + 1) + 1)) rfl rfl (by omega) (by omega) c_13_4
            refine x_aload_n (pc := 16) K 2 dX5_copyFrom_16 rfl rfl ?_
            refine x_getr (r0 := 9) (pc := 17) (index := 17) (C := RX5) (T := TX5) (N := 3) (j0 := 2) (ref := "OldMap$Triangles") K (by decide) sh_8 rfl i_X5 (by decide) (by decide +kernel) rfl rfl rf_8_2 dX5_copyFrom_17 ?_
            refine x_iload_n (pc := 20) K 0 dX5_copyFrom_20 rfl rfl ?_
            refine y_aald (r0 := (10 + ((((0 + 1) + 1) + 1) + 1))) (j := ((((0 + 1) + 1) + 1) + 1)) (pc := 21) K (by decide) sh_9 rfl (by omega) (by decide) (rf_9 _) dX5_copyFrom_21 ?_
            refine x_iconst (pc := 22) (v := 0) K dX5_copyFrom_22 (by decide) ?_
            refine x_aload_n (pc := 23) K 1 dX5_copyFrom_23 rfl rfl ?_
            refine x_getr (r0 := 36) (pc := 24) (index := 17) (C := RX5) (T := TX5) (N := 3) (j0 := 2) (ref := "OldMap$Triangles") K (by decide) sh_35 rfl i_X5 (by decide) (by decide +kernel) rfl rfl rf_35_2 dX5_copyFrom_24 ?_
            refine x_iload_n (pc := 27) K 0 dX5_copyFrom_27 rfl rfl ?_
            refine y_aald (r0 := (37 + ((((0 + 1) + 1) + 1) + 1))) (j := ((((0 + 1) + 1) + 1) + 1)) (pc := 28) K (by decide) sh_36 rfl (by omega) (by decide) (rf_36 _) dX5_copyFrom_28 ?_
            refine x_iconst (pc := 29) (v := 0) K dX5_copyFrom_29 (by decide) ?_
            refine x_iconst (pc := 30) (v := 3) K dX5_copyFrom_30 (by decide) ?_
            refine y_copy (n := 3) (pc := 31) K (shk_cor (show ((((0 + 1) + 1) + 1) + 1) < 10 by omega)) (shr_cor _ (show ((((0 + 1) + 1) + 1) + 1) < 10 by omega)) (shk_cork (show ((((0 + 1) + 1) + 1) + 1) < 10 by omega)) (shr_cork _ (show ((((0 + 1) + 1) + 1) + 1) < 10 by omega)) rfl rfl rfl (by decide) (by decide) (by decide) (by decide +kernel) (by decide +kernel) (by decide +kernel) (by decide +kernel) (by decide) (Nat.le_of_ble_eq_true rfl) dX5_copyFrom_31 ?_
            refine x_iinc (pc := 34) (q0 := 0) (v := nI (((((0 + 1) + 1) + 1) + 1) + 1)) (lo' := [(2, _), (0, _), (1, _)]) K dX5_copyFrom_34 rfl (nI_incE rfl) (by decide) rfl ?_
            refine x_goto (pc := 37) (tgt := 10) K dX5_copyFrom_37 (by decide) ?_
            refine x_iload_n (pc := 10) K 0 dX5_copyFrom_10 rfl rfl ?_
            refine x_bipush (pc := 11) (v := 10) K dX5_copyFrom_11 (by decide) ?_
            refine x_icmp_ge (pc := 13) (tgt := 40) K dX5_copyFrom_13 (by decide) (fun c_13_5 => ?_) (fun c_13_5 => ?_)
            · replace c_13_5 := cI_le (a := 10) (b := (((((0 + 1) + 1) + 1) + 1) + 1)) rfl rfl (by omega) (by omega) c_13_5
              omega
            · replace c_13_5 := cI_nle (a := 10) (b := (((((0 + 1) + 1) + 1) + 1) + 1)) rfl rfl (by omega) (by omega) c_13_5
              refine x_aload_n (pc := 16) K 2 dX5_copyFrom_16 rfl rfl ?_
              refine x_getr (r0 := 9) (pc := 17) (index := 17) (C := RX5) (T := TX5) (N := 3) (j0 := 2) (ref := "OldMap$Triangles") K (by decide) sh_8 rfl i_X5 (by decide) (by decide +kernel) rfl rfl rf_8_2 dX5_copyFrom_17 ?_
              refine x_iload_n (pc := 20) K 0 dX5_copyFrom_20 rfl rfl ?_
              refine y_aald (r0 := (10 + (((((0 + 1) + 1) + 1) + 1) + 1))) (j := (((((0 + 1) + 1) + 1) + 1) + 1)) (pc := 21) K (by decide) sh_9 rfl (by omega) (by decide) (rf_9 _) dX5_copyFrom_21 ?_
              refine x_iconst (pc := 22) (v := 0) K dX5_copyFrom_22 (by decide) ?_
              refine x_aload_n (pc := 23) K 1 dX5_copyFrom_23 rfl rfl ?_
              refine x_getr (r0 := 36) (pc := 24) (index := 17) (C := RX5) (T := TX5) (N := 3) (j0 := 2) (ref := "OldMap$Triangles") K (by decide) sh_35 rfl i_X5 (by decide) (by decide +kernel) rfl rfl rf_35_2 dX5_copyFrom_24 ?_
              refine x_iload_n (pc := 27) K 0 dX5_copyFrom_27 rfl rfl ?_
              refine y_aald (r0 := (37 + (((((0 + 1) + 1) + 1) + 1) + 1))) (j := (((((0 + 1) + 1) + 1) + 1) + 1)) (pc := 28) K (by decide) sh_36 rfl (by omega) (by decide) (rf_36 _) dX5_copyFrom_28 ?_
              refine x_iconst (pc := 29) (v := 0) K dX5_copyFrom_29 (by decide) ?_
              refine x_iconst (pc := 30) (v := 3) K dX5_copyFrom_30 (by decide) ?_
              refine y_copy (n := 3) (pc := 31) K (shk_cor (show (((((0 + 1) + 1) + 1) + 1) + 1) < 10 by omega)) (shr_cor _ (show (((((0 + 1) + 1) + 1) + 1) + 1) < 10 by omega)) (shk_cork (show (((((0 + 1) + 1) + 1) + 1) + 1) < 10 by omega)) (shr_cork _ (show (((((0 + 1) + 1) + 1) + 1) + 1) < 10 by omega)) rfl rfl rfl (by decide) (by decide) (by decide) (by decide +kernel) (by decide +kernel) (by decide +kernel) (by decide +kernel) (by decide) (Nat.le_of_ble_eq_true rfl) dX5_copyFrom_31 ?_
              refine x_iinc (pc := 34) (q0 := 0) (v := nI ((((((0 + 1) + 1) + 1) + 1) + 1) + 1)) (lo' := [(2, _), (0, _), (1, _)]) K dX5_copyFrom_34 rfl (nI_incE rfl) (by decide) rfl ?_
              refine x_goto (pc := 37) (tgt := 10) K dX5_copyFrom_37 (by decide) ?_
              refine x_iload_n (pc := 10) K 0 dX5_copyFrom_10 rfl rfl ?_
              refine x_bipush (pc := 11) (v := 10) K dX5_copyFrom_11 (by decide) ?_
              refine x_icmp_ge (pc := 13) (tgt := 40) K dX5_copyFrom_13 (by decide) (fun c_13_6 => ?_) (fun c_13_6 => ?_)
              · replace c_13_6 := cI_le (a := 10) (b := ((((((0 + 1) + 1) + 1) + 1) + 1) + 1)) rfl rfl (by omega) (by omega) c_13_6
                omega
              · replace c_13_6 := cI_nle (a := 10) (b := ((((((0 + 1) + 1) + 1) + 1) + 1) + 1)) rfl rfl (by omega) (by omega) c_13_6
                refine x_aload_n (pc := 16) K 2 dX5_copyFrom_16 rfl rfl ?_
                refine x_getr (r0 := 9) (pc := 17) (index := 17) (C := RX5) (T := TX5) (N := 3) (j0 := 2) (ref := "OldMap$Triangles") K (by decide) sh_8 rfl i_X5 (by decide) (by decide +kernel) rfl rfl rf_8_2 dX5_copyFrom_17 ?_
                refine x_iload_n (pc := 20) K 0 dX5_copyFrom_20 rfl rfl ?_
                refine y_aald (r0 := (10 + ((((((0 + 1) + 1) + 1) + 1) + 1) + 1))) (j := ((((((0 + 1) + 1) + 1) + 1) + 1) + 1)) (pc := 21) K (by decide) sh_9 rfl (by omega) (by decide) (rf_9 _) dX5_copyFrom_21 ?_
                refine x_iconst (pc := 22) (v := 0) K dX5_copyFrom_22 (by decide) ?_
                refine x_aload_n (pc := 23) K 1 dX5_copyFrom_23 rfl rfl ?_
                refine x_getr (r0 := 36) (pc := 24) (index := 17) (C := RX5) (T := TX5) (N := 3) (j0 := 2) (ref := "OldMap$Triangles") K (by decide) sh_35 rfl i_X5 (by decide) (by decide +kernel) rfl rfl rf_35_2 dX5_copyFrom_24 ?_
                refine x_iload_n (pc := 27) K 0 dX5_copyFrom_27 rfl rfl ?_
                refine y_aald (r0 := (37 + ((((((0 + 1) + 1) + 1) + 1) + 1) + 1))) (j := ((((((0 + 1) + 1) + 1) + 1) + 1) + 1)) (pc := 28) K (by decide) sh_36 rfl (by omega) (by decide) (rf_36 _) dX5_copyFrom_28 ?_
                refine x_iconst (pc := 29) (v := 0) K dX5_copyFrom_29 (by decide) ?_
                refine x_iconst (pc := 30) (v := 3) K dX5_copyFrom_30 (by decide) ?_
                refine y_copy (n := 3) (pc := 31) K (shk_cor (show ((((((0 + 1) + 1) + 1) + 1) + 1) + 1) < 10 by omega)) (shr_cor _ (show ((((((0 + 1) + 1) + 1) + 1) + 1) + 1) < 10 by omega)) (shk_cork (show ((((((0 + 1) + 1) + 1) + 1) + 1) + 1) < 10 by omega)) (shr_cork _ (show ((((((0 + 1) + 1) + 1) + 1) + 1) + 1) < 10 by omega)) rfl rfl rfl (by decide) (by decide) (by decide) (by decide +kernel) (by decide +kernel) (by decide +kernel) (by decide +kernel) (by decide) (Nat.le_of_ble_eq_true rfl) dX5_copyFrom_31 ?_
                refine x_iinc (pc := 34) (q0 := 0) (v := nI (((((((0 + 1) + 1) + 1) + 1) + 1) + 1) + 1)) (lo' := [(2, _), (0, _), (1, _)]) K dX5_copyFrom_34 rfl (nI_incE rfl) (by decide) rfl ?_
                refine x_goto (pc := 37) (tgt := 10) K dX5_copyFrom_37 (by decide) ?_
                refine x_iload_n (pc := 10) K 0 dX5_copyFrom_10 rfl rfl ?_
                refine x_bipush (pc := 11) (v := 10) K dX5_copyFrom_11 (by decide) ?_
                refine x_icmp_ge (pc := 13) (tgt := 40) K dX5_copyFrom_13 (by decide) (fun c_13_7 => ?_) (fun c_13_7 => ?_)
                · replace c_13_7 := cI_le (a := 10) (b := (((((((0 + 1) + 1) + 1) + 1) + 1) + 1) + 1)) rfl rfl (by omega) (by omega) c_13_7
                  omega
                · replace c_13_7 := cI_nle (a := 10) (b := (((((((0 + 1) + 1) + 1) + 1) + 1) + 1) + 1)) rfl rfl (by omega) (by omega) c_13_7
                  refine x_aload_n (pc := 16) K 2 dX5_copyFrom_16 rfl rfl ?_
                  refine x_getr (r0 := 9) (pc := 17) (index := 17) (C := RX5) (T := TX5) (N := 3) (j0 := 2) (ref := "OldMap$Triangles") K (by decide) sh_8 rfl i_X5 (by decide) (by decide +kernel) rfl rfl rf_8_2 dX5_copyFrom_17 ?_
                  refine x_iload_n (pc := 20) K 0 dX5_copyFrom_20 rfl rfl ?_
                  refine y_aald (r0 := (10 + (((((((0 + 1) + 1) + 1) + 1) + 1) + 1) + 1))) (j := (((((((0 + 1) + 1) + 1) + 1) + 1) + 1) + 1)) (pc := 21) K (by decide) sh_9 rfl (by omega) (by decide) (rf_9 _) dX5_copyFrom_21 ?_
                  refine x_iconst (pc := 22) (v := 0) K dX5_copyFrom_22 (by decide) ?_
                  refine x_aload_n (pc := 23) K 1 dX5_copyFrom_23 rfl rfl ?_
                  refine x_getr (r0 := 36) (pc := 24) (index := 17) (C := RX5) (T := TX5) (N := 3) (j0 := 2) (ref := "OldMap$Triangles") K (by decide) sh_35 rfl i_X5 (by decide) (by decide +kernel) rfl rfl rf_35_2 dX5_copyFrom_24 ?_
                  refine x_iload_n (pc := 27) K 0 dX5_copyFrom_27 rfl rfl ?_
                  refine y_aald (r0 := (37 + (((((((0 + 1) + 1) + 1) + 1) + 1) + 1) + 1))) (j := (((((((0 + 1) + 1) + 1) + 1) + 1) + 1) + 1)) (pc := 28) K (by decide) sh_36 rfl (by omega) (by decide) (rf_36 _) dX5_copyFrom_28 ?_
                  refine x_iconst (pc := 29) (v := 0) K dX5_copyFrom_29 (by decide) ?_
                  refine x_iconst (pc := 30) (v := 3) K dX5_copyFrom_30 (by decide) ?_
                  refine y_copy (n := 3) (pc := 31) K (shk_cor (show (((((((0 + 1) + 1) + 1) + 1) + 1) + 1) + 1) < 10 by omega)) (shr_cor _ (show (((((((0 + 1) + 1) + 1) + 1) + 1) + 1) + 1) < 10 by omega)) (shk_cork (show (((((((0 + 1) + 1) + 1) + 1) + 1) + 1) + 1) < 10 by omega)) (shr_cork _ (show (((((((0 + 1) + 1) + 1) + 1) + 1) + 1) + 1) < 10 by omega)) rfl rfl rfl (by decide) (by decide) (by decide) (by decide +kernel) (by decide +kernel) (by decide +kernel) (by decide +kernel) (by decide) (Nat.le_of_ble_eq_true rfl) dX5_copyFrom_31 ?_
                  refine x_iinc (pc := 34) (q0 := 0) (v := nI ((((((((0 + 1) + 1) + 1) + 1) + 1) + 1) + 1) + 1)) (lo' := [(2, _), (0, _), (1, _)]) K dX5_copyFrom_34 rfl (nI_incE rfl) (by decide) rfl ?_
                  refine x_goto (pc := 37) (tgt := 10) K dX5_copyFrom_37 (by decide) ?_
                  refine x_iload_n (pc := 10) K 0 dX5_copyFrom_10 rfl rfl ?_
                  refine x_bipush (pc := 11) (v := 10) K dX5_copyFrom_11 (by decide) ?_
                  refine x_icmp_ge (pc := 13) (tgt := 40) K dX5_copyFrom_13 (by decide) (fun c_13_8 => ?_) (fun c_13_8 => ?_)
                  · replace c_13_8 := cI_le (a := 10) (b := ((((((((0 + 1) + 1) + 1) + 1) + 1) + 1) + 1) + 1)) rfl rfl (by omega) (by omega) c_13_8
                    omega
                  · replace c_13_8 := cI_nle (a := 10) (b := ((((((((0 + 1) + 1) + 1) + 1) + 1) + 1) + 1) + 1)) rfl rfl (by omega) (by omega) c_13_8
                    refine x_aload_n (pc := 16) K 2 dX5_copyFrom_16 rfl rfl ?_
                    refine x_getr (r0 := 9) (pc := 17) (index := 17) (C := RX5) (T := TX5) (N := 3) (j0 := 2) (ref := "OldMap$Triangles") K (by decide) sh_8 rfl i_X5 (by decide) (by decide +kernel) rfl rfl rf_8_2 dX5_copyFrom_17 ?_
                    refine x_iload_n (pc := 20) K 0 dX5_copyFrom_20 rfl rfl ?_
                    refine y_aald (r0 := (10 + ((((((((0 + 1) + 1) + 1) + 1) + 1) + 1) + 1) + 1))) (j := ((((((((0 + 1) + 1) + 1) + 1) + 1) + 1) + 1) + 1)) (pc := 21) K (by decide) sh_9 rfl (by omega) (by decide) (rf_9 _) dX5_copyFrom_21 ?_
                    refine x_iconst (pc := 22) (v := 0) K dX5_copyFrom_22 (by decide) ?_
                    refine x_aload_n (pc := 23) K 1 dX5_copyFrom_23 rfl rfl ?_
                    refine x_getr (r0 := 36) (pc := 24) (index := 17) (C := RX5) (T := TX5) (N := 3) (j0 := 2) (ref := "OldMap$Triangles") K (by decide) sh_35 rfl i_X5 (by decide) (by decide +kernel) rfl rfl rf_35_2 dX5_copyFrom_24 ?_
                    refine x_iload_n (pc := 27) K 0 dX5_copyFrom_27 rfl rfl ?_
                    refine y_aald (r0 := (37 + ((((((((0 + 1) + 1) + 1) + 1) + 1) + 1) + 1) + 1))) (j := ((((((((0 + 1) + 1) + 1) + 1) + 1) + 1) + 1) + 1)) (pc := 28) K (by decide) sh_36 rfl (by omega) (by decide) (rf_36 _) dX5_copyFrom_28 ?_
                    refine x_iconst (pc := 29) (v := 0) K dX5_copyFrom_29 (by decide) ?_
                    refine x_iconst (pc := 30) (v := 3) K dX5_copyFrom_30 (by decide) ?_
                    refine y_copy (n := 3) (pc := 31) K (shk_cor (show ((((((((0 + 1) + 1) + 1) + 1) + 1) + 1) + 1) + 1) < 10 by omega)) (shr_cor _ (show ((((((((0 + 1) + 1) + 1) + 1) + 1) + 1) + 1) + 1) < 10 by omega)) (shk_cork (show ((((((((0 + 1) + 1) + 1) + 1) + 1) + 1) + 1) + 1) < 10 by omega)) (shr_cork _ (show ((((((((0 + 1) + 1) + 1) + 1) + 1) + 1) + 1) + 1) < 10 by omega)) rfl rfl rfl (by decide) (by decide) (by decide) (by decide +kernel) (by decide +kernel) (by decide +kernel) (by decide +kernel) (by decide) (Nat.le_of_ble_eq_true rfl) dX5_copyFrom_31 ?_
                    refine x_iinc (pc := 34) (q0 := 0) (v := nI (((((((((0 + 1) + 1) + 1) + 1) + 1) + 1) + 1) + 1) + 1)) (lo' := [(2, _), (0, _), (1, _)]) K dX5_copyFrom_34 rfl (nI_incE rfl) (by decide) rfl ?_
                    refine x_goto (pc := 37) (tgt := 10) K dX5_copyFrom_37 (by decide) ?_
                    refine x_iload_n (pc := 10) K 0 dX5_copyFrom_10 rfl rfl ?_
                    refine x_bipush (pc := 11) (v := 10) K dX5_copyFrom_11 (by decide) ?_
                    refine x_icmp_ge (pc := 13) (tgt := 40) K dX5_copyFrom_13 (by decide) (fun c_13_9 => ?_) (fun c_13_9 => ?_)
                    · replace c_13_9 := cI_le (a := 10) (b := (((((((((0 + 1) + 1) + 1) + 1) + 1) + 1) + 1) + 1) + 1)) rfl rfl (by omega) (by omega) c_13_9
                      omega
                    · replace c_13_9 := cI_nle (a := 10) (b := (((((((((0 + 1) + 1) + 1) + 1) + 1) + 1) + 1) + 1) + 1)) rfl rfl (by omega) (by omega) c_13_9
                      refine x_aload_n (pc := 16) K 2 dX5_copyFrom_16 rfl rfl ?_
                      refine x_getr (r0 := 9) (pc := 17) (index := 17) (C := RX5) (T := TX5) (N := 3) (j0 := 2) (ref := "OldMap$Triangles") K (by decide) sh_8 rfl i_X5 (by decide) (by decide +kernel) rfl rfl rf_8_2 dX5_copyFrom_17 ?_
                      refine x_iload_n (pc := 20) K 0 dX5_copyFrom_20 rfl rfl ?_
                      refine y_aald (r0 := (10 + (((((((((0 + 1) + 1) + 1) + 1) + 1) + 1) + 1) + 1) + 1))) (j := (((((((((0 + 1) + 1) + 1) + 1) + 1) + 1) + 1) + 1) + 1)) (pc := 21) K (by decide) sh_9 rfl (by omega) (by decide) (rf_9 _) dX5_copyFrom_21 ?_
                      refine x_iconst (pc := 22) (v := 0) K dX5_copyFrom_22 (by decide) ?_
                      refine x_aload_n (pc := 23) K 1 dX5_copyFrom_23 rfl rfl ?_
                      refine x_getr (r0 := 36) (pc := 24) (index := 17) (C := RX5) (T := TX5) (N := 3) (j0 := 2) (ref := "OldMap$Triangles") K (by decide) sh_35 rfl i_X5 (by decide) (by decide +kernel) rfl rfl rf_35_2 dX5_copyFrom_24 ?_
                      refine x_iload_n (pc := 27) K 0 dX5_copyFrom_27 rfl rfl ?_
                      refine y_aald (r0 := (37 + (((((((((0 + 1) + 1) + 1) + 1) + 1) + 1) + 1) + 1) + 1))) (j := (((((((((0 + 1) + 1) + 1) + 1) + 1) + 1) + 1) + 1) + 1)) (pc := 28) K (by decide) sh_36 rfl (by omega) (by decide) (rf_36 _) dX5_copyFrom_28 ?_
                      refine x_iconst (pc := 29) (v := 0) K dX5_copyFrom_29 (by decide) ?_
                      refine x_iconst (pc := 30) (v := 3) K dX5_copyFrom_30 (by decide) ?_
                      refine y_copy (n := 3) (pc := 31) K (shk_cor (show (((((((((0 + 1) + 1) + 1) + 1) + 1) + 1) + 1) + 1) + 1) < 10 by omega)) (shr_cor _ (show (((((((((0 + 1) + 1) + 1) + 1) + 1) + 1) + 1) + 1) + 1) < 10 by omega)) (shk_cork (show (((((((((0 + 1) + 1) + 1) + 1) + 1) + 1) + 1) + 1) + 1) < 10 by omega)) (shr_cork _ (show (((((((((0 + 1) + 1) + 1) + 1) + 1) + 1) + 1) + 1) + 1) < 10 by omega)) rfl rfl rfl (by decide) (by decide) (by decide) (by decide +kernel) (by decide +kernel) (by decide +kernel) (by decide +kernel) (by decide) (Nat.le_of_ble_eq_true rfl) dX5_copyFrom_31 ?_
                      refine x_iinc (pc := 34) (q0 := 0) (v := nI ((((((((((0 + 1) + 1) + 1) + 1) + 1) + 1) + 1) + 1) + 1) + 1)) (lo' := [(2, _), (0, _), (1, _)]) K dX5_copyFrom_34 rfl (nI_incE rfl) (by decide) rfl ?_
                      refine x_goto (pc := 37) (tgt := 10) K dX5_copyFrom_37 (by decide) ?_
                      refine x_iload_n (pc := 10) K 0 dX5_copyFrom_10 rfl rfl ?_
                      refine x_bipush (pc := 11) (v := 10) K dX5_copyFrom_11 (by decide) ?_
                      refine x_icmp_ge (pc := 13) (tgt := 40) K dX5_copyFrom_13 (by decide) (fun c_13_10 => ?_) (fun c_13_10 => ?_)
                      · replace c_13_10 := cI_le (a := 10) (b := ((((((((((0 + 1) + 1) + 1) + 1) + 1) + 1) + 1) + 1) + 1) + 1)) rfl rfl (by omega) (by omega) c_13_10
                        exact ret (pc := 40) dX5_copyFrom_40 (⟨rfl, rfl⟩)
                      · replace c_13_10 := cI_nle (a := 10) (b := ((((((((((0 + 1) + 1) + 1) + 1) + 1) + 1) + 1) + 1) + 1) + 1)) rfl rfl (by omega) (by omega) c_13_10
                        omega

