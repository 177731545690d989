/-! the reference's face: points, triangles, things -/
def cnM (I : hI) (t j : Nat) : Nat := (I 80 (3 * t + j)).toNatClampNeg
def TOkM (I : hI) (t : Nat) : Prop := t < 10 ∧ ∀ j, j < 3 → I 80 (3 * t + j) = nI (cnM I t j) ∧ cnM I t j < 12
def crM (I : hI) (t k mp wh : Nat) : Int64 := (I 77 (4 * cnM I t k + 2 * mp + wh)).toInt64
def crs (ax ay bx bY cx cy : Int64) : Int64 := (bx - ax) * (cy - ay) - (cx - ax) * (bY - ay)
def sdM (I : hI) (t k mp : Nat) (x y : Int64) : Int64 := crs (crM I t k mp 0) (crM I t k mp 1) (crM I t ((k + 1) % 3) mp 0) (crM I t ((k + 1) % 3) mp 1) x y
def rdM (I : hI) (t mp : Nat) : Int64 := sdM I t 0 mp (crM I t 2 mp 0) (crM I t 2 mp 1)
abbrev fltM (I : hI) (t : Nat) : Prop := rdM I t 0 = 0 ∨ rdM I t 1 = 0
def stM (I : hI) (t : Nat) : Int32 := if fltM I t then 2 else if (rdM I t 0 ≤ 0 ∧ rdM I t 1 ≤ 0) ∨ (¬ rdM I t 0 ≤ 0 ∧ ¬ rdM I t 1 ≤ 0) then 0 else 1
abbrev wiM (I : hI) (t mp k : Nat) (x y : Int64) : Prop := (¬ rdM I t mp ≤ 0 ∧ 0 ≤ sdM I t k mp x y) ∨ (rdM I t mp ≤ 0 ∧ sdM I t k mp x y ≤ 0)
abbrev inM (I : hI) (t mp : Nat) (x y : Int64) : Prop := ¬ fltM I t ∧ wiM I t mp 0 x y ∧ wiM I t mp 1 x y ∧ wiM I t mp 2 x y
def pcr (I : hI) (m p q r : Nat) : Int64 := crs (I 77 (4 * p + 2 * m)).toInt64 (I 77 (4 * p + 2 * m + 1)).toInt64 (I 77 (4 * q + 2 * m)).toInt64 (I 77 (4 * q + 2 * m + 1)).toInt64 (I 77 (4 * r + 2 * m)).toInt64 (I 77 (4 * r + 2 * m + 1)).toInt64
def addTM (I : hI) (n : Nat) (p q r : Int32) : hI := h_up (h_up (h_up (h_up I 80 (3 * n) p) 80 (3 * n + 1) q) 80 (3 * n + 2) r) 76 4 (nI n + 1)
def addThM (I : hI) (m c : Nat) (kd x y : Int32) : hI := h_up (h_up (h_up (h_up I 82 (18 * m + 3 * c) kd) 82 (18 * m + 3 * c + 1) x) 82 (18 * m + 3 * c + 2) y) 81 m (nI c + 1)
theorem mp1_of {x : Int32} (h : 0 ≤ x ∧ x ≤ 1) : ∃ p : Nat, p < 2 ∧ x = nI p := by
  obtain ⟨j, hj, e⟩ := nI_of2 (x := x) (M := 1) (n := 1) rfl (Int32.not_lt.mpr h.1) h.2
  exact ⟨j, by omega, e⟩
set_option maxHeartbeats 1000000 in
set_option maxRecDepth 100000 in
theorem c_X8_move (l : Launch) (G : hQ) (I : hI) (J : hJ) (p m x y : Int32) (n : Nat) (hn : I 76 0 = nI n) (h12 : n ≤ 12) : h_Mi l yX8_move wsX8_move 2 43 G [rr G 76, .int p, .int m, .int x, .int y] I J (fun ρ I' J' => (if (0 ≤ p ∧ p < I 76 0) ∧ (0 ≤ m ∧ m ≤ 1) ∧ Pl x y then 1 else -1) = ρ ∧ (if (0 ≤ p ∧ p < I 76 0) ∧ (0 ≤ m ∧ m ≤ 1) ∧ Pl x y then placeM I (tn p) (tn m) x y else I) = I' ∧ J = J') := by
  refine h_Mi.of (ty := .int) (cc := cX8_move) (maxL := 5) [(0, rr G 76), (1, .int p), (2, .int m), (3, .int x), (4, .int y)] (by decide +kernel) rfl (Nat.le_of_ble_eq_true rfl) rfl ?_
  intro Γ K ret
  have i_X8 : ∀ w ∈ u_ws RX8 TX8 36, w ∈ wsX8_move := by decide +kernel
  refine x_aload_n (pc := 0) K 0 dX8_move_0 rfl rfl ?_
  refine x_iload_n (pc := 1) K 1 dX8_move_1 rfl rfl ?_
  refine x_calliV (pc := 2) (st := []) (n := 1) K (by decide) sh_76 rfl (c_X8_isPoint l G _ _ _ n hn h12) gX8_move_X8_isPoint (by decide +kernel) rfl (by decide) (by decide) rfl rfl (Nat.le_of_ble_eq_true rfl) dX8_move_2 (fun r_2 I_2 J_2 hp_2 => ?_)
  obtain ⟨rfl, rfl, rfl⟩ := hp_2
  refine x_if_eq (pc := 5) (tgt := 24) K dX8_move_5 (by decide) (fun c_5 => ?_) (fun c_5 => ?_)
  · replace c_5 := bz_0.mp c_5
    refine x_iconst (pc := 24) (v := -1) K dX8_move_24 (by decide) ?_
    exact ret (pc := 25) dX8_move_25 (⟨if_neg (fun h => c_5 h.1), if_neg (fun h => c_5 h.1), rfl⟩) rfl
  · replace c_5 := bz_n0.mp c_5
    obtain ⟨p, hp, rfl⟩ := has_of c_5 hn (by omega)
    refine x_iload_n (pc := 8) K 2 dX8_move_8 rfl rfl ?_
    refine x_calliS (pc := 9) (st := []) (n := 1) K (c_X8_isMap l G _ _ _) gX8_move_X8_isMap (by decide +kernel) rfl (by decide) (by decide) rfl rfl (Nat.le_of_ble_eq_true rfl) dX8_move_9 (fun r_9 I_9 J_9 hp_9 => ?_)
    obtain ⟨rfl, rfl, rfl⟩ := hp_9
    refine x_if_eq (pc := 12) (tgt := 24) K dX8_move_12 (by decide) (fun c_12 => ?_) (fun c_12 => ?_)
    · replace c_12 := bz_0.mp c_12
      refine x_iconst (pc := 24) (v := -1) K dX8_move_24 (by decide) ?_
      exact ret (pc := 25) dX8_move_25 (⟨if_neg (fun h => c_12 h.2.1), if_neg (fun h => c_12 h.2.1), rfl⟩) rfl
    · replace c_12 := bz_n0.mp c_12
      obtain ⟨mp, hmp, rfl⟩ := mp1_of c_12
      refine x_iload_n (pc := 15) K 3 dX8_move_15 rfl rfl ?_
      refine x_iload (pc := 16) K 4 dX8_move_16 rfl ?_
      refine x_calliS (pc := 18) (st := []) (n := 2) K (c_X8_isPlace l G _ _ _ _) gX8_move_X8_isPlace (by decide +kernel) rfl (by decide) (by decide) rfl rfl (Nat.le_of_ble_eq_true rfl) dX8_move_18 (fun r_18 I_18 J_18 hp_18 => ?_)
      obtain ⟨rfl, rfl, rfl⟩ := hp_18
      refine x_if_ne (pc := 21) (tgt := 26) K dX8_move_21 (by decide) (fun c_21 => ?_) (fun c_21 => ?_)
      · replace c_21 := bz_n0.mp c_21
        refine x_aload_n (pc := 26) K 0 dX8_move_26 rfl rfl ?_
        refine x_getr (r0 := 77) (pc := 27) (index := 7) (C := RX8) (T := TX8) (N := 36) (j0 := 1) (ref := "OldMapModel") K (by decide) sh_76 rfl i_X8 (by decide) (by decide +kernel) rfl rfl rf_76_1 dX8_move_27 ?_
        refine x_iconst (pc := 30) (v := 4) K dX8_move_30 (by decide) ?_
        refine x_iload_n (pc := 31) K 1 dX8_move_31 rfl rfl ?_
        refine x_imul (pc := 32) K dX8_move_32 ?_
        refine x_iconst (pc := 33) (v := 2) K dX8_move_33 (by decide) ?_
        refine x_iload_n (pc := 34) K 2 dX8_move_34 rfl rfl ?_
        refine x_imul (pc := 35) K dX8_move_35 ?_
        refine x_iadd (pc := 36) K dX8_move_36 ?_
        refine x_iload_n (pc := 37) K 3 dX8_move_37 rfl rfl ?_
        refine y_iast (j := ((4 * p) + (2 * mp))) (pc := 38) K (by decide) sh_77 (nI_addE (nI_mulE rfl rfl) (nI_mulE rfl rfl)) (by omega) (by decide) dX8_move_38 ?_
        refine x_aload_n (pc := 39) K 0 dX8_move_39 rfl rfl ?_
        refine x_getr (r0 := 77) (pc := 40) (index := 7) (C := RX8) (T := TX8) (N := 36) (j0 := 1) (ref := "OldMapModel") K (by decide) sh_76 rfl i_X8 (by decide) (by decide +kernel) rfl rfl rf_76_1 dX8_move_40 ?_
        refine x_iconst (pc := 43) (v := 4) K dX8_move_43 (by decide) ?_
        refine x_iload_n (pc := 44) K 1 dX8_move_44 rfl rfl ?_
        refine x_imul (pc := 45) K dX8_move_45 ?_
        refine x_iconst (pc := 46) (v := 2) K dX8_move_46 (by decide) ?_
        refine x_iload_n (pc := 47) K 2 dX8_move_47 rfl rfl ?_
        refine x_imul (pc := 48) K dX8_move_48 ?_
        refine x_iadd (pc := 49) K dX8_move_49 ?_
        refine x_iconst (pc := 50) (v := 1) K dX8_move_50 (by decide) ?_
        refine x_iadd (pc := 51) K dX8_move_51 ?_
        refine x_iload (pc := 52) K 4 dX8_move_52 rfl ?_
        refine y_iast (j := (((4 * p) + (2 * mp)) + 1)) (pc := 54) K (by decide) sh_77 (nI_addE (nI_addE (nI_mulE rfl rfl) (nI_mulE rfl rfl)) rfl) (by omega) (by decide) dX8_move_54 ?_
        refine x_iconst (pc := 55) (v := 1) K dX8_move_55 (by decide) ?_
        exact ret (pc := 56) dX8_move_56 (⟨if_pos ⟨c_5, c_12, c_21⟩, by rw [if_pos ⟨c_5, c_12, c_21⟩, tn_n (by omega), tn_n (by omega)]; rfl, rfl⟩) rfl
      · replace c_21 := bz_0.mp c_21
        refine x_iconst (pc := 24) (v := -1) K dX8_move_24 (by decide) ?_
        exact ret (pc := 25) dX8_move_25 (⟨if_neg (fun h => c_21 h.2.2), if_neg (fun h => c_21 h.2.2), rfl⟩) rfl

set_option maxHeartbeats 1000000 in
set_option maxRecDepth 100000 in
theorem c_X8_sure (l : Launch) (G : hQ) (I : hI) (J : hJ) (p b : Int32) (hb : vp_nar .boolean b = b) (n : Nat) (hn : I 76 0 = nI n) (h12 : n ≤ 12) : h_Mi l yX8_sure wsX8_sure 2 43 G [rr G 76, .int p, .int b] I J (fun ρ I' J' => (if (0 ≤ p ∧ p < I 76 0) then (if I 78 (tn p) = b then 0 else 1) else -1) = ρ ∧ (if (0 ≤ p ∧ p < I 76 0) then h_up I 78 (tn p) b else I) = I' ∧ J = J') := by
  refine h_Mi.of (ty := .int) (cc := cX8_sure) (maxL := 4) [(0, rr G 76), (1, .int p), (2, .int b)] (by decide +kernel) rfl (Nat.le_of_ble_eq_true rfl) rfl ?_
  intro Γ K ret
  have i_X8 : ∀ w ∈ u_ws RX8 TX8 36, w ∈ wsX8_sure := by decide +kernel
  refine x_aload_n (pc := 0) K 0 dX8_sure_0 rfl rfl ?_
  refine x_iload_n (pc := 1) K 1 dX8_sure_1 rfl rfl ?_
  refine x_calliV (pc := 2) (st := []) (n := 1) K (by decide) sh_76 rfl (c_X8_isPoint l G _ _ _ n hn h12) gX8_sure_X8_isPoint (by decide +kernel) rfl (by decide) (by decide) rfl rfl (Nat.le_of_ble_eq_true rfl) dX8_sure_2 (fun r_2 I_2 J_2 hp_2 => ?_)
  obtain ⟨rfl, rfl, rfl⟩ := hp_2
  refine x_if_ne (pc := 5) (tgt := 10) K dX8_sure_5 (by decide) (fun c_5 => ?_) (fun c_5 => ?_)
  · replace c_5 := bz_n0.mp c_5
    obtain ⟨p, hp, rfl⟩ := has_of c_5 hn (by omega)
    refine x_aload_n (pc := 10) K 0 dX8_sure_10 rfl rfl ?_
    refine x_getr (r0 := 78) (pc := 11) (index := 13) (C := RX8) (T := TX8) (N := 36) (j0 := 2) (ref := "OldMapModel") K (by decide) sh_76 rfl i_X8 (by decide) (by decide +kernel) rfl rfl rf_76_2 dX8_sure_11 ?_
    refine x_iload_n (pc := 14) K 1 dX8_sure_14 rfl rfl ?_
    refine y_zald (j := p) (pc := 15) K (by decide) sh_78 rfl (by omega) (by decide) dX8_sure_15 ?_
    refine x_iload_n (pc := 16) K 2 dX8_sure_16 rfl rfl ?_
    refine x_icmp_ne (pc := 17) (tgt := 24) K dX8_sure_17 (by decide) (fun c_17 => ?_) (fun c_17 => ?_)
    · refine x_iconst (pc := 24) (v := 1) K dX8_sure_24 (by decide) ?_
      refine x_istore_n (pc := 25) (lo' := [(3, _), (0, _), (1, _), (2, _)]) K dX8_sure_25 rfl (by decide) rfl ?_
      refine x_aload_n (pc := 26) K 1 dX8_sure_26 rfl rfl ?_
      refine x_getr (r0 := 78) (pc := 27) (index := 13) (C := RX8) (T := TX8) (N := 36) (j0 := 2) (ref := "OldMapModel") K (by decide) sh_76 rfl i_X8 (by decide) (by decide +kernel) rfl rfl rf_76_2 dX8_sure_27 ?_
      refine x_iload_n (pc := 30) K 2 dX8_sure_30 rfl rfl ?_
      refine x_iload_n (pc := 31) K 3 dX8_sure_31 rfl rfl ?_
      refine y_zast (j := p) (pc := 32) K (by decide) sh_78 rfl (by omega) (by decide) hb dX8_sure_32 ?_
      refine x_iload_n (pc := 33) K 0 dX8_sure_33 rfl rfl ?_
      exact ret (pc := 34) dX8_sure_34 (⟨by rw [if_pos c_5, tn_n (by omega), if_neg c_17], by rw [if_pos c_5, tn_n (by omega)], rfl⟩) rfl
    · refine x_iconst (pc := 20) (v := 0) K dX8_sure_20 (by decide) ?_
      refine x_goto (pc := 21) (tgt := 25) K dX8_sure_21 (by decide) ?_
      refine x_istore_n (pc := 25) (lo' := [(3, _), (0, _), (1, _), (2, _)]) K dX8_sure_25 rfl (by decide) rfl ?_
      refine x_aload_n (pc := 26) K 1 dX8_sure_26 rfl rfl ?_
      refine x_getr (r0 := 78) (pc := 27) (index := 13) (C := RX8) (T := TX8) (N := 36) (j0 := 2) (ref := "OldMapModel") K (by decide) sh_76 rfl i_X8 (by decide) (by decide +kernel) rfl rfl rf_76_2 dX8_sure_27 ?_
      refine x_iload_n (pc := 30) K 2 dX8_sure_30 rfl rfl ?_
      refine x_iload_n (pc := 31) K 3 dX8_sure_31 rfl rfl ?_
      refine y_zast (j := p) (pc := 32) K (by decide) sh_78 rfl (by omega) (by decide) hb dX8_sure_32 ?_
      refine x_iload_n (pc := 33) K 0 dX8_sure_33 rfl rfl ?_
      exact ret (pc := 34) dX8_sure_34 (⟨by rw [if_pos c_5, tn_n (by omega), if_pos c_17], by rw [if_pos c_5, tn_n (by omega)], rfl⟩) rfl
  · replace c_5 := bz_0.mp c_5
    refine x_iconst (pc := 8) (v := -1) K dX8_sure_8 (by decide) ?_
    exact ret (pc := 9) dX8_sure_9 (⟨if_neg c_5, if_neg c_5, rfl⟩) rfl

set_option maxHeartbeats 1000000 in
set_option maxRecDepth 100000 in
theorem c_X8_put (l : Launch) (G : hQ) (I : hI) (J : hJ) (p b : Int32) (hb : vp_nar .boolean b = b) (n : Nat) (hn : I 76 0 = nI n) (h12 : n ≤ 12) : h_Mi l yX8_put wsX8_put 2 43 G [rr G 76, .int p, .int b] I J (fun ρ I' J' => (if (0 ≤ p ∧ p < I 76 0) then (if I 79 (tn p) = b then 0 else 1) else -1) = ρ ∧ (if (0 ≤ p ∧ p < I 76 0) then h_up I 79 (tn p) b else I) = I' ∧ J = J') := by
  refine h_Mi.of (ty := .int) (cc := cX8_put) (maxL := 4) [(0, rr G 76), (1, .int p), (2, .int b)] (by decide +kernel) rfl (Nat.le_of_ble_eq_true rfl) rfl ?_
  intro Γ K ret
  have i_X8 : ∀ w ∈ u_ws RX8 TX8 36, w ∈ wsX8_put := by decide +kernel
  refine x_aload_n (pc := 0) K 0 dX8_put_0 rfl rfl ?_
  refine x_iload_n (pc := 1) K 1 dX8_put_1 rfl rfl ?_
  refine x_calliV (pc := 2) (st := []) (n := 1) K (by decide) sh_76 rfl (c_X8_isPoint l G _ _ _ n hn h12) gX8_put_X8_isPoint (by decide +kernel) rfl (by decide) (by decide) rfl rfl (Nat.le_of_ble_eq_true rfl) dX8_put_2 (fun r_2 I_2 J_2 hp_2 => ?_)
  obtain ⟨rfl, rfl, rfl⟩ := hp_2
  refine x_if_ne (pc := 5) (tgt := 10) K dX8_put_5 (by decide) (fun c_5 => ?_) (fun c_5 => ?_)
  · replace c_5 := bz_n0.mp c_5
    obtain ⟨p, hp, rfl⟩ := has_of c_5 hn (by omega)
    refine x_aload_n (pc := 10) K 0 dX8_put_10 rfl rfl ?_
    refine x_getr (r0 := 79) (pc := 11) (index := 17) (C := RX8) (T := TX8) (N := 36) (j0 := 3) (ref := "OldMapModel") K (by decide) sh_76 rfl i_X8 (by decide) (by decide +kernel) rfl rfl rf_76_3 dX8_put_11 ?_
    refine x_iload_n (pc := 14) K 1 dX8_put_14 rfl rfl ?_
    refine y_zald (j := p) (pc := 15) K (by decide) sh_79 rfl (by omega) (by decide) dX8_put_15 ?_
    refine x_iload_n (pc := 16) K 2 dX8_put_16 rfl rfl ?_
    refine x_icmp_ne (pc := 17) (tgt := 24) K dX8_put_17 (by decide) (fun c_17 => ?_) (fun c_17 => ?_)
    · refine x_iconst (pc := 24) (v := 1) K dX8_put_24 (by decide) ?_
      refine x_istore_n (pc := 25) (lo' := [(3, _), (0, _), (1, _), (2, _)]) K dX8_put_25 rfl (by decide) rfl ?_
      refine x_aload_n (pc := 26) K 1 dX8_put_26 rfl rfl ?_
      refine x_getr (r0 := 79) (pc := 27) (index := 17) (C := RX8) (T := TX8) (N := 36) (j0 := 3) (ref := "OldMapModel") K (by decide) sh_76 rfl i_X8 (by decide) (by decide +kernel) rfl rfl rf_76_3 dX8_put_27 ?_
      refine x_iload_n (pc := 30) K 2 dX8_put_30 rfl rfl ?_
      refine x_iload_n (pc := 31) K 3 dX8_put_31 rfl rfl ?_
      refine y_zast (j := p) (pc := 32) K (by decide) sh_79 rfl (by omega) (by decide) hb dX8_put_32 ?_
      refine x_iload_n (pc := 33) K 0 dX8_put_33 rfl rfl ?_
      exact ret (pc := 34) dX8_put_34 (⟨by rw [if_pos c_5, tn_n (by omega), if_neg c_17], by rw [if_pos c_5, tn_n (by omega)], rfl⟩) rfl
    · refine x_iconst (pc := 20) (v := 0) K dX8_put_20 (by decide) ?_
      refine x_goto (pc := 21) (tgt := 25) K dX8_put_21 (by decide) ?_
      refine x_istore_n (pc := 25) (lo' := [(3, _), (0, _), (1, _), (2, _)]) K dX8_put_25 rfl (by decide) rfl ?_
      refine x_aload_n (pc := 26) K 1 dX8_put_26 rfl rfl ?_
      refine x_getr (r0 := 79) (pc := 27) (index := 17) (C := RX8) (T := TX8) (N := 36) (j0 := 3) (ref := "OldMapModel") K (by decide) sh_76 rfl i_X8 (by decide) (by decide +kernel) rfl rfl rf_76_3 dX8_put_27 ?_
      refine x_iload_n (pc := 30) K 2 dX8_put_30 rfl rfl ?_
      refine x_iload_n (pc := 31) K 3 dX8_put_31 rfl rfl ?_
      refine y_zast (j := p) (pc := 32) K (by decide) sh_79 rfl (by omega) (by decide) hb dX8_put_32 ?_
      refine x_iload_n (pc := 33) K 0 dX8_put_33 rfl rfl ?_
      exact ret (pc := 34) dX8_put_34 (⟨by rw [if_pos c_5, tn_n (by omega), if_pos c_17], by rw [if_pos c_5, tn_n (by omega)], rfl⟩) rfl
  · replace c_5 := bz_0.mp c_5
    refine x_iconst (pc := 8) (v := -1) K dX8_put_8 (by decide) ?_
    exact ret (pc := 9) dX8_put_9 (⟨if_neg c_5, if_neg c_5, rfl⟩) rfl

set_option maxHeartbeats 1000000 in
set_option maxRecDepth 100000 in
theorem c_X8_of (l : Launch) (G : hQ) (I : hI) (J : hJ) (p w : Int32) (n : Nat) (hn : I 76 0 = nI n) (h12 : n ≤ 12) : h_Mi l yX8_of wsX8_of 2 43 G [rr G 76, .int p, .int w] I J (fun ρ I' J' => (if (0 ≤ p ∧ p < I 76 0) ∧ (0 ≤ w ∧ w ≤ 5) then (if tn w < 4 then I 77 (4 * tn p + tn w) else if tn w = 4 then (if I 78 (tn p) = 0 then 0 else 1) else (if I 79 (tn p) = 0 then 0 else 1)) else -2000) = ρ ∧ I = I' ∧ J = J') := by
  refine h_Mi.of (ty := .int) (cc := cX8_of) (maxL := 3) [(0, rr G 76), (1, .int p), (2, .int w)] (by decide +kernel) rfl (Nat.le_of_ble_eq_true rfl) rfl ?_
  intro Γ K ret
  have i_X8 : ∀ w ∈ u_ws RX8 TX8 36, w ∈ wsX8_of := by decide +kernel
  refine x_aload_n (pc := 0) K 0 dX8_of_0 rfl rfl ?_
  refine x_iload_n (pc := 1) K 1 dX8_of_1 rfl rfl ?_
  refine x_calliV (pc := 2) (st := []) (n := 1) K (by decide) sh_76 rfl (c_X8_isPoint l G _ _ _ n hn h12) gX8_of_X8_isPoint (by decide +kernel) rfl (by decide) (by decide) rfl rfl (Nat.le_of_ble_eq_true rfl) dX8_of_2 (fun r_2 I_2 J_2 hp_2 => ?_)
  obtain ⟨rfl, rfl, rfl⟩ := hp_2
  refine x_if_eq (pc := 5) (tgt := 17) K dX8_of_5 (by decide) (fun c_5 => ?_) (fun c_5 => ?_)
  · replace c_5 := bz_0.mp c_5
    refine x_sipush (pc := 17) (v := -2000) K dX8_of_17 (by decide) ?_
    exact ret (pc := 20) dX8_of_20 (⟨if_neg (fun h => c_5 h.1), rfl, rfl⟩) rfl
  · replace c_5 := bz_n0.mp c_5
    obtain ⟨q, hq, rfl⟩ := has_of c_5 hn (by omega)
    refine x_iload_n (pc := 8) K 2 dX8_of_8 rfl rfl ?_
    refine x_iconst (pc := 9) (v := 0) K dX8_of_9 (by decide) ?_
    refine x_iconst (pc := 10) (v := 5) K dX8_of_10 (by decide) ?_
    refine x_calliS (pc := 11) (st := []) (n := 3) K (c_X8_in l G _ _ _ _ _) gX8_of_X8_in (by decide +kernel) rfl (by decide) (by decide) rfl rfl (Nat.le_of_ble_eq_true rfl) dX8_of_11 (fun r_11 I_11 J_11 hp_11 => ?_)
    obtain ⟨rfl, rfl, rfl⟩ := hp_11
    refine x_if_ne (pc := 14) (tgt := 21) K dX8_of_14 (by decide) (fun c_14 => ?_) (fun c_14 => ?_)
    · replace c_14 := bz_n0.mp c_14
      obtain ⟨v, hv, rfl⟩ := nI_of2 (M := 5) (n := 5) rfl (Int32.not_lt.mpr c_14.1) c_14.2
      refine x_iload_n (pc := 21) K 2 dX8_of_21 rfl rfl ?_
      refine x_iconst (pc := 22) (v := 4) K dX8_of_22 (by decide) ?_
      refine x_icmp_ge (pc := 23) (tgt := 37) K dX8_of_23 (by decide) (fun c_23 => ?_) (fun c_23 => ?_)
      · replace c_23 := cI_le (a := 4) (b := v) rfl rfl (by omega) (by omega) c_23
        refine x_iload_n (pc := 37) K 2 dX8_of_37 rfl rfl ?_
        refine x_iconst (pc := 38) (v := 4) K dX8_of_38 (by decide) ?_
        refine x_icmp_ne (pc := 39) (tgt := 59) K dX8_of_39 (by decide) (fun c_39 => ?_) (fun c_39 => ?_)
        · replace c_39 := cI_ne (a := v) (b := 4) rfl rfl (by omega) (by omega) c_39
          refine x_aload_n (pc := 59) K 0 dX8_of_59 rfl rfl ?_
          refine x_getr (r0 := 79) (pc := 60) (index := 17) (C := RX8) (T := TX8) (N := 36) (j0 := 3) (ref := "OldMapModel") K (by decide) sh_76 rfl i_X8 (by decide) (by decide +kernel) rfl rfl rf_76_3 dX8_of_60 ?_
          refine x_iload_n (pc := 63) K 1 dX8_of_63 rfl rfl ?_
          refine y_zald (j := q) (pc := 64) K (by decide) sh_79 rfl (by omega) (by decide) dX8_of_64 ?_
          refine x_if_eq (pc := 65) (tgt := 72) K dX8_of_65 (by decide) (fun c_65 => ?_) (fun c_65 => ?_)
          · refine x_iconst (pc := 72) (v := 0) K dX8_of_72 (by decide) ?_
            exact ret (pc := 73) dX8_of_73 (⟨by rw [if_pos ⟨c_5, c_14⟩, tn_n (by omega), tn_n (by omega), if_neg (by omega), if_neg (by omega), if_pos c_65], rfl, rfl⟩) rfl
          · refine x_iconst (pc := 68) (v := 1) K dX8_of_68 (by decide) ?_
            refine x_goto (pc := 69) (tgt := 73) K dX8_of_69 (by decide) ?_
            exact ret (pc := 73) dX8_of_73 (⟨by rw [if_pos ⟨c_5, c_14⟩, tn_n (by omega), tn_n (by omega), if_neg (by omega), if_neg (by omega), if_neg c_65], rfl, rfl⟩) rfl
        · replace c_39 := cI_eq (a := v) (b := 4) rfl rfl (by omega) (by omega) c_39
          refine x_aload_n (pc := 42) K 0 dX8_of_42 rfl rfl ?_
          refine x_getr (r0 := 78) (pc := 43) (index := 13) (C := RX8) (T := TX8) (N := 36) (j0 := 2) (ref := "OldMapModel") K (by decide) sh_76 rfl i_X8 (by decide) (by decide +kernel) rfl rfl rf_76_2 dX8_of_43 ?_
          refine x_iload_n (pc := 46) K 1 dX8_of_46 rfl rfl ?_
          refine y_zald (j := q) (pc := 47) K (by decide) sh_78 rfl (by omega) (by decide) dX8_of_47 ?_
          refine x_if_eq (pc := 48) (tgt := 55) K dX8_of_48 (by decide) (fun c_48 => ?_) (fun c_48 => ?_)
          · refine x_iconst (pc := 55) (v := 0) K dX8_of_55 (by decide) ?_
            refine x_goto (pc := 56) (tgt := 73) K dX8_of_56 (by decide) ?_
            exact ret (pc := 73) dX8_of_73 (⟨by rw [if_pos ⟨c_5, c_14⟩, tn_n (by omega), tn_n (by omega), if_neg (by omega), if_pos (by omega), if_pos c_48], rfl, rfl⟩) rfl
          · refine x_iconst (pc := 51) (v := 1) K dX8_of_51 (by decide) ?_
            refine x_goto (pc := 52) (tgt := 73) K dX8_of_52 (by decide) ?_
            exact ret (pc := 73) dX8_of_73 (⟨by rw [if_pos ⟨c_5, c_14⟩, tn_n (by omega), tn_n (by omega), if_neg (by omega), if_pos (by omega), if_neg c_48], rfl, rfl⟩) rfl
      · replace c_23 := cI_nle (a := 4) (b := v) rfl rfl (by omega) (by omega) c_23
        refine x_aload_n (pc := 26) K 0 dX8_of_26 rfl rfl ?_
        refine x_getr (r0 := 77) (pc := 27) (index := 7) (C := RX8) (T := TX8) (N := 36) (j0 := 1) (ref := "OldMapModel") K (by decide) sh_76 rfl i_X8 (by decide) (by decide +kernel) rfl rfl rf_76_1 dX8_of_27 ?_
        refine x_iconst (pc := 30) (v := 4) K dX8_of_30 (by decide) ?_
        refine x_iload_n (pc := 31) K 1 dX8_of_31 rfl rfl ?_
        refine x_imul (pc := 32) K dX8_of_32 ?_
        refine x_iload_n (pc := 33) K 2 dX8_of_33 rfl rfl ?_
        refine x_iadd (pc := 34) K dX8_of_34 ?_
        refine y_iald (j := ((4 * q) + v)) (pc := 35) K (by decide) sh_77 (nI_addE (nI_mulE rfl rfl) rfl) (by omega) (by decide) dX8_of_35 ?_
        exact ret (pc := 36) dX8_of_36 (⟨by rw [if_pos ⟨c_5, c_14⟩, tn_n (by omega), tn_n (by omega), if_pos (by omega)], rfl, rfl⟩) rfl
    · replace c_14 := bz_0.mp c_14
      refine x_sipush (pc := 17) (v := -2000) K dX8_of_17 (by decide) ?_
      exact ret (pc := 20) dX8_of_20 (⟨if_neg (fun h => c_14 h.2), rfl, rfl⟩) rfl

set_option maxHeartbeats 1000000 in
set_option maxRecDepth 100000 in
theorem c_X8_isTriangle (l : Launch) (G : hQ) (I : hI) (J : hJ) (x : Int32) (nt : Nat) (ht : I 76 4 = nI nt) (h10 : nt ≤ 10) : h_Mi l yX8_isTriangle wsX8_isTriangle 1 22 G [rr G 76, .int x] I J (fun ρ I' J' => bz (0 ≤ x ∧ x < I 76 4) = ρ ∧ I = I' ∧ J = J') := by
  refine h_Mi.of (ty := .boolean) (cc := cX8_isTriangle) (maxL := 2) [(0, rr G 76), (1, .int x)] (by decide +kernel) rfl (Nat.le_of_ble_eq_true rfl) rfl ?_
  intro Γ K ret
  have i_X8 : ∀ w ∈ u_ws RX8 TX8 36, w ∈ wsX8_isTriangle := by decide +kernel
  refine x_iload_n (pc := 0) K 1 dX8_isTriangle_0 rfl rfl ?_
  refine x_iconst (pc := 1) (v := 0) K dX8_isTriangle_1 (by decide) ?_
  refine x_aload_n (pc := 2) K 0 dX8_isTriangle_2 rfl rfl ?_
  refine x_geti (pc := 3) (index := 183) (C := RX8) (T := TX8) (N := 36) (j0 := 4) (ref := "OldMapModel") K (by decide) sh_76 rfl i_X8 (by decide) (by decide +kernel) rfl rfl dX8_isTriangle_3 ?_
  refine x_topie (nI nt) ht ?_
  refine x_iconst (pc := 6) (v := 1) K dX8_isTriangle_6 (by decide) ?_
  refine x_isub (pc := 7) K dX8_isTriangle_7 ?_
  refine x_calliS (pc := 8) (st := []) (n := 3) K (c_X8_in l G _ _ _ _ _) gX8_isTriangle_X8_in (by decide +kernel) rfl (by decide) (by decide) rfl rfl (Nat.le_of_ble_eq_true rfl) dX8_isTriangle_8 (fun r_8 I_8 J_8 hp_8 => ?_)
  obtain ⟨rfl, rfl, rfl⟩ := hp_8
  exact ret (pc := 11) dX8_isTriangle_11 (⟨by rw [ht]; simp only [lt_pred (show nt < 2 ^ 31 by omega)], rfl, rfl⟩) bz_nar

set_option maxHeartbeats 1000000 in
set_option maxRecDepth 100000 in
theorem c_X8_cross (l : Launch) (G : hQ) (I : hI) (J : hJ) (a b c d e f : Int64) : h_Ml l yX8_cross wsX8_cross 0 0 G [.long a, .long b, .long c, .long d, .long e, .long f] I J (fun ρ I' J' => crs a b c d e f = ρ ∧ I = I' ∧ J = J') := by
  refine h_Ml.of (cc := cX8_cross) (maxL := 12) [(0, .long a), (2, .long b), (4, .long c), (6, .long d), (8, .long e), (10, .long f)] (by decide +kernel) rfl (Nat.le_of_ble_eq_true rfl) rfl ?_
  intro Γ K ret
  refine x_lload (pc := 0) K 2 dX8_cross_0 rfl ?_
  refine x_lload_n (pc := 2) K 0 dX8_cross_2 rfl rfl ?_
  refine x_lsub (pc := 3) K dX8_cross_3 ?_
  refine x_lload (pc := 4) K 5 dX8_cross_4 rfl ?_
  refine x_lload_n (pc := 6) K 1 dX8_cross_6 rfl rfl ?_
  refine x_lsub (pc := 7) K dX8_cross_7 ?_
  refine x_lmul (pc := 8) K dX8_cross_8 ?_
  refine x_lload (pc := 9) K 4 dX8_cross_9 rfl ?_
  refine x_lload_n (pc := 11) K 0 dX8_cross_11 rfl rfl ?_
  refine x_lsub (pc := 12) K dX8_cross_12 ?_
  refine x_lload (pc := 13) K 3 dX8_cross_13 rfl ?_
  refine x_lload_n (pc := 15) K 1 dX8_cross_15 rfl rfl ?_
  refine x_lsub (pc := 16) K dX8_cross_16 ?_
  refine x_lmul (pc := 17) K dX8_cross_17 ?_
  refine x_lsub (pc := 18) K dX8_cross_18 ?_
  exact ret (pc := 19) dX8_cross_19 (⟨rfl, rfl, rfl⟩)

set_option maxHeartbeats 1000000 in
set_option maxRecDepth 100000 in
theorem c_X8_corner (l : Launch) (G : hQ) (I : hI) (J : hJ) (t k mp wh : Nat) (hT : TOkM I t) (hk : k < 3) (hm : mp < 2) (hw : wh < 2) : h_Ml l yX8_corner wsX8_corner 0 0 G [rr G 76, .int (nI t), .int (nI k), .int (nI mp), .int (nI wh)] I J (fun ρ I' J' => crM I t k mp wh = ρ ∧ I = I' ∧ J = J') := by
  refine h_Ml.of (cc := cX8_corner) (maxL := 5) [(0, rr G 76), (1, .int (nI t)), (2, .int (nI k)), (3, .int (nI mp)), (4, .int (nI wh))] (by decide +kernel) rfl (Nat.le_of_ble_eq_true rfl) rfl ?_
  intro Γ K ret
  have i_X8 : ∀ w ∈ u_ws RX8 TX8 36, w ∈ wsX8_corner := by decide +kernel
  have ht10 := hT.1
  have hc := (hT.2 k hk).2
  refine x_aload_n (pc := 0) K 0 dX8_corner_0 rfl rfl ?_
  refine x_getr (r0 := 77) (pc := 1) (index := 7) (C := RX8) (T := TX8) (N := 36) (j0 := 1) (ref := "OldMapModel") K (by decide) sh_76 rfl i_X8 (by decide) (by decide +kernel) rfl rfl rf_76_1 dX8_corner_1 ?_
  refine x_iconst (pc := 4) (v := 4) K dX8_corner_4 (by decide) ?_
  refine x_aload_n (pc := 5) K 0 dX8_corner_5 rfl rfl ?_
  refine x_getr (r0 := 80) (pc := 6) (index := 20) (C := RX8) (T := TX8) (N := 36) (j0 := 5) (ref := "OldMapModel") K (by decide) sh_76 rfl i_X8 (by decide) (by decide +kernel) rfl rfl rf_76_5 dX8_corner_6 ?_
  refine x_iconst (pc := 9) (v := 3) K dX8_corner_9 (by decide) ?_
  refine x_iload_n (pc := 10) K 1 dX8_corner_10 rfl rfl ?_
  refine x_imul (pc := 11) K dX8_corner_11 ?_
  refine x_iload_n (pc := 12) K 2 dX8_corner_12 rfl rfl ?_
  refine x_iadd (pc := 13) K dX8_corner_13 ?_
  refine y_iald (j := ((3 * t) + k)) (pc := 14) K (by decide) sh_80 (nI_addE (nI_mulE rfl rfl) rfl) (by omega) (by decide) dX8_corner_14 ?_
  refine x_topie (nI (cnM I t k)) (hT.2 k (by omega)).1 ?_
  refine x_imul (pc := 15) K dX8_corner_15 ?_
  refine x_iconst (pc := 16) (v := 2) K dX8_corner_16 (by decide) ?_
  refine x_iload_n (pc := 17) K 3 dX8_corner_17 rfl rfl ?_
  refine x_imul (pc := 18) K dX8_corner_18 ?_
  refine x_iadd (pc := 19) K dX8_corner_19 ?_
  refine x_iload (pc := 20) K 4 dX8_corner_20 rfl ?_
  refine x_iadd (pc := 22) K dX8_corner_22 ?_
  refine y_iald (j := (((4 * (cnM I t k)) + (2 * mp)) + wh)) (pc := 23) K (by decide) sh_77 (nI_addE (nI_addE (nI_mulE rfl rfl) (nI_mulE rfl rfl)) rfl) (by omega) (by decide) dX8_corner_23 ?_
  refine x_i2l (pc := 24) K dX8_corner_24 ?_
  exact ret (pc := 25) dX8_corner_25 (⟨rfl, rfl, rfl⟩)

set_option maxHeartbeats 1000000 in
set_option maxRecDepth 100000 in
theorem c_X8_side (l : Launch) (G : hQ) (I : hI) (J : hJ) (t k mp : Nat) (x y : Int64) (hT : TOkM I t) (hk : k < 3) (hm : mp < 2) : h_Ml l yX8_side wsX8_side 1 31 G [rr G 76, .int (nI t), .int (nI k), .int (nI mp), .long x, .long y] I J (fun ρ I' J' => sdM I t k mp x y = ρ ∧ I = I' ∧ J = J') := by
  refine h_Ml.of (cc := cX8_side) (maxL := 9) [(0, rr G 76), (1, .int (nI t)), (2, .int (nI k)), (3, .int (nI mp)), (4, .long x), (6, .long y)] (by decide +kernel) rfl (Nat.le_of_ble_eq_true rfl) rfl ?_
  intro Γ K ret
  refine x_iload_n (pc := 0) K 2 dX8_side_0 rfl rfl ?_
  refine x_iconst (pc := 1) (v := 1) K dX8_side_1 (by decide) ?_
  refine x_iadd (pc := 2) K dX8_side_2 ?_
  refine x_iconst (pc := 3) (v := 3) K dX8_side_3 (by decide) ?_
  refine x_irem (pc := 4) K dX8_side_4 (by decide) ?_
  refine x_topie (nI ((k + 1) % 3)) (nI_remE (nI_addE rfl rfl) rfl (by omega) (by omega)) ?_
  refine x_istore (pc := 5) (lo' := [(8, _), (0, _), (1, _), (2, _), (3, _), (4, _), (6, _)]) K dX8_side_5 (by decide) rfl ?_
  refine x_aload_n (pc := 7) K 1 dX8_side_7 rfl rfl ?_
  refine x_iload_n (pc := 8) K 2 dX8_side_8 rfl rfl ?_
  refine x_iload_n (pc := 9) K 3 dX8_side_9 rfl rfl ?_
  refine x_iload_n (pc := 10) K 4 dX8_side_10 rfl rfl ?_
  refine x_iconst (pc := 11) (v := 0) K dX8_side_11 (by decide) ?_
  refine x_calllV (pc := 12) (st := []) (n := 4) K (by decide) sh_76 rfl (c_X8_corner l G _ _ t k mp 0 hT (by omega) (by omega) (by omega)) gX8_side_X8_corner (by decide +kernel) rfl (by decide) (by decide) rfl rfl (Nat.le_of_ble_eq_true rfl) dX8_side_12 (fun r_12 I_12 J_12 hp_12 => ?_)
  obtain ⟨rfl, rfl, rfl⟩ := hp_12
  refine x_aload_n (pc := 15) K 1 dX8_side_15 rfl rfl ?_
  refine x_iload_n (pc := 16) K 2 dX8_side_16 rfl rfl ?_
  refine x_iload_n (pc := 17) K 3 dX8_side_17 rfl rfl ?_
  refine x_iload_n (pc := 18) K 4 dX8_side_18 rfl rfl ?_
  refine x_iconst (pc := 19) (v := 1) K dX8_side_19 (by decide) ?_
  refine x_calllV (pc := 20) (st := [_]) (n := 4) K (by decide) sh_76 rfl (c_X8_corner l G _ _ t k mp 1 hT (by omega) (by omega) (by omega)) gX8_side_X8_corner (by decide +kernel) rfl (by decide) (by decide) rfl rfl (Nat.le_of_ble_eq_true rfl) dX8_side_20 (fun r_20 I_20 J_20 hp_20 => ?_)
  obtain ⟨rfl, rfl, rfl⟩ := hp_20
  refine x_aload_n (pc := 23) K 1 dX8_side_23 rfl rfl ?_
  refine x_iload_n (pc := 24) K 2 dX8_side_24 rfl rfl ?_
  refine x_iload (pc := 25) K 0 dX8_side_25 rfl ?_
  refine x_iload_n (pc := 27) K 4 dX8_side_27 rfl rfl ?_
  refine x_iconst (pc := 28) (v := 0) K dX8_side_28 (by decide) ?_
  refine x_calllV (pc := 29) (st := [_, _]) (n := 4) K (by decide) sh_76 rfl (c_X8_corner l G _ _ t ((k + 1) % 3) mp 0 hT (by omega) (by omega) (by omega)) gX8_side_X8_corner (by decide +kernel) rfl (by decide) (by decide) rfl rfl (Nat.le_of_ble_eq_true rfl) dX8_side_29 (fun r_29 I_29 J_29 hp_29 => ?_)
  obtain ⟨rfl, rfl, rfl⟩ := hp_29
  refine x_aload_n (pc := 32) K 1 dX8_side_32 rfl rfl ?_
  refine x_iload_n (pc := 33) K 2 dX8_side_33 rfl rfl ?_
  refine x_iload (pc := 34) K 0 dX8_side_34 rfl ?_
  refine x_iload_n (pc := 36) K 4 dX8_side_36 rfl rfl ?_
  refine x_iconst (pc := 37) (v := 1) K dX8_side_37 (by decide) ?_
  refine x_calllV (pc := 38) (st := [_, _, _]) (n := 4) K (by decide) sh_76 rfl (c_X8_corner l G _ _ t ((k + 1) % 3) mp 1 hT (by omega) (by omega) (by omega)) gX8_side_X8_corner (by decide +kernel) rfl (by decide) (by decide) rfl rfl (Nat.le_of_ble_eq_true rfl) dX8_side_38 (fun r_38 I_38 J_38 hp_38 => ?_)
  obtain ⟨rfl, rfl, rfl⟩ := hp_38
  refine x_lload (pc := 41) K 5 dX8_side_41 rfl ?_
  refine x_lload (pc := 43) K 6 dX8_side_43 rfl ?_
  refine x_calllS (pc := 45) (st := []) (n := 6) K (c_X8_cross l G _ _ _ _ _ _ _ _) gX8_side_X8_cross (by decide +kernel) rfl (by decide) (by decide) rfl rfl (Nat.le_of_ble_eq_true rfl) dX8_side_45 (fun r_45 I_45 J_45 hp_45 => ?_)
  obtain ⟨rfl, rfl, rfl⟩ := hp_45
  exact ret (pc := 48) dX8_side_48 (⟨rfl, rfl, rfl⟩)

set_option maxHeartbeats 1000000 in
set_option maxRecDepth 100000 in
theorem c_X8_round (l : Launch) (G : hQ) (I : hI) (J : hJ) (t mp : Nat) (hT : TOkM I t) (hm : mp < 2) : h_Ml l yX8_round wsX8_round 2 59 G [rr G 76, .int (nI t), .int (nI mp)] I J (fun ρ I' J' => rdM I t mp = ρ ∧ I = I' ∧ J = J') := by
  refine h_Ml.of (cc := cX8_round) (maxL := 3) [(0, rr G 76), (1, .int (nI t)), (2, .int (nI mp))] (by decide +kernel) rfl (Nat.le_of_ble_eq_true rfl) rfl ?_
  intro Γ K ret
  refine x_aload_n (pc := 0) K 0 dX8_round_0 rfl rfl ?_
  refine x_iload_n (pc := 1) K 1 dX8_round_1 rfl rfl ?_
  refine x_iconst (pc := 2) (v := 0) K dX8_round_2 (by decide) ?_
  refine x_iload_n (pc := 3) K 2 dX8_round_3 rfl rfl ?_
  refine x_aload_n (pc := 4) K 0 dX8_round_4 rfl rfl ?_
  refine x_iload_n (pc := 5) K 1 dX8_round_5 rfl rfl ?_
  refine x_iconst (pc := 6) (v := 2) K dX8_round_6 (by decide) ?_
  refine x_iload_n (pc := 7) K 2 dX8_round_7 rfl rfl ?_
  refine x_iconst (pc := 8) (v := 0) K dX8_round_8 (by decide) ?_
  refine x_calllV (pc := 9) (st := [_, _, _, _]) (n := 4) K (by decide) sh_76 rfl (c_X8_corner l G _ _ t 2 mp 0 hT (by omega) (by omega) (by omega)) gX8_round_X8_corner (by decide +kernel) rfl (by decide) (by decide) rfl rfl (Nat.le_of_ble_eq_true rfl) dX8_round_9 (fun r_9 I_9 J_9 hp_9 => ?_)
  obtain ⟨rfl, rfl, rfl⟩ := hp_9
  refine x_aload_n (pc := 12) K 0 dX8_round_12 rfl rfl ?_
  refine x_iload_n (pc := 13) K 1 dX8_round_13 rfl rfl ?_
  refine x_iconst (pc := 14) (v := 2) K dX8_round_14 (by decide) ?_
  refine x_iload_n (pc := 15) K 2 dX8_round_15 rfl rfl ?_
  refine x_iconst (pc := 16) (v := 1) K dX8_round_16 (by decide) ?_
  refine x_calllV (pc := 17) (st := [_, _, _, _, _]) (n := 4) K (by decide) sh_76 rfl (c_X8_corner l G _ _ t 2 mp 1 hT (by omega) (by omega) (by omega)) gX8_round_X8_corner (by decide +kernel) rfl (by decide) (by decide) rfl rfl (Nat.le_of_ble_eq_true rfl) dX8_round_17 (fun r_17 I_17 J_17 hp_17 => ?_)
  obtain ⟨rfl, rfl, rfl⟩ := hp_17
  refine x_calllV (pc := 20) (st := []) (n := 5) K (by decide) sh_76 rfl (c_X8_side l G _ _ t 0 mp _ _ hT (by omega) (by omega)) gX8_round_X8_side (by decide +kernel) rfl (by decide) (by decide) rfl rfl (Nat.le_of_ble_eq_true rfl) dX8_round_20 (fun r_20 I_20 J_20 hp_20 => ?_)
  obtain ⟨rfl, rfl, rfl⟩ := hp_20
  exact ret (pc := 23) dX8_round_23 (⟨rfl, rfl, rfl⟩)

set_option maxHeartbeats 1000000 in
set_option maxRecDepth 100000 in
theorem c_X8_isFlat (l : Launch) (G : hQ) (I : hI) (J : hJ) (t : Nat) (hT : TOkM I t) : h_Mi l yX8_isFlat wsX8_isFlat 3 81 G [rr G 76, .int (nI t)] I J (fun ρ I' J' => bz (fltM I t) = ρ ∧ I = I' ∧ J = J') := by
  refine h_Mi.of (ty := .boolean) (cc := cX8_isFlat) (maxL := 2) [(0, rr G 76), (1, .int (nI t))] (by decide +kernel) rfl (Nat.le_of_ble_eq_true rfl) rfl ?_
  intro Γ K ret
  refine x_aload_n (pc := 0) K 0 dX8_isFlat_0 rfl rfl ?_
  refine x_iload_n (pc := 1) K 1 dX8_isFlat_1 rfl rfl ?_
  refine x_iconst (pc := 2) (v := 0) K dX8_isFlat_2 (by decide) ?_
  refine x_calllV (pc := 3) (st := []) (n := 2) K (by decide) sh_76 rfl (c_X8_round l G _ _ t 0 hT (by omega)) gX8_isFlat_X8_round (by decide +kernel) rfl (by decide) (by decide) rfl rfl (Nat.le_of_ble_eq_true rfl) dX8_isFlat_3 (fun r_3 I_3 J_3 hp_3 => ?_)
  obtain ⟨rfl, rfl, rfl⟩ := hp_3
  refine x_lconst (pc := 6) (v := 0) K dX8_isFlat_6 (by decide) ?_
  refine x_lcmp (pc := 7) K dX8_isFlat_7 ?_
  refine x_if_eq (pc := 8) (tgt := 22) K dX8_isFlat_8 (by decide) (fun c_8 => ?_) (fun c_8 => ?_)
  · replace c_8 := (lg_cmp_eq _ _).mp c_8
    refine x_iconst (pc := 22) (v := 1) K dX8_isFlat_22 (by decide) ?_
    refine x_goto (pc := 23) (tgt := 27) K dX8_isFlat_23 (by decide) ?_
    exact ret (pc := 27) dX8_isFlat_27 (⟨by first | exact bz_1.mpr (by grind) | exact bz_0.mpr (by grind), rfl, rfl⟩) rfl
  · replace c_8 := mt (lg_cmp_eq _ _).mpr c_8
    refine x_aload_n (pc := 11) K 0 dX8_isFlat_11 rfl rfl ?_
    refine x_iload_n (pc := 12) K 1 dX8_isFlat_12 rfl rfl ?_
    refine x_iconst (pc := 13) (v := 1) K dX8_isFlat_13 (by decide) ?_
    refine x_calllV (pc := 14) (st := []) (n := 2) K (by decide) sh_76 rfl (c_X8_round l G _ _ t 1 hT (by omega)) gX8_isFlat_X8_round (by decide +kernel) rfl (by decide) (by decide) rfl rfl (Nat.le_of_ble_eq_true rfl) dX8_isFlat_14 (fun r_14 I_14 J_14 hp_14 => ?_)
    obtain ⟨rfl, rfl, rfl⟩ := hp_14
    refine x_lconst (pc := 17) (v := 0) K dX8_isFlat_17 (by decide) ?_
    refine x_lcmp (pc := 18) K dX8_isFlat_18 ?_
    refine x_if_ne (pc := 19) (tgt := 26) K dX8_isFlat_19 (by decide) (fun c_19 => ?_) (fun c_19 => ?_)
    · replace c_19 := mt (lg_cmp_eq _ _).mpr c_19
      refine x_iconst (pc := 26) (v := 0) K dX8_isFlat_26 (by decide) ?_
      exact ret (pc := 27) dX8_isFlat_27 (⟨by first | exact bz_1.mpr (by grind) | exact bz_0.mpr (by grind), rfl, rfl⟩) rfl
    · replace c_19 := (lg_cmp_eq _ _).mp c_19
      refine x_iconst (pc := 22) (v := 1) K dX8_isFlat_22 (by decide) ?_
      refine x_goto (pc := 23) (tgt := 27) K dX8_isFlat_23 (by decide) ?_
      exact ret (pc := 27) dX8_isFlat_27 (⟨by first | exact bz_1.mpr (by grind) | exact bz_0.mpr (by grind), rfl, rfl⟩) rfl

set_option maxHeartbeats 1000000 in
set_option maxRecDepth 100000 in
theorem c_X8_stateOf (l : Launch) (G : hQ) (I : hI) (J : hJ) (t : Nat) (hT : TOkM I t) : h_Mi l yX8_stateOf wsX8_stateOf 4 102 G [rr G 76, .int (nI t)] I J (fun ρ I' J' => stM I t = ρ ∧ I = I' ∧ J = J') := by
  refine h_Mi.of (ty := .int) (cc := cX8_stateOf) (maxL := 2) [(0, rr G 76), (1, .int (nI t))] (by decide +kernel) rfl (Nat.le_of_ble_eq_true rfl) rfl ?_
  intro Γ K ret
  refine x_aload_n (pc := 0) K 0 dX8_stateOf_0 rfl rfl ?_
  refine x_iload_n (pc := 1) K 1 dX8_stateOf_1 rfl rfl ?_
  refine x_calliV (pc := 2) (st := []) (n := 1) K (by decide) sh_76 rfl (c_X8_isFlat l G _ _ t hT) gX8_stateOf_X8_isFlat (by decide +kernel) rfl (by decide) (by decide) rfl rfl (Nat.le_of_ble_eq_true rfl) dX8_stateOf_2 (fun r_2 I_2 J_2 hp_2 => ?_)
  obtain ⟨rfl, rfl, rfl⟩ := hp_2
  refine x_if_eq (pc := 5) (tgt := 12) K dX8_stateOf_5 (by decide) (fun c_5 => ?_) (fun c_5 => ?_)
  · replace c_5 := bz_0.mp c_5
    refine x_aload_n (pc := 12) K 0 dX8_stateOf_12 rfl rfl ?_
    refine x_iload_n (pc := 13) K 1 dX8_stateOf_13 rfl rfl ?_
    refine x_iconst (pc := 14) (v := 0) K dX8_stateOf_14 (by decide) ?_
    refine x_calllV (pc := 15) (st := []) (n := 2) K (by decide) sh_76 rfl (c_X8_round l G _ _ t 0 hT (by omega)) gX8_stateOf_X8_round (by decide +kernel) rfl (by decide) (by decide) rfl rfl (Nat.le_of_ble_eq_true rfl) dX8_stateOf_15 (fun r_15 I_15 J_15 hp_15 => ?_)
    obtain ⟨rfl, rfl, rfl⟩ := hp_15
    refine x_lconst (pc := 18) (v := 0) K dX8_stateOf_18 (by decide) ?_
    refine x_lcmp (pc := 19) K dX8_stateOf_19 ?_
    refine x_if_le (pc := 20) (tgt := 27) K dX8_stateOf_20 (by decide) (fun c_20 => ?_) (fun c_20 => ?_)
    · replace c_20 := (lg_cmp_le _ _).mp c_20
      refine x_iconst (pc := 27) (v := 0) K dX8_stateOf_27 (by decide) ?_
      refine x_aload_n (pc := 28) K 0 dX8_stateOf_28 rfl rfl ?_
      refine x_iload_n (pc := 29) K 1 dX8_stateOf_29 rfl rfl ?_
      refine x_iconst (pc := 30) (v := 1) K dX8_stateOf_30 (by decide) ?_
      refine x_calllV (pc := 31) (st := [_]) (n := 2) K (by decide) sh_76 rfl (c_X8_round l G _ _ t 1 hT (by omega)) gX8_stateOf_X8_round (by decide +kernel) rfl (by decide) (by decide) rfl rfl (Nat.le_of_ble_eq_true rfl) dX8_stateOf_31 (fun r_31 I_31 J_31 hp_31 => ?_)
      obtain ⟨rfl, rfl, rfl⟩ := hp_31
      refine x_lconst (pc := 34) (v := 0) K dX8_stateOf_34 (by decide) ?_
      refine x_lcmp (pc := 35) K dX8_stateOf_35 ?_
      refine x_if_le (pc := 36) (tgt := 43) K dX8_stateOf_36 (by decide) (fun c_36 => ?_) (fun c_36 => ?_)
      · replace c_36 := (lg_cmp_le _ _).mp c_36
        refine x_iconst (pc := 43) (v := 0) K dX8_stateOf_43 (by decide) ?_
        refine x_icmp_eq (pc := 44) (tgt := 51) K dX8_stateOf_44 (by decide) (fun c_44 => ?_) (fun c_44 => ?_)
        · replace c_44 := cI_eq (a := 0) (b := 0) rfl rfl (by omega) (by omega) c_44
          refine x_iconst (pc := 51) (v := 0) K dX8_stateOf_51 (by decide) ?_
          exact ret (pc := 52) dX8_stateOf_52 (⟨by rw [stM, if_neg c_5, if_pos (Or.inl ⟨c_20, c_36⟩)], rfl, rfl⟩) rfl
        · replace c_44 := cI_ne (a := 0) (b := 0) rfl rfl (by omega) (by omega) c_44
          omega
      · replace c_36 := mt (lg_cmp_le _ _).mpr c_36
        refine x_iconst (pc := 39) (v := 1) K dX8_stateOf_39 (by decide) ?_
        refine x_goto (pc := 40) (tgt := 44) K dX8_stateOf_40 (by decide) ?_
        refine x_icmp_eq (pc := 44) (tgt := 51) K dX8_stateOf_44 (by decide) (fun c_44 => ?_) (fun c_44 => ?_)
        · replace c_44 := cI_eq (a := 0) (b := 1) rfl rfl (by omega) (by omega) c_44
          omega
        · replace c_44 := cI_ne (a := 0) (b := 1) rfl rfl (by omega) (by omega) c_44
          refine x_iconst (pc := 47) (v := 1) K dX8_stateOf_47 (by decide) ?_
          refine x_goto (pc := 48) (tgt := 52) K dX8_stateOf_48 (by decide) ?_
          exact ret (pc := 52) dX8_stateOf_52 (⟨by rw [stM, if_neg c_5, if_neg (fun h => h.elim (fun h => c_36 h.2) (fun h => h.1 c_20))], rfl, rfl⟩) rfl
    · replace c_20 := mt (lg_cmp_le _ _).mpr c_20
      refine x_iconst (pc := 23) (v := 1) K dX8_stateOf_23 (by decide) ?_
      refine x_goto (pc := 24) (tgt := 28) K dX8_stateOf_24 (by decide) ?_
      refine x_aload_n (pc := 28) K 0 dX8_stateOf_28 rfl rfl ?_
      refine x_iload_n (pc := 29) K 1 dX8_stateOf_29 rfl rfl ?_
      refine x_iconst (pc := 30) (v := 1) K dX8_stateOf_30 (by decide) ?_
      refine x_calllV (pc := 31) (st := [_]) (n := 2) K (by decide) sh_76 rfl (c_X8_round l G _ _ t 1 hT (by omega)) gX8_stateOf_X8_round (by decide +kernel) rfl (by decide) (by decide) rfl rfl (Nat.le_of_ble_eq_true rfl) dX8_stateOf_31 (fun r_31 I_31 J_31 hp_31 => ?_)
      obtain ⟨rfl, rfl, rfl⟩ := hp_31
      refine x_lconst (pc := 34) (v := 0) K dX8_stateOf_34 (by decide) ?_
      refine x_lcmp (pc := 35) K dX8_stateOf_35 ?_
      refine x_if_le (pc := 36) (tgt := 43) K dX8_stateOf_36 (by decide) (fun c_36 => ?_) (fun c_36 => ?_)
      · replace c_36 := (lg_cmp_le _ _).mp c_36
        refine x_iconst (pc := 43) (v := 0) K dX8_stateOf_43 (by decide) ?_
        refine x_icmp_eq (pc := 44) (tgt := 51) K dX8_stateOf_44 (by decide) (fun c_44 => ?_) (fun c_44 => ?_)
        · replace c_44 := cI_eq (a := 1) (b := 0) rfl rfl (by omega) (by omega) c_44
          omega
        · replace c_44 := cI_ne (a := 1) (b := 0) rfl rfl (by omega) (by omega) c_44
          refine x_iconst (pc := 47) (v := 1) K dX8_stateOf_47 (by decide) ?_
          refine x_goto (pc := 48) (tgt := 52) K dX8_stateOf_48 (by decide) ?_
          exact ret (pc := 52) dX8_stateOf_52 (⟨by rw [stM, if_neg c_5, if_neg (fun h => h.elim (fun h => c_20 h.1) (fun h => h.2 c_36))], rfl, rfl⟩) rfl
      · replace c_36 := mt (lg_cmp_le _ _).mpr c_36
        refine x_iconst (pc := 39) (v := 1) K dX8_stateOf_39 (by decide) ?_
        refine x_goto (pc := 40) (tgt := 44) K dX8_stateOf_40 (by decide) ?_
        refine x_icmp_eq (pc := 44) (tgt := 51) K dX8_stateOf_44 (by decide) (fun c_44 => ?_) (fun c_44 => ?_)
        · replace c_44 := cI_eq (a := 1) (b := 1) rfl rfl (by omega) (by omega) c_44
          refine x_iconst (pc := 51) (v := 0) K dX8_stateOf_51 (by decide) ?_
          exact ret (pc := 52) dX8_stateOf_52 (⟨by rw [stM, if_neg c_5, if_pos (Or.inr ⟨c_20, c_36⟩)], rfl, rfl⟩) rfl
        · replace c_44 := cI_ne (a := 1) (b := 1) rfl rfl (by omega) (by omega) c_44
          omega
  · replace c_5 := bz_n0.mp c_5
    refine x_iconst (pc := 8) (v := 2) K dX8_stateOf_8 (by decide) ?_
    refine x_goto (pc := 9) (tgt := 52) K dX8_stateOf_9 (by decide) ?_
    exact ret (pc := 52) dX8_stateOf_52 (⟨by rw [stM, if_pos c_5], rfl, rfl⟩) rfl

set_option maxHeartbeats 1000000 in
set_option maxRecDepth 100000 in
theorem c_X8_state (l : Launch) (G : hQ) (I : hI) (J : hJ) (t : Int32) (nt : Nat) (ht : I 76 4 = nI nt) (h10 : nt ≤ 10) (hA : ∀ t, t < nt → TOkM I t) : h_Mi l yX8_state wsX8_state 5 123 G [rr G 76, .int t] I J (fun ρ I' J' => (if (0 ≤ t ∧ t < I 76 4) then stM I (tn t) else -1) = ρ ∧ I = I' ∧ J = J') := by
  refine h_Mi.of (ty := .int) (cc := cX8_state) (maxL := 2) [(0, rr G 76), (1, .int t)] (by decide +kernel) rfl (Nat.le_of_ble_eq_true rfl) rfl ?_
  intro Γ K ret
  refine x_aload_n (pc := 0) K 0 dX8_state_0 rfl rfl ?_
  refine x_iload_n (pc := 1) K 1 dX8_state_1 rfl rfl ?_
  refine x_calliV (pc := 2) (st := []) (n := 1) K (by decide) sh_76 rfl (c_X8_isTriangle l G _ _ _ nt ht h10) gX8_state_X8_isTriangle (by decide +kernel) rfl (by decide) (by decide) rfl rfl (Nat.le_of_ble_eq_true rfl) dX8_state_2 (fun r_2 I_2 J_2 hp_2 => ?_)
  obtain ⟨rfl, rfl, rfl⟩ := hp_2
  refine x_if_eq (pc := 5) (tgt := 16) K dX8_state_5 (by decide) (fun c_5 => ?_) (fun c_5 => ?_)
  · replace c_5 := bz_0.mp c_5
    refine x_iconst (pc := 16) (v := -1) K dX8_state_16 (by decide) ?_
    exact ret (pc := 17) dX8_state_17 (⟨if_neg c_5, rfl, rfl⟩) rfl
  · replace c_5 := bz_n0.mp c_5
    obtain ⟨q, hq, rfl⟩ := has_of c_5 ht (by omega)
    refine x_aload_n (pc := 8) K 0 dX8_state_8 rfl rfl ?_
    refine x_iload_n (pc := 9) K 1 dX8_state_9 rfl rfl ?_
    refine x_calliV (pc := 10) (st := []) (n := 1) K (by decide) sh_76 rfl (c_X8_stateOf l G _ _ q (hA q hq)) gX8_state_X8_stateOf (by decide +kernel) rfl (by decide) (by decide) rfl rfl (Nat.le_of_ble_eq_true rfl) dX8_state_10 (fun r_10 I_10 J_10 hp_10 => ?_)
    obtain ⟨rfl, rfl, rfl⟩ := hp_10
    refine x_goto (pc := 13) (tgt := 17) K dX8_state_13 (by decide) ?_
    exact ret (pc := 17) dX8_state_17 (⟨by rw [if_pos c_5, tn_n (by omega)], rfl, rfl⟩) rfl

set_option maxHeartbeats 1000000 in
set_option maxRecDepth 100000 in
theorem c_X8_isWithin (l : Launch) (G : hQ) (I : hI) (J : hJ) (t mp : Nat) (x y : Int32) (hT : TOkM I t) (hm : mp < 2) : h_Mi l yX8_isWithin wsX8_isWithin 4 102 G [rr G 76, .int (nI t), .int (nI mp), .int x, .int y] I J (fun ρ I' J' => bz (inM I t mp x.toInt64 y.toInt64) = ρ ∧ I = I' ∧ J = J') := by
  refine h_Mi.of (ty := .boolean) (cc := cX8_isWithin) (maxL := 10) [(0, rr G 76), (1, .int (nI t)), (2, .int (nI mp)), (3, .int x), (4, .int y)] (by decide +kernel) rfl (Nat.le_of_ble_eq_true rfl) rfl ?_
  intro Γ K ret
  refine x_aload_n (pc := 0) K 0 dX8_isWithin_0 rfl rfl ?_
  refine x_iload_n (pc := 1) K 1 dX8_isWithin_1 rfl rfl ?_
  refine x_iload_n (pc := 2) K 2 dX8_isWithin_2 rfl rfl ?_
  refine x_calllV (pc := 3) (st := []) (n := 2) K (by decide) sh_76 rfl (c_X8_round l G _ _ t mp hT (by omega)) gX8_isWithin_X8_round (by decide +kernel) rfl (by decide) (by decide) rfl rfl (Nat.le_of_ble_eq_true rfl) dX8_isWithin_3 (fun r_3 I_3 J_3 hp_3 => ?_)
  obtain ⟨rfl, rfl, rfl⟩ := hp_3
  refine x_lconst (pc := 6) (v := 0) K dX8_isWithin_6 (by decide) ?_
  refine x_lcmp (pc := 7) K dX8_isWithin_7 ?_
  refine x_if_le (pc := 8) (tgt := 15) K dX8_isWithin_8 (by decide) (fun c_8 => ?_) (fun c_8 => ?_)
  · replace c_8 := (lg_cmp_le _ _).mp c_8
    refine x_iconst (pc := 15) (v := 0) K dX8_isWithin_15 (by decide) ?_
    refine x_istore (pc := 16) (lo' := [(5, _), (0, _), (1, _), (2, _), (3, _), (4, _)]) K dX8_isWithin_16 (by decide) rfl ?_
    refine x_aload_n (pc := 18) K 1 dX8_isWithin_18 rfl rfl ?_
    refine x_iload_n (pc := 19) K 2 dX8_isWithin_19 rfl rfl ?_
    refine x_calliV (pc := 20) (st := []) (n := 1) K (by decide) sh_76 rfl (c_X8_isFlat l G _ _ t hT) gX8_isWithin_X8_isFlat (by decide +kernel) rfl (by decide) (by decide) rfl rfl (Nat.le_of_ble_eq_true rfl) dX8_isWithin_20 (fun r_20 I_20 J_20 hp_20 => ?_)
    obtain ⟨rfl, rfl, rfl⟩ := hp_20
    refine x_if_ne (pc := 23) (tgt := 30) K dX8_isWithin_23 (by decide) (fun c_23 => ?_) (fun c_23 => ?_)
    · replace c_23 := bz_n0.mp c_23
      refine x_iconst (pc := 30) (v := 0) K dX8_isWithin_30 (by decide) ?_
      refine x_istore (pc := 31) (lo' := [(6, _), (5, _), (0, _), (1, _), (2, _), (3, _), (4, _)]) K dX8_isWithin_31 (by decide) rfl ?_
      refine x_iconst (pc := 33) (v := 0) K dX8_isWithin_33 (by decide) ?_
      refine x_istore (pc := 34) (lo' := [(7, _), (6, _), (5, _), (0, _), (1, _), (2, _), (3, _), (4, _)]) K dX8_isWithin_34 (by decide) rfl ?_
      refine x_iload (pc := 36) K 0 dX8_isWithin_36 rfl ?_
      refine x_iconst (pc := 38) (v := 3) K dX8_isWithin_38 (by decide) ?_
      refine x_icmp_ge (pc := 39) (tgt := 97) K dX8_isWithin_39 (by decide) (fun c_39 => ?_) (fun c_39 => ?_)
      · replace c_39 := cI_le (a := 3) (b := 0) rfl rfl (by omega) (by omega) c_39
        omega
      · replace c_39 := cI_nle (a := 3) (b := 0) rfl rfl (by omega) (by omega) c_39
        refine x_aload_n (pc := 42) K 3 dX8_isWithin_42 rfl rfl ?_
        refine x_iload_n (pc := 43) K 4 dX8_isWithin_43 rfl rfl ?_
        refine x_iload (pc := 44) K 0 dX8_isWithin_44 rfl ?_
        refine x_iload_n (pc := 46) K 5 dX8_isWithin_46 rfl rfl ?_
        refine x_iload_n (pc := 47) K 6 dX8_isWithin_47 rfl rfl ?_
        refine x_i2l (pc := 48) K dX8_isWithin_48 ?_
        refine x_iload (pc := 49) K 7 dX8_isWithin_49 rfl ?_
        refine x_i2l (pc := 51) K dX8_isWithin_51 ?_
        refine x_calllV (pc := 52) (st := []) (n := 5) K (by decide) sh_76 rfl (c_X8_side l G _ _ t 0 mp _ _ hT (by omega) (by omega)) gX8_isWithin_X8_side (by decide +kernel) rfl (by decide) (by decide) rfl rfl (Nat.le_of_ble_eq_true rfl) dX8_isWithin_52 (fun r_52 I_52 J_52 hp_52 => ?_)
        obtain ⟨rfl, rfl, rfl⟩ := hp_52
        refine x_lstore (pc := 55) (lo' := [(8, _), (7, _), (6, _), (5, _), (0, _), (1, _), (2, _), (3, _), (4, _)]) K dX8_isWithin_55 (by decide) rfl ?_
        refine x_iload (pc := 57) K 2 dX8_isWithin_57 rfl ?_
        refine x_if_eq (pc := 59) (tgt := 88) K dX8_isWithin_59 (by decide) (fun c_59 => ?_) (fun c_59 => ?_)
        · replace c_59 := cI_eq (a := 0) (b := 0) rfl rfl (by omega) (by omega) c_59
          refine x_iconst (pc := 88) (v := 0) K dX8_isWithin_88 (by decide) ?_
          refine x_istore (pc := 89) (lo' := [(6, _), (8, _), (7, _), (5, _), (0, _), (1, _), (2, _), (3, _), (4, _)]) K dX8_isWithin_89 (by decide) rfl ?_
          refine x_iinc (pc := 91) (q0 := 2) (v := nI (0 + 1)) (lo' := [(7, _), (6, _), (8, _), (5, _), (0, _), (1, _), (2, _), (3, _), (4, _)]) K dX8_isWithin_91 rfl (nI_incE rfl) (by decide) rfl ?_
          refine x_goto (pc := 94) (tgt := 36) K dX8_isWithin_94 (by decide) ?_
          refine x_iload (pc := 36) K 0 dX8_isWithin_36 rfl ?_
          refine x_iconst (pc := 38) (v := 3) K dX8_isWithin_38 (by decide) ?_
          refine x_icmp_ge (pc := 39) (tgt := 97) K dX8_isWithin_39 (by decide) (fun c_39_1 => ?_) (fun c_39_1 => ?_)
          · replace c_39_1 := cI_le (a := 3) (b := (0 + 1)) rfl rfl (by omega) (by omega) c_39_1
            omega
          · replace c_39_1 := cI_nle (a := 3) (b := (0 + 1)) rfl rfl (by omega) (by omega) c_39_1
            refine x_aload_n (pc := 42) K 4 dX8_isWithin_42 rfl rfl ?_
            refine x_iload_n (pc := 43) K 5 dX8_isWithin_43 rfl rfl ?_
            refine x_iload (pc := 44) K 0 dX8_isWithin_44 rfl ?_
            refine x_iload_n (pc := 46) K 6 dX8_isWithin_46 rfl rfl ?_
            refine x_iload_n (pc := 47) K 7 dX8_isWithin_47 rfl rfl ?_
            refine x_i2l (pc := 48) K dX8_isWithin_48 ?_
            refine x_iload (pc := 49) K 8 dX8_isWithin_49 rfl ?_
            refine x_i2l (pc := 51) K dX8_isWithin_51 ?_
            refine x_calllV (pc := 52) (st := []) (n := 5) K (by decide) sh_76 rfl (c_X8_side l G _ _ t (0 + 1) mp _ _ hT (by omega) (by omega)) gX8_isWithin_X8_side (by decide +kernel) rfl (by decide) (by decide) rfl rfl (Nat.le_of_ble_eq_true rfl) dX8_isWithin_52 (fun r_52 I_52 J_52 hp_52 => ?_)
            obtain ⟨rfl, rfl, rfl⟩ := hp_52
            refine x_lstore (pc := 55) (lo' := [(8, _), (7, _), (6, _), (5, _), (0, _), (1, _), (2, _), (3, _), (4, _)]) K dX8_isWithin_55 (by decide) rfl ?_
            refine x_iload (pc := 57) K 2 dX8_isWithin_57 rfl ?_
            refine x_if_eq (pc := 59) (tgt := 88) K dX8_isWithin_59 (by decide) (fun c_59_1 => ?_) (fun c_59_1 => ?_)
            · replace c_59_1 := cI_eq (a := 0) (b := 0) rfl rfl (by omega) (by omega) c_59_1
              refine x_iconst (pc := 88) (v := 0) K dX8_isWithin_88 (by decide) ?_
              refine x_istore (pc := 89) (lo' := [(6, _), (8, _), (7, _), (5, _), (0, _), (1, _), (2, _), (3, _), (4, _)]) K dX8_isWithin_89 (by decide) rfl ?_
              refine x_iinc (pc := 91) (q0 := 2) (v := nI ((0 + 1) + 1)) (lo' := [(7, _), (6, _), (8, _), (5, _), (0, _), (1, _), (2, _), (3, _), (4, _)]) K dX8_isWithin_91 rfl (nI_incE rfl) (by decide) rfl ?_
              refine x_goto (pc := 94) (tgt := 36) K dX8_isWithin_94 (by decide) ?_
              refine x_iload (pc := 36) K 0 dX8_isWithin_36 rfl ?_
              refine x_iconst (pc := 38) (v := 3) K dX8_isWithin_38 (by decide) ?_
              refine x_icmp_ge (pc := 39) (tgt := 97) K dX8_isWithin_39 (by decide) (fun c_39_2 => ?_) (fun c_39_2 => ?_)
              · replace c_39_2 := cI_le (a := 3) (b := ((0 + 1) + 1)) rfl rfl (by omega) (by omega) c_39_2
                omega
              · replace c_39_2 := cI_nle (a := 3) (b := ((0 + 1) + 1)) rfl rfl (by omega) (by omega) c_39_2
                refine x_aload_n (pc := 42) K 4 dX8_isWithin_42 rfl rfl ?_
                refine x_iload_n (pc := 43) K 5 dX8_isWithin_43 rfl rfl ?_
                refine x_iload (pc := 44) K 0 dX8_isWithin_44 rfl ?_
                refine x_iload_n (pc := 46) K 6 dX8_isWithin_46 rfl rfl ?_
                refine x_iload_n (pc := 47) K 7 dX8_isWithin_47 rfl rfl ?_
                refine x_i2l (pc := 48) K dX8_isWithin_48 ?_
                refine x_iload (pc := 49) K 8 dX8_isWithin_49 rfl ?_
                refine x_i2l (pc := 51) K dX8_isWithin_51 ?_
                refine x_calllV (pc := 52) (st := []) (n := 5) K (by decide) sh_76 rfl (c_X8_side l G _ _ t ((0 + 1) + 1) mp _ _ hT (by omega) (by omega)) gX8_isWithin_X8_side (by decide +kernel) rfl (by decide) (by decide) rfl rfl (Nat.le_of_ble_eq_true rfl) dX8_isWithin_52 (fun r_52 I_52 J_52 hp_52 => ?_)
                obtain ⟨rfl, rfl, rfl⟩ := hp_52
                refine x_lstore (pc := 55) (lo' := [(8, _), (7, _), (6, _), (5, _), (0, _), (1, _), (2, _), (3, _), (4, _)]) K dX8_isWithin_55 (by decide) rfl ?_
                refine x_iload (pc := 57) K 2 dX8_isWithin_57 rfl ?_
                refine x_if_eq (pc := 59) (tgt := 88) K dX8_isWithin_59 (by decide) (fun c_59_2 => ?_) (fun c_59_2 => ?_)
                · replace c_59_2 := cI_eq (a := 0) (b := 0) rfl rfl (by omega) (by omega) c_59_2
                  refine x_iconst (pc := 88) (v := 0) K dX8_isWithin_88 (by decide) ?_
                  refine x_istore (pc := 89) (lo' := [(6, _), (8, _), (7, _), (5, _), (0, _), (1, _), (2, _), (3, _), (4, _)]) K dX8_isWithin_89 (by decide) rfl ?_
                  refine x_iinc (pc := 91) (q0 := 2) (v := nI (((0 + 1) + 1) + 1)) (lo' := [(7, _), (6, _), (8, _), (5, _), (0, _), (1, _), (2, _), (3, _), (4, _)]) K dX8_isWithin_91 rfl (nI_incE rfl) (by decide) rfl ?_
                  refine x_goto (pc := 94) (tgt := 36) K dX8_isWithin_94 (by decide) ?_
                  refine x_iload (pc := 36) K 0 dX8_isWithin_36 rfl ?_
                  refine x_iconst (pc := 38) (v := 3) K dX8_isWithin_38 (by decide) ?_
                  refine x_icmp_ge (pc := 39) (tgt := 97) K dX8_isWithin_39 (by decide) (fun c_39_3 => ?_) (fun c_39_3 => ?_)
                  · replace c_39_3 := cI_le (a := 3) (b := (((0 + 1) + 1) + 1)) rfl rfl (by omega) (by omega) c_39_3
                    refine x_iload (pc := 97) K 1 dX8_isWithin_97 rfl ?_
                    exact ret (pc := 99) dX8_isWithin_99 (⟨by first | exact bz_1.mpr (by grind) | exact bz_0.mpr (by grind), rfl, rfl⟩) rfl
                  · replace c_39_3 := cI_nle (a := 3) (b := (((0 + 1) + 1) + 1)) rfl rfl (by omega) (by omega) c_39_3
                    omega
                · replace c_59_2 := cI_ne (a := 0) (b := 0) rfl rfl (by omega) (by omega) c_59_2
                  omega
            · replace c_59_1 := cI_ne (a := 0) (b := 0) rfl rfl (by omega) (by omega) c_59_1
              omega
        · replace c_59 := cI_ne (a := 0) (b := 0) rfl rfl (by omega) (by omega) c_59
          omega
    · replace c_23 := bz_0.mp c_23
      refine x_iconst (pc := 26) (v := 1) K dX8_isWithin_26 (by decide) ?_
      refine x_goto (pc := 27) (tgt := 31) K dX8_isWithin_27 (by decide) ?_
      refine x_istore (pc := 31) (lo' := [(6, _), (5, _), (0, _), (1, _), (2, _), (3, _), (4, _)]) K dX8_isWithin_31 (by decide) rfl ?_
      refine x_iconst (pc := 33) (v := 0) K dX8_isWithin_33 (by decide) ?_
      refine x_istore (pc := 34) (lo' := [(7, _), (6, _), (5, _), (0, _), (1, _), (2, _), (3, _), (4, _)]) K dX8_isWithin_34 (by decide) rfl ?_
      refine x_iload (pc := 36) K 0 dX8_isWithin_36 rfl ?_
      refine x_iconst (pc := 38) (v := 3) K dX8_isWithin_38 (by decide) ?_
      refine x_icmp_ge (pc := 39) (tgt := 97) K dX8_isWithin_39 (by decide) (fun c_39 => ?_) (fun c_39 => ?_)
      · replace c_39 := cI_le (a := 3) (b := 0) rfl rfl (by omega) (by omega) c_39
        omega
      · replace c_39 := cI_nle (a := 3) (b := 0) rfl rfl (by omega) (by omega) c_39
        refine x_aload_n (pc := 42) K 3 dX8_isWithin_42 rfl rfl ?_
        refine x_iload_n (pc := 43) K 4 dX8_isWithin_43 rfl rfl ?_
        refine x_iload (pc := 44) K 0 dX8_isWithin_44 rfl ?_
        refine x_iload_n (pc := 46) K 5 dX8_isWithin_46 rfl rfl ?_
        refine x_iload_n (pc := 47) K 6 dX8_isWithin_47 rfl rfl ?_
        refine x_i2l (pc := 48) K dX8_isWithin_48 ?_
        refine x_iload (pc := 49) K 7 dX8_isWithin_49 rfl ?_
        refine x_i2l (pc := 51) K dX8_isWithin_51 ?_
        refine x_calllV (pc := 52) (st := []) (n := 5) K (by decide) sh_76 rfl (c_X8_side l G _ _ t 0 mp _ _ hT (by omega) (by omega)) gX8_isWithin_X8_side (by decide +kernel) rfl (by decide) (by decide) rfl rfl (Nat.le_of_ble_eq_true rfl) dX8_isWithin_52 (fun r_52 I_52 J_52 hp_52 => ?_)
        obtain ⟨rfl, rfl, rfl⟩ := hp_52
        refine x_lstore (pc := 55) (lo' := [(8, _), (7, _), (6, _), (5, _), (0, _), (1, _), (2, _), (3, _), (4, _)]) K dX8_isWithin_55 (by decide) rfl ?_
        refine x_iload (pc := 57) K 2 dX8_isWithin_57 rfl ?_
        refine x_if_eq (pc := 59) (tgt := 88) K dX8_isWithin_59 (by decide) (fun c_59 => ?_) (fun c_59 => ?_)
        · replace c_59 := cI_eq (a := 1) (b := 0) rfl rfl (by omega) (by omega) c_59
          omega
        · replace c_59 := cI_ne (a := 1) (b := 0) rfl rfl (by omega) (by omega) c_59
          refine x_iload (pc := 62) K 3 dX8_isWithin_62 rfl ?_
          refine x_if_eq (pc := 64) (tgt := 77) K dX8_isWithin_64 (by decide) (fun c_64 => ?_) (fun c_64 => ?_)
          · replace c_64 := cI_eq (a := 0) (b := 0) rfl rfl (by omega) (by omega) c_64
            refine x_lload (pc := 77) K 0 dX8_isWithin_77 rfl ?_
            refine x_lconst (pc := 79) (v := 0) K dX8_isWithin_79 (by decide) ?_
            refine x_lcmp (pc := 80) K dX8_isWithin_80 ?_
            refine x_if_gt (pc := 81) (tgt := 88) K dX8_isWithin_81 (by decide) (fun c_81 => ?_) (fun c_81 => ?_)
            · replace c_81 := (lg_cmp_gt _ _).mp c_81
              refine x_iconst (pc := 88) (v := 0) K dX8_isWithin_88 (by decide) ?_
              refine x_istore (pc := 89) (lo' := [(6, _), (8, _), (7, _), (5, _), (0, _), (1, _), (2, _), (3, _), (4, _)]) K dX8_isWithin_89 (by decide) rfl ?_
              refine x_iinc (pc := 91) (q0 := 2) (v := nI (0 + 1)) (lo' := [(7, _), (6, _), (8, _), (5, _), (0, _), (1, _), (2, _), (3, _), (4, _)]) K dX8_isWithin_91 rfl (nI_incE rfl) (by decide) rfl ?_
              refine x_goto (pc := 94) (tgt := 36) K dX8_isWithin_94 (by decide) ?_
              refine x_iload (pc := 36) K 0 dX8_isWithin_36 rfl ?_
              refine x_iconst (pc := 38) (v := 3) K dX8_isWithin_38 (by decide) ?_
              refine x_icmp_ge (pc := 39) (tgt := 97) K dX8_isWithin_39 (by decide) (fun c_39_1 => ?_) (fun c_39_1 => ?_)
              · replace c_39_1 := cI_le (a := 3) (b := (0 + 1)) rfl rfl (by omega) (by omega) c_39_1
                omega
              · replace c_39_1 := cI_nle (a := 3) (b := (0 + 1)) rfl rfl (by omega) (by omega) c_39_1
                refine x_aload_n (pc := 42) K 4 dX8_isWithin_42 rfl rfl ?_
                refine x_iload_n (pc := 43) K 5 dX8_isWithin_43 rfl rfl ?_
                refine x_iload (pc := 44) K 0 dX8_isWithin_44 rfl ?_
                refine x_iload_n (pc := 46) K 6 dX8_isWithin_46 rfl rfl ?_
                refine x_iload_n (pc := 47) K 7 dX8_isWithin_47 rfl rfl ?_
                refine x_i2l (pc := 48) K dX8_isWithin_48 ?_
                refine x_iload (pc := 49) K 8 dX8_isWithin_49 rfl ?_
                refine x_i2l (pc := 51) K dX8_isWithin_51 ?_
                refine x_calllV (pc := 52) (st := []) (n := 5) K (by decide) sh_76 rfl (c_X8_side l G _ _ t (0 + 1) mp _ _ hT (by omega) (by omega)) gX8_isWithin_X8_side (by decide +kernel) rfl (by decide) (by decide) rfl rfl (Nat.le_of_ble_eq_true rfl) dX8_isWithin_52 (fun r_52 I_52 J_52 hp_52 => ?_)
                obtain ⟨rfl, rfl, rfl⟩ := hp_52
                refine x_lstore (pc := 55) (lo' := [(8, _), (7, _), (6, _), (5, _), (0, _), (1, _), (2, _), (3, _), (4, _)]) K dX8_isWithin_55 (by decide) rfl ?_
                refine x_iload (pc := 57) K 2 dX8_isWithin_57 rfl ?_
                refine x_if_eq (pc := 59) (tgt := 88) K dX8_isWithin_59 (by decide) (fun c_59_1 => ?_) (fun c_59_1 => ?_)
                · replace c_59_1 := cI_eq (a := 0) (b := 0) rfl rfl (by omega) (by omega) c_59_1
                  refine x_iconst (pc := 88) (v := 0) K dX8_isWithin_88 (by decide) ?_
                  refine x_istore (pc := 89) (lo' := [(6, _), (8, _), (7, _), (5, _), (0, _), (1, _), (2, _), (3, _), (4, _)]) K dX8_isWithin_89 (by decide) rfl ?_
                  refine x_iinc (pc := 91) (q0 := 2) (v := nI ((0 + 1) + 1)) (lo' := [(7, _), (6, _), (8, _), (5, _), (0, _), (1, _), (2, _), (3, _), (4, _)]) K dX8_isWithin_91 rfl (nI_incE rfl) (by decide) rfl ?_
                  refine x_goto (pc := 94) (tgt := 36) K dX8_isWithin_94 (by decide) ?_
                  refine x_iload (pc := 36) K 0 dX8_isWithin_36 rfl ?_
                  refine x_iconst (pc := 38) (v := 3) K dX8_isWithin_38 (by decide) ?_
                  refine x_icmp_ge (pc := 39) (tgt := 97) K dX8_isWithin_39 (by decide) (fun c_39_2 => ?_) (fun c_39_2 => ?_)
                  · replace c_39_2 := cI_le (a := 3) (b := ((0 + 1) + 1)) rfl rfl (by omega) (by omega) c_39_2
                    omega
                  · replace c_39_2 := cI_nle (a := 3) (b := ((0 + 1) + 1)) rfl rfl (by omega) (by omega) c_39_2
                    refine x_aload_n (pc := 42) K 4 dX8_isWithin_42 rfl rfl ?_
                    refine x_iload_n (pc := 43) K 5 dX8_isWithin_43 rfl rfl ?_
                    refine x_iload (pc := 44) K 0 dX8_isWithin_44 rfl ?_
                    refine x_iload_n (pc := 46) K 6 dX8_isWithin_46 rfl rfl ?_
                    refine x_iload_n (pc := 47) K 7 dX8_isWithin_47 rfl rfl ?_
                    refine x_i2l (pc := 48) K dX8_isWithin_48 ?_
                    refine x_iload (pc := 49) K 8 dX8_isWithin_49 rfl ?_
                    refine x_i2l (pc := 51) K dX8_isWithin_51 ?_
                    refine x_calllV (pc := 52) (st := []) (n := 5) K (by decide) sh_76 rfl (c_X8_side l G _ _ t ((0 + 1) + 1) mp _ _ hT (by omega) (by omega)) gX8_isWithin_X8_side (by decide +kernel) rfl (by decide) (by decide) rfl rfl (Nat.le_of_ble_eq_true rfl) dX8_isWithin_52 (fun r_52 I_52 J_52 hp_52 => ?_)
                    obtain ⟨rfl, rfl, rfl⟩ := hp_52
                    refine x_lstore (pc := 55) (lo' := [(8, _), (7, _), (6, _), (5, _), (0, _), (1, _), (2, _), (3, _), (4, _)]) K dX8_isWithin_55 (by decide) rfl ?_
                    refine x_iload (pc := 57) K 2 dX8_isWithin_57 rfl ?_
                    refine x_if_eq (pc := 59) (tgt := 88) K dX8_isWithin_59 (by decide) (fun c_59_2 => ?_) (fun c_59_2 => ?_)
                    · replace c_59_2 := cI_eq (a := 0) (b := 0) rfl rfl (by omega) (by omega) c_59_2
                      refine x_iconst (pc := 88) (v := 0) K dX8_isWithin_88 (by decide) ?_
                      refine x_istore (pc := 89) (lo' := [(6, _), (8, _), (7, _), (5, _), (0, _), (1, _), (2, _), (3, _), (4, _)]) K dX8_isWithin_89 (by decide) rfl ?_
                      refine x_iinc (pc := 91) (q0 := 2) (v := nI (((0 + 1) + 1) + 1)) (lo' := [(7, _), (6, _), (8, _), (5, _), (0, _), (1, _), (2, _), (3, _), (4, _)]) K dX8_isWithin_91 rfl (nI_incE rfl) (by decide) rfl ?_
                      refine x_goto (pc := 94) (tgt := 36) K dX8_isWithin_94 (by decide) ?_
                      refine x_iload (pc := 36) K 0 dX8_isWithin_36 rfl ?_
                      refine x_iconst (pc := 38) (v := 3) K dX8_isWithin_38 (by decide) ?_
                      refine x_icmp_ge (pc := 39) (tgt := 97) K dX8_isWithin_39 (by decide) (fun c_39_3 => ?_) (fun c_39_3 => ?_)
                      · replace c_39_3 := cI_le (a := 3) (b := (((0 + 1) + 1) + 1)) rfl rfl (by omega) (by omega) c_39_3
                        refine x_iload (pc := 97) K 1 dX8_isWithin_97 rfl ?_
                        exact ret (pc := 99) dX8_isWithin_99 (⟨by first | exact bz_1.mpr (by grind) | exact bz_0.mpr (by grind), rfl, rfl⟩) rfl
                      · replace c_39_3 := cI_nle (a := 3) (b := (((0 + 1) + 1) + 1)) rfl rfl (by omega) (by omega) c_39_3
                        omega
                    · replace c_59_2 := cI_ne (a := 0) (b := 0) rfl rfl (by omega) (by omega) c_59_2
                      omega
                · replace c_59_1 := cI_ne (a := 0) (b := 0) rfl rfl (by omega) (by omega) c_59_1
                  omega
            · replace c_81 := mt (lg_cmp_gt _ _).mpr c_81
              refine x_iconst (pc := 84) (v := 1) K dX8_isWithin_84 (by decide) ?_
              refine x_goto (pc := 85) (tgt := 89) K dX8_isWithin_85 (by decide) ?_
              refine x_istore (pc := 89) (lo' := [(6, _), (8, _), (7, _), (5, _), (0, _), (1, _), (2, _), (3, _), (4, _)]) K dX8_isWithin_89 (by decide) rfl ?_
              refine x_iinc (pc := 91) (q0 := 2) (v := nI (0 + 1)) (lo' := [(7, _), (6, _), (8, _), (5, _), (0, _), (1, _), (2, _), (3, _), (4, _)]) K dX8_isWithin_91 rfl (nI_incE rfl) (by decide) rfl ?_
              refine x_goto (pc := 94) (tgt := 36) K dX8_isWithin_94 (by decide) ?_
              refine x_iload (pc := 36) K 0 dX8_isWithin_36 rfl ?_
              refine x_iconst (pc := 38) (v := 3) K dX8_isWithin_38 (by decide) ?_
              refine x_icmp_ge (pc := 39) (tgt := 97) K dX8_isWithin_39 (by decide) (fun c_39_1 => ?_) (fun c_39_1 => ?_)
              · replace c_39_1 := cI_le (a := 3) (b := (0 + 1)) rfl rfl (by omega) (by omega) c_39_1
                omega
              · replace c_39_1 := cI_nle (a := 3) (b := (0 + 1)) rfl rfl (by omega) (by omega) c_39_1
                refine x_aload_n (pc := 42) K 4 dX8_isWithin_42 rfl rfl ?_
                refine x_iload_n (pc := 43) K 5 dX8_isWithin_43 rfl rfl ?_
                refine x_iload (pc := 44) K 0 dX8_isWithin_44 rfl ?_
                refine x_iload_n (pc := 46) K 6 dX8_isWithin_46 rfl rfl ?_
                refine x_iload_n (pc := 47) K 7 dX8_isWithin_47 rfl rfl ?_
                refine x_i2l (pc := 48) K dX8_isWithin_48 ?_
                refine x_iload (pc := 49) K 8 dX8_isWithin_49 rfl ?_
                refine x_i2l (pc := 51) K dX8_isWithin_51 ?_
                refine x_calllV (pc := 52) (st := []) (n := 5) K (by decide) sh_76 rfl (c_X8_side l G _ _ t (0 + 1) mp _ _ hT (by omega) (by omega)) gX8_isWithin_X8_side (by decide +kernel) rfl (by decide) (by decide) rfl rfl (Nat.le_of_ble_eq_true rfl) dX8_isWithin_52 (fun r_52 I_52 J_52 hp_52 => ?_)
                obtain ⟨rfl, rfl, rfl⟩ := hp_52
                refine x_lstore (pc := 55) (lo' := [(8, _), (7, _), (6, _), (5, _), (0, _), (1, _), (2, _), (3, _), (4, _)]) K dX8_isWithin_55 (by decide) rfl ?_
                refine x_iload (pc := 57) K 2 dX8_isWithin_57 rfl ?_
                refine x_if_eq (pc := 59) (tgt := 88) K dX8_isWithin_59 (by decide) (fun c_59_1 => ?_) (fun c_59_1 => ?_)
                · replace c_59_1 := cI_eq (a := 1) (b := 0) rfl rfl (by omega) (by omega) c_59_1
                  omega
                · replace c_59_1 := cI_ne (a := 1) (b := 0) rfl rfl (by omega) (by omega) c_59_1
                  refine x_iload (pc := 62) K 3 dX8_isWithin_62 rfl ?_
                  refine x_if_eq (pc := 64) (tgt := 77) K dX8_isWithin_64 (by decide) (fun c_64_1 => ?_) (fun c_64_1 => ?_)
                  · replace c_64_1 := cI_eq (a := 0) (b := 0) rfl rfl (by omega) (by omega) c_64_1
                    refine x_lload (pc := 77) K 0 dX8_isWithin_77 rfl ?_
                    refine x_lconst (pc := 79) (v := 0) K dX8_isWithin_79 (by decide) ?_
                    refine x_lcmp (pc := 80) K dX8_isWithin_80 ?_
                    refine x_if_gt (pc := 81) (tgt := 88) K dX8_isWithin_81 (by decide) (fun c_81_1 => ?_) (fun c_81_1 => ?_)
                    · replace c_81_1 := (lg_cmp_gt _ _).mp c_81_1
                      refine x_iconst (pc := 88) (v := 0) K dX8_isWithin_88 (by decide) ?_
                      refine x_istore (pc := 89) (lo' := [(6, _), (8, _), (7, _), (5, _), (0, _), (1, _), (2, _), (3, _), (4, _)]) K dX8_isWithin_89 (by decide) rfl ?_
                      refine x_iinc (pc := 91) (q0 := 2) (v := nI ((0 + 1) + 1)) (lo' := [(7, _), (6, _), (8, _), (5, _), (0, _), (1, _), (2, _), (3, _), (4, _)]) K dX8_isWithin_91 rfl (nI_incE rfl) (by decide) rfl ?_
                      refine x_goto (pc := 94) (tgt := 36) K dX8_isWithin_94 (by decide) ?_
                      refine x_iload (pc := 36) K 0 dX8_isWithin_36 rfl ?_
                      refine x_iconst (pc := 38) (v := 3) K dX8_isWithin_38 (by decide) ?_
                      refine x_icmp_ge (pc := 39) (tgt := 97) K dX8_isWithin_39 (by decide) (fun c_39_2 => ?_) (fun c_39_2 => ?_)
                      · replace c_39_2 := cI_le (a := 3) (b := ((0 + 1) + 1)) rfl rfl (by omega) (by omega) c_39_2
                        omega
                      · replace c_39_2 := cI_nle (a := 3) (b := ((0 + 1) + 1)) rfl rfl (by omega) (by omega) c_39_2
                        refine x_aload_n (pc := 42) K 4 dX8_isWithin_42 rfl rfl ?_
                        refine x_iload_n (pc := 43) K 5 dX8_isWithin_43 rfl rfl ?_
                        refine x_iload (pc := 44) K 0 dX8_isWithin_44 rfl ?_
                        refine x_iload_n (pc := 46) K 6 dX8_isWithin_46 rfl rfl ?_
                        refine x_iload_n (pc := 47) K 7 dX8_isWithin_47 rfl rfl ?_
                        refine x_i2l (pc := 48) K dX8_isWithin_48 ?_
                        refine x_iload (pc := 49) K 8 dX8_isWithin_49 rfl ?_
                        refine x_i2l (pc := 51) K dX8_isWithin_51 ?_
                        refine x_calllV (pc := 52) (st := []) (n := 5) K (by decide) sh_76 rfl (c_X8_side l G _ _ t ((0 + 1) + 1) mp _ _ hT (by omega) (by omega)) gX8_isWithin_X8_side (by decide +kernel) rfl (by decide) (by decide) rfl rfl (Nat.le_of_ble_eq_true rfl) dX8_isWithin_52 (fun r_52 I_52 J_52 hp_52 => ?_)
                        obtain ⟨rfl, rfl, rfl⟩ := hp_52
                        refine x_lstore (pc := 55) (lo' := [(8, _), (7, _), (6, _), (5, _), (0, _), (1, _), (2, _), (3, _), (4, _)]) K dX8_isWithin_55 (by decide) rfl ?_
                        refine x_iload (pc := 57) K 2 dX8_isWithin_57 rfl ?_
                        refine x_if_eq (pc := 59) (tgt := 88) K dX8_isWithin_59 (by decide) (fun c_59_2 => ?_) (fun c_59_2 => ?_)
                        · replace c_59_2 := cI_eq (a := 0) (b := 0) rfl rfl (by omega) (by omega) c_59_2
                          refine x_iconst (pc := 88) (v := 0) K dX8_isWithin_88 (by decide) ?_
                          refine x_istore (pc := 89) (lo' := [(6, _), (8, _), (7, _), (5, _), (0, _), (1, _), (2, _), (3, _), (4, _)]) K dX8_isWithin_89 (by decide) rfl ?_
                          refine x_iinc (pc := 91) (q0 := 2) (v := nI (((0 + 1) + 1) + 1)) (lo' := [(7, _), (6, _), (8, _), (5, _), (0, _), (1, _), (2, _), (3, _), (4, _)]) K dX8_isWithin_91 rfl (nI_incE rfl) (by decide) rfl ?_
                          refine x_goto (pc := 94) (tgt := 36) K dX8_isWithin_94 (by decide) ?_
                          refine x_iload (pc := 36) K 0 dX8_isWithin_36 rfl ?_
                          refine x_iconst (pc := 38) (v := 3) K dX8_isWithin_38 (by decide) ?_
                          refine x_icmp_ge (pc := 39) (tgt := 97) K dX8_isWithin_39 (by decide) (fun c_39_3 => ?_) (fun c_39_3 => ?_)
                          · replace c_39_3 := cI_le (a := 3) (b := (((0 + 1) + 1) + 1)) rfl rfl (by omega) (by omega) c_39_3
                            refine x_iload (pc := 97) K 1 dX8_isWithin_97 rfl ?_
                            exact ret (pc := 99) dX8_isWithin_99 (⟨by first | exact bz_1.mpr (by grind) | exact bz_0.mpr (by grind), rfl, rfl⟩) rfl
                          · replace c_39_3 := cI_nle (a := 3) (b := (((0 + 1) + 1) + 1)) rfl rfl (by omega) (by omega) c_39_3
                            omega
                        · replace c_59_2 := cI_ne (a := 0) (b := 0) rfl rfl (by omega) (by omega) c_59_2
                          omega
                    · replace c_81_1 := mt (lg_cmp_gt _ _).mpr c_81_1
                      refine x_iconst (pc := 84) (v := 1) K dX8_isWithin_84 (by decide) ?_
                      refine x_goto (pc := 85) (tgt := 89) K dX8_isWithin_85 (by decide) ?_
                      refine x_istore (pc := 89) (lo' := [(6, _), (8, _), (7, _), (5, _), (0, _), (1, _), (2, _), (3, _), (4, _)]) K dX8_isWithin_89 (by decide) rfl ?_
                      refine x_iinc (pc := 91) (q0 := 2) (v := nI ((0 + 1) + 1)) (lo' := [(7, _), (6, _), (8, _), (5, _), (0, _), (1, _), (2, _), (3, _), (4, _)]) K dX8_isWithin_91 rfl (nI_incE rfl) (by decide) rfl ?_
                      refine x_goto (pc := 94) (tgt := 36) K dX8_isWithin_94 (by decide) ?_
                      refine x_iload (pc := 36) K 0 dX8_isWithin_36 rfl ?_
                      refine x_iconst (pc := 38) (v := 3) K dX8_isWithin_38 (by decide) ?_
                      refine x_icmp_ge (pc := 39) (tgt := 97) K dX8_isWithin_39 (by decide) (fun c_39_2 => ?_) (fun c_39_2 => ?_)
                      · replace c_39_2 := cI_le (a := 3) (b := ((0 + 1) + 1)) rfl rfl (by omega) (by omega) c_39_2
                        omega
                      · replace c_39_2 := cI_nle (a := 3) (b := ((0 + 1) + 1)) rfl rfl (by omega) (by omega) c_39_2
                        refine x_aload_n (pc := 42) K 4 dX8_isWithin_42 rfl rfl ?_
                        refine x_iload_n (pc := 43) K 5 dX8_isWithin_43 rfl rfl ?_
                        refine x_iload (pc := 44) K 0 dX8_isWithin_44 rfl ?_
                        refine x_iload_n (pc := 46) K 6 dX8_isWithin_46 rfl rfl ?_
                        refine x_iload_n (pc := 47) K 7 dX8_isWithin_47 rfl rfl ?_
                        refine x_i2l (pc := 48) K dX8_isWithin_48 ?_
                        refine x_iload (pc := 49) K 8 dX8_isWithin_49 rfl ?_
                        refine x_i2l (pc := 51) K dX8_isWithin_51 ?_
                        refine x_calllV (pc := 52) (st := []) (n := 5) K (by decide) sh_76 rfl (c_X8_side l G _ _ t ((0 + 1) + 1) mp _ _ hT (by omega) (by omega)) gX8_isWithin_X8_side (by decide +kernel) rfl (by decide) (by decide) rfl rfl (Nat.le_of_ble_eq_true rfl) dX8_isWithin_52 (fun r_52 I_52 J_52 hp_52 => ?_)
                        obtain ⟨rfl, rfl, rfl⟩ := hp_52
                        refine x_lstore (pc := 55) (lo' := [(8, _), (7, _), (6, _), (5, _), (0, _), (1, _), (2, _), (3, _), (4, _)]) K dX8_isWithin_55 (by decide) rfl ?_
                        refine x_iload (pc := 57) K 2 dX8_isWithin_57 rfl ?_
                        refine x_if_eq (pc := 59) (tgt := 88) K dX8_isWithin_59 (by decide) (fun c_59_2 => ?_) (fun c_59_2 => ?_)
                        · replace c_59_2 := cI_eq (a := 1) (b := 0) rfl rfl (by omega) (by omega) c_59_2
                          omega
                        · replace c_59_2 := cI_ne (a := 1) (b := 0) rfl rfl (by omega) (by omega) c_59_2
                          refine x_iload (pc := 62) K 3 dX8_isWithin_62 rfl ?_
                          refine x_if_eq (pc := 64) (tgt := 77) K dX8_isWithin_64 (by decide) (fun c_64_2 => ?_) (fun c_64_2 => ?_)
                          · replace c_64_2 := cI_eq (a := 0) (b := 0) rfl rfl (by omega) (by omega) c_64_2
                            refine x_lload (pc := 77) K 0 dX8_isWithin_77 rfl ?_
                            refine x_lconst (pc := 79) (v := 0) K dX8_isWithin_79 (by decide) ?_
                            refine x_lcmp (pc := 80) K dX8_isWithin_80 ?_
                            refine x_if_gt (pc := 81) (tgt := 88) K dX8_isWithin_81 (by decide) (fun c_81_2 => ?_) (fun c_81_2 => ?_)
                            · replace c_81_2 := (lg_cmp_gt _ _).mp c_81_2
                              refine x_iconst (pc := 88) (v := 0) K dX8_isWithin_88 (by decide) ?_
                              refine x_istore (pc := 89) (lo' := [(6, _), (8, _), (7, _), (5, _), (0, _), (1, _), (2, _), (3, _), (4, _)]) K dX8_isWithin_89 (by decide) rfl ?_
                              refine x_iinc (pc := 91) (q0 := 2) (v := nI (((0 + 1) + 1) + 1)) (lo' := [(7, _), (6, _), (8, _), (5, _), (0, _), (1, _), (2, _), (3, _), (4, _)]) K dX8_isWithin_91 rfl (nI_incE rfl) (by decide) rfl ?_
                              refine x_goto (pc := 94) (tgt := 36) K dX8_isWithin_94 (by decide) ?_
                              refine x_iload (pc := 36) K 0 dX8_isWithin_36 rfl ?_
                              refine x_iconst (pc := 38) (v := 3) K dX8_isWithin_38 (by decide) ?_
                              refine x_icmp_ge (pc := 39) (tgt := 97) K dX8_isWithin_39 (by decide) (fun c_39_3 => ?_) (fun c_39_3 => ?_)
                              · replace c_39_3 := cI_le (a := 3) (b := (((0 + 1) + 1) + 1)) rfl rfl (by omega) (by omega) c_39_3
                                refine x_iload (pc := 97) K 1 dX8_isWithin_97 rfl ?_
                                exact ret (pc := 99) dX8_isWithin_99 (⟨by first | exact bz_1.mpr (by grind) | exact bz_0.mpr (by grind), rfl, rfl⟩) rfl
                              · replace c_39_3 := cI_nle (a := 3) (b := (((0 + 1) + 1) + 1)) rfl rfl (by omega) (by omega) c_39_3
                                omega
                            · replace c_81_2 := mt (lg_cmp_gt _ _).mpr c_81_2
                              refine x_iconst (pc := 84) (v := 1) K dX8_isWithin_84 (by decide) ?_
                              refine x_goto (pc := 85) (tgt := 89) K dX8_isWithin_85 (by decide) ?_
                              refine x_istore (pc := 89) (lo' := [(6, _), (8, _), (7, _), (5, _), (0, _), (1, _), (2, _), (3, _), (4, _)]) K dX8_isWithin_89 (by decide) rfl ?_
                              refine x_iinc (pc := 91) (q0 := 2) (v := nI (((0 + 1) + 1) + 1)) (lo' := [(7, _), (6, _), (8, _), (5, _), (0, _), (1, _), (2, _), (3, _), (4, _)]) K dX8_isWithin_91 rfl (nI_incE rfl) (by decide) rfl ?_
                              refine x_goto (pc := 94) (tgt := 36) K dX8_isWithin_94 (by decide) ?_
                              refine x_iload (pc := 36) K 0 dX8_isWithin_36 rfl ?_
                              refine x_iconst (pc := 38) (v := 3) K dX8_isWithin_38 (by decide) ?_
                              refine x_icmp_ge (pc := 39) (tgt := 97) K dX8_isWithin_39 (by decide) (fun c_39_3 => ?_) (fun c_39_3 => ?_)
                              · replace c_39_3 := cI_le (a := 3) (b := (((0 + 1) + 1) + 1)) rfl rfl (by omega) (by omega) c_39_3
                                refine x_iload (pc := 97) K 1 dX8_isWithin_97 rfl ?_
                                exact ret (pc := 99) dX8_isWithin_99 (⟨by first | exact bz_1.mpr (by grind) | exact bz_0.mpr (by grind), rfl, rfl⟩) rfl
                              · replace c_39_3 := cI_nle (a := 3) (b := (((0 + 1) + 1) + 1)) rfl rfl (by omega) (by omega) c_39_3
                                omega
                          · replace c_64_2 := cI_ne (a := 0) (b := 0) rfl rfl (by omega) (by omega) c_64_2
                            omega
                  · replace c_64_1 := cI_ne (a := 0) (b := 0) rfl rfl (by omega) (by omega) c_64_1
                    omega
          · replace c_64 := cI_ne (a := 0) (b := 0) rfl rfl (by omega) (by omega) c_64
            omega
  · replace c_8 := mt (lg_cmp_le _ _).mpr c_8
    refine x_iconst (pc := 11) (v := 1) K dX8_isWithin_11 (by decide) ?_
    refine x_goto (pc := 12) (tgt := 16) K dX8_isWithin_12 (by decide) ?_
    refine x_istore (pc := 16) (lo' := [(5, _), (0, _), (1, _), (2, _), (3, _), (4, _)]) K dX8_isWithin_16 (by decide) rfl ?_
    refine x_aload_n (pc := 18) K 1 dX8_isWithin_18 rfl rfl ?_
    refine x_iload_n (pc := 19) K 2 dX8_isWithin_19 rfl rfl ?_
    refine x_calliV (pc := 20) (st := []) (n := 1) K (by decide) sh_76 rfl (c_X8_isFlat l G _ _ t hT) gX8_isWithin_X8_isFlat (by decide +kernel) rfl (by decide) (by decide) rfl rfl (Nat.le_of_ble_eq_true rfl) dX8_isWithin_20 (fun r_20 I_20 J_20 hp_20 => ?_)
    obtain ⟨rfl, rfl, rfl⟩ := hp_20
    refine x_if_ne (pc := 23) (tgt := 30) K dX8_isWithin_23 (by decide) (fun c_23 => ?_) (fun c_23 => ?_)
    · replace c_23 := bz_n0.mp c_23
      refine x_iconst (pc := 30) (v := 0) K dX8_isWithin_30 (by decide) ?_
      refine x_istore (pc := 31) (lo' := [(6, _), (5, _), (0, _), (1, _), (2, _), (3, _), (4, _)]) K dX8_isWithin_31 (by decide) rfl ?_
      refine x_iconst (pc := 33) (v := 0) K dX8_isWithin_33 (by decide) ?_
      refine x_istore (pc := 34) (lo' := [(7, _), (6, _), (5, _), (0, _), (1, _), (2, _), (3, _), (4, _)]) K dX8_isWithin_34 (by decide) rfl ?_
      refine x_iload (pc := 36) K 0 dX8_isWithin_36 rfl ?_
      refine x_iconst (pc := 38) (v := 3) K dX8_isWithin_38 (by decide) ?_
      refine x_icmp_ge (pc := 39) (tgt := 97) K dX8_isWithin_39 (by decide) (fun c_39 => ?_) (fun c_39 => ?_)
      · replace c_39 := cI_le (a := 3) (b := 0) rfl rfl (by omega) (by omega) c_39
        omega
      · replace c_39 := cI_nle (a := 3) (b := 0) rfl rfl (by omega) (by omega) c_39
        refine x_aload_n (pc := 42) K 3 dX8_isWithin_42 rfl rfl ?_
        refine x_iload_n (pc := 43) K 4 dX8_isWithin_43 rfl rfl ?_
        refine x_iload (pc := 44) K 0 dX8_isWithin_44 rfl ?_
        refine x_iload_n (pc := 46) K 5 dX8_isWithin_46 rfl rfl ?_
        refine x_iload_n (pc := 47) K 6 dX8_isWithin_47 rfl rfl ?_
        refine x_i2l (pc := 48) K dX8_isWithin_48 ?_
        refine x_iload (pc := 49) K 7 dX8_isWithin_49 rfl ?_
        refine x_i2l (pc := 51) K dX8_isWithin_51 ?_
        refine x_calllV (pc := 52) (st := []) (n := 5) K (by decide) sh_76 rfl (c_X8_side l G _ _ t 0 mp _ _ hT (by omega) (by omega)) gX8_isWithin_X8_side (by decide +kernel) rfl (by decide) (by decide) rfl rfl (Nat.le_of_ble_eq_true rfl) dX8_isWithin_52 (fun r_52 I_52 J_52 hp_52 => ?_)
        obtain ⟨rfl, rfl, rfl⟩ := hp_52
        refine x_lstore (pc := 55) (lo' := [(8, _), (7, _), (6, _), (5, _), (0, _), (1, _), (2, _), (3, _), (4, _)]) K dX8_isWithin_55 (by decide) rfl ?_
        refine x_iload (pc := 57) K 2 dX8_isWithin_57 rfl ?_
        refine x_if_eq (pc := 59) (tgt := 88) K dX8_isWithin_59 (by decide) (fun c_59 => ?_) (fun c_59 => ?_)
        · replace c_59 := cI_eq (a := 0) (b := 0) rfl rfl (by omega) (by omega) c_59
          refine x_iconst (pc := 88) (v := 0) K dX8_isWithin_88 (by decide) ?_
          refine x_istore (pc := 89) (lo' := [(6, _), (8, _), (7, _), (5, _), (0, _), (1, _), (2, _), (3, _), (4, _)]) K dX8_isWithin_89 (by decide) rfl ?_
          refine x_iinc (pc := 91) (q0 := 2) (v := nI (0 + 1)) (lo' := [(7, _), (6, _), (8, _), (5, _), (0, _), (1, _), (2, _), (3, _), (4, _)]) K dX8_isWithin_91 rfl (nI_incE rfl) (by decide) rfl ?_
          refine x_goto (pc := 94) (tgt := 36) K dX8_isWithin_94 (by decide) ?_
          refine x_iload (pc := 36) K 0 dX8_isWithin_36 rfl ?_
          refine x_iconst (pc := 38) (v := 3) K dX8_isWithin_38 (by decide) ?_
          refine x_icmp_ge (pc := 39) (tgt := 97) K dX8_isWithin_39 (by decide) (fun c_39_1 => ?_) (fun c_39_1 => ?_)
          · replace c_39_1 := cI_le (a := 3) (b := (0 + 1)) rfl rfl (by omega) (by omega) c_39_1
            omega
          · replace c_39_1 := cI_nle (a := 3) (b := (0 + 1)) rfl rfl (by omega) (by omega) c_39_1
            refine x_aload_n (pc := 42) K 4 dX8_isWithin_42 rfl rfl ?_
            refine x_iload_n (pc := 43) K 5 dX8_isWithin_43 rfl rfl ?_
            refine x_iload (pc := 44) K 0 dX8_isWithin_44 rfl ?_
            refine x_iload_n (pc := 46) K 6 dX8_isWithin_46 rfl rfl ?_
            refine x_iload_n (pc := 47) K 7 dX8_isWithin_47 rfl rfl ?_
            refine x_i2l (pc := 48) K dX8_isWithin_48 ?_
            refine x_iload (pc := 49) K 8 dX8_isWithin_49 rfl ?_
            refine x_i2l (pc := 51) K dX8_isWithin_51 ?_
            refine x_calllV (pc := 52) (st := []) (n := 5) K (by decide) sh_76 rfl (c_X8_side l G _ _ t (0 + 1) mp _ _ hT (by omega) (by omega)) gX8_isWithin_X8_side (by decide +kernel) rfl (by decide) (by decide) rfl rfl (Nat.le_of_ble_eq_true rfl) dX8_isWithin_52 (fun r_52 I_52 J_52 hp_52 => ?_)
            obtain ⟨rfl, rfl, rfl⟩ := hp_52
            refine x_lstore (pc := 55) (lo' := [(8, _), (7, _), (6, _), (5, _), (0, _), (1, _), (2, _), (3, _), (4, _)]) K dX8_isWithin_55 (by decide) rfl ?_
            refine x_iload (pc := 57) K 2 dX8_isWithin_57 rfl ?_
            refine x_if_eq (pc := 59) (tgt := 88) K dX8_isWithin_59 (by decide) (fun c_59_1 => ?_) (fun c_59_1 => ?_)
            · replace c_59_1 := cI_eq (a := 0) (b := 0) rfl rfl (by omega) (by omega) c_59_1
              refine x_iconst (pc := 88) (v := 0) K dX8_isWithin_88 (by decide) ?_
              refine x_istore (pc := 89) (lo' := [(6, _), (8, _), (7, _), (5, _), (0, _), (1, _), (2, _), (3, _), (4, _)]) K dX8_isWithin_89 (by decide) rfl ?_
              refine x_iinc (pc := 91) (q0 := 2) (v := nI ((0 + 1) + 1)) (lo' := [(7, _), (6, _), (8, _), (5, _), (0, _), (1, _), (2, _), (3, _), (4, _)]) K dX8_isWithin_91 rfl (nI_incE rfl) (by decide) rfl ?_
              refine x_goto (pc := 94) (tgt := 36) K dX8_isWithin_94 (by decide) ?_
              refine x_iload (pc := 36) K 0 dX8_isWithin_36 rfl ?_
              refine x_iconst (pc := 38) (v := 3) K dX8_isWithin_38 (by decide) ?_
              refine x_icmp_ge (pc := 39) (tgt := 97) K dX8_isWithin_39 (by decide) (fun c_39_2 => ?_) (fun c_39_2 => ?_)
              · replace c_39_2 := cI_le (a := 3) (b := ((0 + 1) + 1)) rfl rfl (by omega) (by omega) c_39_2
                omega
              · replace c_39_2 := cI_nle (a := 3) (b := ((0 + 1) + 1)) rfl rfl (by omega) (by omega) c_39_2
                refine x_aload_n (pc := 42) K 4 dX8_isWithin_42 rfl rfl ?_
                refine x_iload_n (pc := 43) K 5 dX8_isWithin_43 rfl rfl ?_
                refine x_iload (pc := 44) K 0 dX8_isWithin_44 rfl ?_
                refine x_iload_n (pc := 46) K 6 dX8_isWithin_46 rfl rfl ?_
                refine x_iload_n (pc := 47) K 7 dX8_isWithin_47 rfl rfl ?_
                refine x_i2l (pc := 48) K dX8_isWithin_48 ?_
                refine x_iload (pc := 49) K 8 dX8_isWithin_49 rfl ?_
                refine x_i2l (pc := 51) K dX8_isWithin_51 ?_
                refine x_calllV (pc := 52) (st := []) (n := 5) K (by decide) sh_76 rfl (c_X8_side l G _ _ t ((0 + 1) + 1) mp _ _ hT (by omega) (by omega)) gX8_isWithin_X8_side (by decide +kernel) rfl (by decide) (by decide) rfl rfl (Nat.le_of_ble_eq_true rfl) dX8_isWithin_52 (fun r_52 I_52 J_52 hp_52 => ?_)
                obtain ⟨rfl, rfl, rfl⟩ := hp_52
                refine x_lstore (pc := 55) (lo' := [(8, _), (7, _), (6, _), (5, _), (0, _), (1, _), (2, _), (3, _), (4, _)]) K dX8_isWithin_55 (by decide) rfl ?_
                refine x_iload (pc := 57) K 2 dX8_isWithin_57 rfl ?_
                refine x_if_eq (pc := 59) (tgt := 88) K dX8_isWithin_59 (by decide) (fun c_59_2 => ?_) (fun c_59_2 => ?_)
                · replace c_59_2 := cI_eq (a := 0) (b := 0) rfl rfl (by omega) (by omega) c_59_2
                  refine x_iconst (pc := 88) (v := 0) K dX8_isWithin_88 (by decide) ?_
                  refine x_istore (pc := 89) (lo' := [(6, _), (8, _), (7, _), (5, _), (0, _), (1, _), (2, _), (3, _), (4, _)]) K dX8_isWithin_89 (by decide) rfl ?_
                  refine x_iinc (pc := 91) (q0 := 2) (v := nI (((0 + 1) + 1) + 1)) (lo' := [(7, _), (6, _), (8, _), (5, _), (0, _), (1, _), (2, _), (3, _), (4, _)]) K dX8_isWithin_91 rfl (nI_incE rfl) (by decide) rfl ?_
                  refine x_goto (pc := 94) (tgt := 36) K dX8_isWithin_94 (by decide) ?_
                  refine x_iload (pc := 36) K 0 dX8_isWithin_36 rfl ?_
                  refine x_iconst (pc := 38) (v := 3) K dX8_isWithin_38 (by decide) ?_
                  refine x_icmp_ge (pc := 39) (tgt := 97) K dX8_isWithin_39 (by decide) (fun c_39_3 => ?_) (fun c_39_3 => ?_)
                  · replace c_39_3 := cI_le (a := 3) (b := (((0 + 1) + 1) + 1)) rfl rfl (by omega) (by omega) c_39_3
                    refine x_iload (pc := 97) K 1 dX8_isWithin_97 rfl ?_
                    exact ret (pc := 99) dX8_isWithin_99 (⟨by first | exact bz_1.mpr (by grind) | exact bz_0.mpr (by grind), rfl, rfl⟩) rfl
                  · replace c_39_3 := cI_nle (a := 3) (b := (((0 + 1) + 1) + 1)) rfl rfl (by omega) (by omega) c_39_3
                    omega
                · replace c_59_2 := cI_ne (a := 0) (b := 0) rfl rfl (by omega) (by omega) c_59_2
                  omega
            · replace c_59_1 := cI_ne (a := 0) (b := 0) rfl rfl (by omega) (by omega) c_59_1
              omega
        · replace c_59 := cI_ne (a := 0) (b := 0) rfl rfl (by omega) (by omega) c_59
          omega
    · replace c_23 := bz_0.mp c_23
      refine x_iconst (pc := 26) (v := 1) K dX8_isWithin_26 (by decide) ?_
      refine x_goto (pc := 27) (tgt := 31) K dX8_isWithin_27 (by decide) ?_
      refine x_istore (pc := 31) (lo' := [(6, _), (5, _), (0, _), (1, _), (2, _), (3, _), (4, _)]) K dX8_isWithin_31 (by decide) rfl ?_
      refine x_iconst (pc := 33) (v := 0) K dX8_isWithin_33 (by decide) ?_
      refine x_istore (pc := 34) (lo' := [(7, _), (6, _), (5, _), (0, _), (1, _), (2, _), (3, _), (4, _)]) K dX8_isWithin_34 (by decide) rfl ?_
      refine x_iload (pc := 36) K 0 dX8_isWithin_36 rfl ?_
      refine x_iconst (pc := 38) (v := 3) K dX8_isWithin_38 (by decide) ?_
      refine x_icmp_ge (pc := 39) (tgt := 97) K dX8_isWithin_39 (by decide) (fun c_39 => ?_) (fun c_39 => ?_)
      · replace c_39 := cI_le (a := 3) (b := 0) rfl rfl (by omega) (by omega) c_39
        omega
      · replace c_39 := cI_nle (a := 3) (b := 0) rfl rfl (by omega) (by omega) c_39
        refine x_aload_n (pc := 42) K 3 dX8_isWithin_42 rfl rfl ?_
        refine x_iload_n (pc := 43) K 4 dX8_isWithin_43 rfl rfl ?_
        refine x_iload (pc := 44) K 0 dX8_isWithin_44 rfl ?_
        refine x_iload_n (pc := 46) K 5 dX8_isWithin_46 rfl rfl ?_
        refine x_iload_n (pc := 47) K 6 dX8_isWithin_47 rfl rfl ?_
        refine x_i2l (pc := 48) K dX8_isWithin_48 ?_
        refine x_iload (pc := 49) K 7 dX8_isWithin_49 rfl ?_
        refine x_i2l (pc := 51) K dX8_isWithin_51 ?_
        refine x_calllV (pc := 52) (st := []) (n := 5) K (by decide) sh_76 rfl (c_X8_side l G _ _ t 0 mp _ _ hT (by omega) (by omega)) gX8_isWithin_X8_side (by decide +kernel) rfl (by decide) (by decide) rfl rfl (Nat.le_of_ble_eq_true rfl) dX8_isWithin_52 (fun r_52 I_52 J_52 hp_52 => ?_)
        obtain ⟨rfl, rfl, rfl⟩ := hp_52
        refine x_lstore (pc := 55) (lo' := [(8, _), (7, _), (6, _), (5, _), (0, _), (1, _), (2, _), (3, _), (4, _)]) K dX8_isWithin_55 (by decide) rfl ?_
        refine x_iload (pc := 57) K 2 dX8_isWithin_57 rfl ?_
        refine x_if_eq (pc := 59) (tgt := 88) K dX8_isWithin_59 (by decide) (fun c_59 => ?_) (fun c_59 => ?_)
        · replace c_59 := cI_eq (a := 1) (b := 0) rfl rfl (by omega) (by omega) c_59
          omega
        · replace c_59 := cI_ne (a := 1) (b := 0) rfl rfl (by omega) (by omega) c_59
          refine x_iload (pc := 62) K 3 dX8_isWithin_62 rfl ?_
          refine x_if_eq (pc := 64) (tgt := 77) K dX8_isWithin_64 (by decide) (fun c_64 => ?_) (fun c_64 => ?_)
          · replace c_64 := cI_eq (a := 1) (b := 0) rfl rfl (by omega) (by omega) c_64
            omega
          · replace c_64 := cI_ne (a := 1) (b := 0) rfl rfl (by omega) (by omega) c_64
            refine x_lload (pc := 67) K 0 dX8_isWithin_67 rfl ?_
            refine x_lconst (pc := 69) (v := 0) K dX8_isWithin_69 (by decide) ?_
            refine x_lcmp (pc := 70) K dX8_isWithin_70 ?_
            refine x_if_lt (pc := 71) (tgt := 88) K dX8_isWithin_71 (by decide) (fun c_71 => ?_) (fun c_71 => ?_)
            · replace c_71 := (lg_cmp_lt _ _).mp c_71
              refine x_iconst (pc := 88) (v := 0) K dX8_isWithin_88 (by decide) ?_
              refine x_istore (pc := 89) (lo' := [(6, _), (8, _), (7, _), (5, _), (0, _), (1, _), (2, _), (3, _), (4, _)]) K dX8_isWithin_89 (by decide) rfl ?_
              refine x_iinc (pc := 91) (q0 := 2) (v := nI (0 + 1)) (lo' := [(7, _), (6, _), (8, _), (5, _), (0, _), (1, _), (2, _), (3, _), (4, _)]) K dX8_isWithin_91 rfl (nI_incE rfl) (by decide) rfl ?_
              refine x_goto (pc := 94) (tgt := 36) K dX8_isWithin_94 (by decide) ?_
              refine x_iload (pc := 36) K 0 dX8_isWithin_36 rfl ?_
              refine x_iconst (pc := 38) (v := 3) K dX8_isWithin_38 (by decide) ?_
              refine x_icmp_ge (pc := 39) (tgt := 97) K dX8_isWithin_39 (by decide) (fun c_39_1 => ?_) (fun c_39_1 => ?_)
              · replace c_39_1 := cI_le (a := 3) (b := (0 + 1)) rfl rfl (by omega) (by omega) c_39_1
                omega
              · replace c_39_1 := cI_nle (a := 3) (b := (0 + 1)) rfl rfl (by omega) (by omega) c_39_1
                refine x_aload_n (pc := 42) K 4 dX8_isWithin_42 rfl rfl ?_
                refine x_iload_n (pc := 43) K 5 dX8_isWithin_43 rfl rfl ?_
                refine x_iload (pc := 44) K 0 dX8_isWithin_44 rfl ?_
                refine x_iload_n (pc := 46) K 6 dX8_isWithin_46 rfl rfl ?_
                refine x_iload_n (pc := 47) K 7 dX8_isWithin_47 rfl rfl ?_
                refine x_i2l (pc := 48) K dX8_isWithin_48 ?_
                refine x_iload (pc := 49) K 8 dX8_isWithin_49 rfl ?_
                refine x_i2l (pc := 51) K dX8_isWithin_51 ?_
                refine x_calllV (pc := 52) (st := []) (n := 5) K (by decide) sh_76 rfl (c_X8_side l G _ _ t (0 + 1) mp _ _ hT (by omega) (by omega)) gX8_isWithin_X8_side (by decide +kernel) rfl (by decide) (by decide) rfl rfl (Nat.le_of_ble_eq_true rfl) dX8_isWithin_52 (fun r_52 I_52 J_52 hp_52 => ?_)
                obtain ⟨rfl, rfl, rfl⟩ := hp_52
                refine x_lstore (pc := 55) (lo' := [(8, _), (7, _), (6, _), (5, _), (0, _), (1, _), (2, _), (3, _), (4, _)]) K dX8_isWithin_55 (by decide) rfl ?_
                refine x_iload (pc := 57) K 2 dX8_isWithin_57 rfl ?_
                refine x_if_eq (pc := 59) (tgt := 88) K dX8_isWithin_59 (by decide) (fun c_59_1 => ?_) (fun c_59_1 => ?_)
                · replace c_59_1 := cI_eq (a := 0) (b := 0) rfl rfl (by omega) (by omega) c_59_1
                  refine x_iconst (pc := 88) (v := 0) K dX8_isWithin_88 (by decide) ?_
                  refine x_istore (pc := 89) (lo' := [(6, _), (8, _), (7, _), (5, _), (0, _), (1, _), (2, _), (3, _), (4, _)]) K dX8_isWithin_89 (by decide) rfl ?_
                  refine x_iinc (pc := 91) (q0 := 2) (v := nI ((0 + 1) + 1)) (lo' := [(7, _), (6, _), (8, _), (5, _), (0, _), (1, _), (2, _), (3, _), (4, _)]) K dX8_isWithin_91 rfl (nI_incE rfl) (by decide) rfl ?_
                  refine x_goto (pc := 94) (tgt := 36) K dX8_isWithin_94 (by decide) ?_
                  refine x_iload (pc := 36) K 0 dX8_isWithin_36 rfl ?_
                  refine x_iconst (pc := 38) (v := 3) K dX8_isWithin_38 (by decide) ?_
                  refine x_icmp_ge (pc := 39) (tgt := 97) K dX8_isWithin_39 (by decide) (fun c_39_2 => ?_) (fun c_39_2 => ?_)
                  · replace c_39_2 := cI_le (a := 3) (b := ((0 + 1) + 1)) rfl rfl (by omega) (by omega) c_39_2
                    omega
                  · replace c_39_2 := cI_nle (a := 3) (b := ((0 + 1) + 1)) rfl rfl (by omega) (by omega) c_39_2
                    refine x_aload_n (pc := 42) K 4 dX8_isWithin_42 rfl rfl ?_
                    refine x_iload_n (pc := 43) K 5 dX8_isWithin_43 rfl rfl ?_
                    refine x_iload (pc := 44) K 0 dX8_isWithin_44 rfl ?_
                    refine x_iload_n (pc := 46) K 6 dX8_isWithin_46 rfl rfl ?_
                    refine x_iload_n (pc := 47) K 7 dX8_isWithin_47 rfl rfl ?_
                    refine x_i2l (pc := 48) K dX8_isWithin_48 ?_
                    refine x_iload (pc := 49) K 8 dX8_isWithin_49 rfl ?_
                    refine x_i2l (pc := 51) K dX8_isWithin_51 ?_
                    refine x_calllV (pc := 52) (st := []) (n := 5) K (by decide) sh_76 rfl (c_X8_side l G _ _ t ((0 + 1) + 1) mp _ _ hT (by omega) (by omega)) gX8_isWithin_X8_side (by decide +kernel) rfl (by decide) (by decide) rfl rfl (Nat.le_of_ble_eq_true rfl) dX8_isWithin_52 (fun r_52 I_52 J_52 hp_52 => ?_)
                    obtain ⟨rfl, rfl, rfl⟩ := hp_52
                    refine x_lstore (pc := 55) (lo' := [(8, _), (7, _), (6, _), (5, _), (0, _), (1, _), (2, _), (3, _), (4, _)]) K dX8_isWithin_55 (by decide) rfl ?_
                    refine x_iload (pc := 57) K 2 dX8_isWithin_57 rfl ?_
                    refine x_if_eq (pc := 59) (tgt := 88) K dX8_isWithin_59 (by decide) (fun c_59_2 => ?_) (fun c_59_2 => ?_)
                    · replace c_59_2 := cI_eq (a := 0) (b := 0) rfl rfl (by omega) (by omega) c_59_2
                      refine x_iconst (pc := 88) (v := 0) K dX8_isWithin_88 (by decide) ?_
                      refine x_istore (pc := 89) (lo' := [(6, _), (8, _), (7, _), (5, _), (0, _), (1, _), (2, _), (3, _), (4, _)]) K dX8_isWithin_89 (by decide) rfl ?_
                      refine x_iinc (pc := 91) (q0 := 2) (v := nI (((0 + 1) + 1) + 1)) (lo' := [(7, _), (6, _), (8, _), (5, _), (0, _), (1, _), (2, _), (3, _), (4, _)]) K dX8_isWithin_91 rfl (nI_incE rfl) (by decide) rfl ?_
                      refine x_goto (pc := 94) (tgt := 36) K dX8_isWithin_94 (by decide) ?_
                      refine x_iload (pc := 36) K 0 dX8_isWithin_36 rfl ?_
                      refine x_iconst (pc := 38) (v := 3) K dX8_isWithin_38 (by decide) ?_
                      refine x_icmp_ge (pc := 39) (tgt := 97) K dX8_isWithin_39 (by decide) (fun c_39_3 => ?_) (fun c_39_3 => ?_)
                      · replace c_39_3 := cI_le (a := 3) (b := (((0 + 1) + 1) + 1)) rfl rfl (by omega) (by omega) c_39_3
                        refine x_iload (pc := 97) K 1 dX8_isWithin_97 rfl ?_
                        exact ret (pc := 99) dX8_isWithin_99 (⟨by first | exact bz_1.mpr (by grind) | exact bz_0.mpr (by grind), rfl, rfl⟩) rfl
                      · replace c_39_3 := cI_nle (a := 3) (b := (((0 + 1) + 1) + 1)) rfl rfl (by omega) (by omega) c_39_3
                        omega
                    · replace c_59_2 := cI_ne (a := 0) (b := 0) rfl rfl (by omega) (by omega) c_59_2
                      omega
                · replace c_59_1 := cI_ne (a := 0) (b := 0) rfl rfl (by omega) (by omega) c_59_1
                  omega
            · replace c_71 := mt (lg_cmp_lt _ _).mpr c_71
              refine x_goto (pc := 74) (tgt := 84) K dX8_isWithin_74 (by decide) ?_
              refine x_iconst (pc := 84) (v := 1) K dX8_isWithin_84 (by decide) ?_
              refine x_goto (pc := 85) (tgt := 89) K dX8_isWithin_85 (by decide) ?_
              refine x_istore (pc := 89) (lo' := [(6, _), (8, _), (7, _), (5, _), (0, _), (1, _), (2, _), (3, _), (4, _)]) K dX8_isWithin_89 (by decide) rfl ?_
              refine x_iinc (pc := 91) (q0 := 2) (v := nI (0 + 1)) (lo' := [(7, _), (6, _), (8, _), (5, _), (0, _), (1, _), (2, _), (3, _), (4, _)]) K dX8_isWithin_91 rfl (nI_incE rfl) (by decide) rfl ?_
              refine x_goto (pc := 94) (tgt := 36) K dX8_isWithin_94 (by decide) ?_
              refine x_iload (pc := 36) K 0 dX8_isWithin_36 rfl ?_
              refine x_iconst (pc := 38) (v := 3) K dX8_isWithin_38 (by decide) ?_
              refine x_icmp_ge (pc := 39) (tgt := 97) K dX8_isWithin_39 (by decide) (fun c_39_1 => ?_) (fun c_39_1 => ?_)
              · replace c_39_1 := cI_le (a := 3) (b := (0 + 1)) rfl rfl (by omega) (by omega) c_39_1
                omega
              · replace c_39_1 := cI_nle (a := 3) (b := (0 + 1)) rfl rfl (by omega) (by omega) c_39_1
                refine x_aload_n (pc := 42) K 4 dX8_isWithin_42 rfl rfl ?_
                refine x_iload_n (pc := 43) K 5 dX8_isWithin_43 rfl rfl ?_
                refine x_iload (pc := 44) K 0 dX8_isWithin_44 rfl ?_
                refine x_iload_n (pc := 46) K 6 dX8_isWithin_46 rfl rfl ?_
                refine x_iload_n (pc := 47) K 7 dX8_isWithin_47 rfl rfl ?_
                refine x_i2l (pc := 48) K dX8_isWithin_48 ?_
                refine x_iload (pc := 49) K 8 dX8_isWithin_49 rfl ?_
                refine x_i2l (pc := 51) K dX8_isWithin_51 ?_
                refine x_calllV (pc := 52) (st := []) (n := 5) K (by decide) sh_76 rfl (c_X8_side l G _ _ t (0 + 1) mp _ _ hT (by omega) (by omega)) gX8_isWithin_X8_side (by decide +kernel) rfl (by decide) (by decide) rfl rfl (Nat.le_of_ble_eq_true rfl) dX8_isWithin_52 (fun r_52 I_52 J_52 hp_52 => ?_)
                obtain ⟨rfl, rfl, rfl⟩ := hp_52
                refine x_lstore (pc := 55) (lo' := [(8, _), (7, _), (6, _), (5, _), (0, _), (1, _), (2, _), (3, _), (4, _)]) K dX8_isWithin_55 (by decide) rfl ?_
                refine x_iload (pc := 57) K 2 dX8_isWithin_57 rfl ?_
                refine x_if_eq (pc := 59) (tgt := 88) K dX8_isWithin_59 (by decide) (fun c_59_1 => ?_) (fun c_59_1 => ?_)
                · replace c_59_1 := cI_eq (a := 1) (b := 0) rfl rfl (by omega) (by omega) c_59_1
                  omega
                · replace c_59_1 := cI_ne (a := 1) (b := 0) rfl rfl (by omega) (by omega) c_59_1
                  refine x_iload (pc := 62) K 3 dX8_isWithin_62 rfl ?_
                  refine x_if_eq (pc := 64) (tgt := 77) K dX8_isWithin_64 (by decide) (fun c_64_1 => ?_) (fun c_64_1 => ?_)
                  · replace c_64_1 := cI_eq (a := 1) (b := 0) rfl rfl (by omega) (by omega) c_64_1
                    omega
                  · replace c_64_1 := cI_ne (a := 1) (b := 0) rfl rfl (by omega) (by omega) c_64_1
                    refine x_lload (pc := 67) K 0 dX8_isWithin_67 rfl ?_
                    refine x_lconst (pc := 69) (v := 0) K dX8_isWithin_69 (by decide) ?_
                    refine x_lcmp (pc := 70) K dX8_isWithin_70 ?_
                    refine x_if_lt (pc := 71) (tgt := 88) K dX8_isWithin_71 (by decide) (fun c_71_1 => ?_) (fun c_71_1 => ?_)
                    · replace c_71_1 := (lg_cmp_lt _ _).mp c_71_1
                      refine x_iconst (pc := 88) (v := 0) K dX8_isWithin_88 (by decide) ?_
                      refine x_istore (pc := 89) (lo' := [(6, _), (8, _), (7, _), (5, _), (0, _), (1, _), (2, _), (3, _), (4, _)]) K dX8_isWithin_89 (by decide) rfl ?_
                      refine x_iinc (pc := 91) (q0 := 2) (v := nI ((0 + 1) + 1)) (lo' := [(7, _), (6, _), (8, _), (5, _), (0, _), (1, _), (2, _), (3, _), (4, _)]) K dX8_isWithin_91 rfl (nI_incE rfl) (by decide) rfl ?_
                      refine x_goto (pc := 94) (tgt := 36) K dX8_isWithin_94 (by decide) ?_
                      refine x_iload (pc := 36) K 0 dX8_isWithin_36 rfl ?_
                      refine x_iconst (pc := 38) (v := 3) K dX8_isWithin_38 (by decide) ?_
                      refine x_icmp_ge (pc := 39) (tgt := 97) K dX8_isWithin_39 (by decide) (fun c_39_2 => ?_) (fun c_39_2 => ?_)
                      · replace c_39_2 := cI_le (a := 3) (b := ((0 + 1) + 1)) rfl rfl (by omega) (by omega) c_39_2
                        omega
                      · replace c_39_2 := cI_nle (a := 3) (b := ((0 + 1) + 1)) rfl rfl (by omega) (by omega) c_39_2
                        refine x_aload_n (pc := 42) K 4 dX8_isWithin_42 rfl rfl ?_
                        refine x_iload_n (pc := 43) K 5 dX8_isWithin_43 rfl rfl ?_
                        refine x_iload (pc := 44) K 0 dX8_isWithin_44 rfl ?_
                        refine x_iload_n (pc := 46) K 6 dX8_isWithin_46 rfl rfl ?_
                        refine x_iload_n (pc := 47) K 7 dX8_isWithin_47 rfl rfl ?_
                        refine x_i2l (pc := 48) K dX8_isWithin_48 ?_
                        refine x_iload (pc := 49) K 8 dX8_isWithin_49 rfl ?_
                        refine x_i2l (pc := 51) K dX8_isWithin_51 ?_
                        refine x_calllV (pc := 52) (st := []) (n := 5) K (by decide) sh_76 rfl (c_X8_side l G _ _ t ((0 + 1) + 1) mp _ _ hT (by omega) (by omega)) gX8_isWithin_X8_side (by decide +kernel) rfl (by decide) (by decide) rfl rfl (Nat.le_of_ble_eq_true rfl) dX8_isWithin_52 (fun r_52 I_52 J_52 hp_52 => ?_)
                        obtain ⟨rfl, rfl, rfl⟩ := hp_52
                        refine x_lstore (pc := 55) (lo' := [(8, _), (7, _), (6, _), (5, _), (0, _), (1, _), (2, _), (3, _), (4, _)]) K dX8_isWithin_55 (by decide) rfl ?_
                        refine x_iload (pc := 57) K 2 dX8_isWithin_57 rfl ?_
                        refine x_if_eq (pc := 59) (tgt := 88) K dX8_isWithin_59 (by decide) (fun c_59_2 => ?_) (fun c_59_2 => ?_)
                        · replace c_59_2 := cI_eq (a := 0) (b := 0) rfl rfl (by omega) (by omega) c_59_2
                          refine x_iconst (pc := 88) (v := 0) K dX8_isWithin_88 (by decide) ?_
                          refine x_istore (pc := 89) (lo' := [(6, _), (8, _), (7, _), (5, _), (0, _), (1, _), (2, _), (3, _), (4, _)]) K dX8_isWithin_89 (by decide) rfl ?_
                          refine x_iinc (pc := 91) (q0 := 2) (v := nI (((0 + 1) + 1) + 1)) (lo' := [(7, _), (6, _), (8, _), (5, _), (0, _), (1, _), (2, _), (3, _), (4, _)]) K dX8_isWithin_91 rfl (nI_incE rfl) (by decide) rfl ?_
                          refine x_goto (pc := 94) (tgt := 36) K dX8_isWithin_94 (by decide) ?_
                          refine x_iload (pc := 36) K 0 dX8_isWithin_36 rfl ?_
                          refine x_iconst (pc := 38) (v := 3) K dX8_isWithin_38 (by decide) ?_
                          refine x_icmp_ge (pc := 39) (tgt := 97) K dX8_isWithin_39 (by decide) (fun c_39_3 => ?_) (fun c_39_3 => ?_)
                          · replace c_39_3 := cI_le (a := 3) (b := (((0 + 1) + 1) + 1)) rfl rfl (by omega) (by omega) c_39_3
                            refine x_iload (pc := 97) K 1 dX8_isWithin_97 rfl ?_
                            exact ret (pc := 99) dX8_isWithin_99 (⟨by first | exact bz_1.mpr (by grind) | exact bz_0.mpr (by grind), rfl, rfl⟩) rfl
                          · replace c_39_3 := cI_nle (a := 3) (b := (((0 + 1) + 1) + 1)) rfl rfl (by omega) (by omega) c_39_3
                            omega
                        · replace c_59_2 := cI_ne (a := 0) (b := 0) rfl rfl (by omega) (by omega) c_59_2
                          omega
                    · replace c_71_1 := mt (lg_cmp_lt _ _).mpr c_71_1
                      refine x_goto (pc := 74) (tgt := 84) K dX8_isWithin_74 (by decide) ?_
                      refine x_iconst (pc := 84) (v := 1) K dX8_isWithin_84 (by decide) ?_
                      refine x_goto (pc := 85) (tgt := 89) K dX8_isWithin_85 (by decide) ?_
                      refine x_istore (pc := 89) (lo' := [(6, _), (8, _), (7, _), (5, _), (0, _), (1, _), (2, _), (3, _), (4, _)]) K dX8_isWithin_89 (by decide) rfl ?_
                      refine x_iinc (pc := 91) (q0 := 2) (v := nI ((0 + 1) + 1)) (lo' := [(7, _), (6, _), (8, _), (5, _), (0, _), (1, _), (2, _), (3, _), (4, _)]) K dX8_isWithin_91 rfl (nI_incE rfl) (by decide) rfl ?_
                      refine x_goto (pc := 94) (tgt := 36) K dX8_isWithin_94 (by decide) ?_
                      refine x_iload (pc := 36) K 0 dX8_isWithin_36 rfl ?_
                      refine x_iconst (pc := 38) (v := 3) K dX8_isWithin_38 (by decide) ?_
                      refine x_icmp_ge (pc := 39) (tgt := 97) K dX8_isWithin_39 (by decide) (fun c_39_2 => ?_) (fun c_39_2 => ?_)
                      · replace c_39_2 := cI_le (a := 3) (b := ((0 + 1) + 1)) rfl rfl (by omega) (by omega) c_39_2
                        omega
                      · replace c_39_2 := cI_nle (a := 3) (b := ((0 + 1) + 1)) rfl rfl (by omega) (by omega) c_39_2
                        refine x_aload_n (pc := 42) K 4 dX8_isWithin_42 rfl rfl ?_
                        refine x_iload_n (pc := 43) K 5 dX8_isWithin_43 rfl rfl ?_
                        refine x_iload (pc := 44) K 0 dX8_isWithin_44 rfl ?_
                        refine x_iload_n (pc := 46) K 6 dX8_isWithin_46 rfl rfl ?_
                        refine x_iload_n (pc := 47) K 7 dX8_isWithin_47 rfl rfl ?_
                        refine x_i2l (pc := 48) K dX8_isWithin_48 ?_
                        refine x_iload (pc := 49) K 8 dX8_isWithin_49 rfl ?_
                        refine x_i2l (pc := 51) K dX8_isWithin_51 ?_
                        refine x_calllV (pc := 52) (st := []) (n := 5) K (by decide) sh_76 rfl (c_X8_side l G _ _ t ((0 + 1) + 1) mp _ _ hT (by omega) (by omega)) gX8_isWithin_X8_side (by decide +kernel) rfl (by decide) (by decide) rfl rfl (Nat.le_of_ble_eq_true rfl) dX8_isWithin_52 (fun r_52 I_52 J_52 hp_52 => ?_)
                        obtain ⟨rfl, rfl, rfl⟩ := hp_52
                        refine x_lstore (pc := 55) (lo' := [(8, _), (7, _), (6, _), (5, _), (0, _), (1, _), (2, _), (3, _), (4, _)]) K dX8_isWithin_55 (by decide) rfl ?_
                        refine x_iload (pc := 57) K 2 dX8_isWithin_57 rfl ?_
                        refine x_if_eq (pc := 59) (tgt := 88) K dX8_isWithin_59 (by decide) (fun c_59_2 => ?_) (fun c_59_2 => ?_)
                        · replace c_59_2 := cI_eq (a := 1) (b := 0) rfl rfl (by omega) (by omega) c_59_2
                          omega
                        · replace c_59_2 := cI_ne (a := 1) (b := 0) rfl rfl (by omega) (by omega) c_59_2
                          refine x_iload (pc := 62) K 3 dX8_isWithin_62 rfl ?_
                          refine x_if_eq (pc := 64) (tgt := 77) K dX8_isWithin_64 (by decide) (fun c_64_2 => ?_) (fun c_64_2 => ?_)
                          · replace c_64_2 := cI_eq (a := 1) (b := 0) rfl rfl (by omega) (by omega) c_64_2
                            omega
                          · replace c_64_2 := cI_ne (a := 1) (b := 0) rfl rfl (by omega) (by omega) c_64_2
                            refine x_lload (pc := 67) K 0 dX8_isWithin_67 rfl ?_
                            refine x_lconst (pc := 69) (v := 0) K dX8_isWithin_69 (by decide) ?_
                            refine x_lcmp (pc := 70) K dX8_isWithin_70 ?_
                            refine x_if_lt (pc := 71) (tgt := 88) K dX8_isWithin_71 (by decide) (fun c_71_2 => ?_) (fun c_71_2 => ?_)
                            · replace c_71_2 := (lg_cmp_lt _ _).mp c_71_2
                              refine x_iconst (pc := 88) (v := 0) K dX8_isWithin_88 (by decide) ?_
                              refine x_istore (pc := 89) (lo' := [(6, _), (8, _), (7, _), (5, _), (0, _), (1, _), (2, _), (3, _), (4, _)]) K dX8_isWithin_89 (by decide) rfl ?_
                              refine x_iinc (pc := 91) (q0 := 2) (v := nI (((0 + 1) + 1) + 1)) (lo' := [(7, _), (6, _), (8, _), (5, _), (0, _), (1, _), (2, _), (3, _), (4, _)]) K dX8_isWithin_91 rfl (nI_incE rfl) (by decide) rfl ?_
                              refine x_goto (pc := 94) (tgt := 36) K dX8_isWithin_94 (by decide) ?_
                              refine x_iload (pc := 36) K 0 dX8_isWithin_36 rfl ?_
                              refine x_iconst (pc := 38) (v := 3) K dX8_isWithin_38 (by decide) ?_
                              refine x_icmp_ge (pc := 39) (tgt := 97) K dX8_isWithin_39 (by decide) (fun c_39_3 => ?_) (fun c_39_3 => ?_)
                              · replace c_39_3 := cI_le (a := 3) (b := (((0 + 1) + 1) + 1)) rfl rfl (by omega) (by omega) c_39_3
                                refine x_iload (pc := 97) K 1 dX8_isWithin_97 rfl ?_
                                exact ret (pc := 99) dX8_isWithin_99 (⟨by first | exact bz_1.mpr (by grind) | exact bz_0.mpr (by grind), rfl, rfl⟩) rfl
                              · replace c_39_3 := cI_nle (a := 3) (b := (((0 + 1) + 1) + 1)) rfl rfl (by omega) (by omega) c_39_3
                                omega
                            · replace c_71_2 := mt (lg_cmp_lt _ _).mpr c_71_2
                              refine x_goto (pc := 74) (tgt := 84) K dX8_isWithin_74 (by decide) ?_
                              refine x_iconst (pc := 84) (v := 1) K dX8_isWithin_84 (by decide) ?_
                              refine x_goto (pc := 85) (tgt := 89) K dX8_isWithin_85 (by decide) ?_
                              refine x_istore (pc := 89) (lo' := [(6, _), (8, _), (7, _), (5, _), (0, _), (1, _), (2, _), (3, _), (4, _)]) K dX8_isWithin_89 (by decide) rfl ?_
                              refine x_iinc (pc := 91) (q0 := 2) (v := nI (((0 + 1) + 1) + 1)) (lo' := [(7, _), (6, _), (8, _), (5, _), (0, _), (1, _), (2, _), (3, _), (4, _)]) K dX8_isWithin_91 rfl (nI_incE rfl) (by decide) rfl ?_
                              refine x_goto (pc := 94) (tgt := 36) K dX8_isWithin_94 (by decide) ?_
                              refine x_iload (pc := 36) K 0 dX8_isWithin_36 rfl ?_
                              refine x_iconst (pc := 38) (v := 3) K dX8_isWithin_38 (by decide) ?_
                              refine x_icmp_ge (pc := 39) (tgt := 97) K dX8_isWithin_39 (by decide) (fun c_39_3 => ?_) (fun c_39_3 => ?_)
                              · replace c_39_3 := cI_le (a := 3) (b := (((0 + 1) + 1) + 1)) rfl rfl (by omega) (by omega) c_39_3
                                refine x_iload (pc := 97) K 1 dX8_isWithin_97 rfl ?_
                                exact ret (pc := 99) dX8_isWithin_99 (⟨by first | exact bz_1.mpr (by grind) | exact bz_0.mpr (by grind), rfl, rfl⟩) rfl
                              · replace c_39_3 := cI_nle (a := 3) (b := (((0 + 1) + 1) + 1)) rfl rfl (by omega) (by omega) c_39_3
                                omega

