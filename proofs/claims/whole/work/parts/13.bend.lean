/-! OldMap$Things, OldMap$Table, OldMap$Way, OldMap$Bend -/
abbrev bitOn (b : Int32) (k : Nat) : Prop := b >>> (nI k &&& 31) &&& 1 = 1
def addTh (I : hI) (c n : Nat) (kd x y : Int32) : hI := h_up (h_up (h_up (h_up I c 0 (nI n + 1)) (c + 1) n kd) (c + 2) n x) (c + 3) n y
def cpTh (I : hI) (a b : Nat) : hI := h_cp (h_cp (h_cp (h_up I a 0 (I b 0)) (b + 1) (a + 1) 6) (b + 2) (a + 2) 6) (b + 3) (a + 3) 6
def cpTa0 (I : hI) : hI := cpTh (cpTh (cpTr0 (cpPt0 I)) 20 47) 24 51
def cpTa1 (I : hI) : hI := cpTh (cpTh (cpTr1 (cpPt1 I)) 47 20) 51 24
def setW (J : hJ) (k : Nat) (a b c d : Int64) : hJ := h_upL (h_upL (h_upL (h_upL J k 0 a) k 1 b) k 2 c) k 3 d
def abvW (J : hJ) (k : Nat) (x y : Int64) : Int64 := J k 0 * x + J k 1 * y + J k 2
def rndW (J : hJ) (k : Nat) (x y : Int64) : Int64 := if J k 3 ≤ 0 then 0 else fdiv (2 * abvW J k x y + J k 3) (2 * J k 3)
def sm (I : hI) (b : Int32) (r : Nat) : Int64 := sumTo (fun k => if bitOn b k then (I (4 + r) k).toInt64 else 0) 12
def sp2 (I : hI) (b : Int32) (r q : Nat) : Int64 := sumTo (fun k => if bitOn b k then (I (4 + r) k * I (4 + q) k).toInt64 else 0) 12
def spr (I : hI) (J : hJ) (r q : Nat) : Int64 := J 55 6 * sp2 I (I 55 5) r q - J 58 r * J 58 q
def offA (I : hI) (J : hJ) (ax p : Nat) : Int64 := (I (4 + (ax + 2)) p).toInt64 * J (56 + ax) 3 - abvW J (56 + ax) (I (4 + 0) p).toInt64 (I (4 + 1) p).toInt64
abbrev far (I : hI) (J : hJ) (ax p : Nat) (lim : Int32) : Prop := ¬ ab64 (offA I J ax p) ≤ lim.toInt64 * J (56 + ax) 3
def shm (I : hI) (J : hJ) (ax : Nat) : Int64 := spr I J ax ax - 2 * spr I J ax (ax + 2) + spr I J (ax + 2) (ax + 2)
def tum (I : hI) (J : hJ) : Int64 := (spr I J 0 0 + spr I J 1 1) * (spr I J 2 2 + spr I J 3 3) - (spr I J 0 2 + spr I J 1 3) * (spr I J 0 2 + spr I J 1 3) - (spr I J 0 3 - spr I J 1 2) * (spr I J 0 3 - spr I J 1 2)
set_option maxHeartbeats 1000000 in
set_option maxRecDepth 100000 in
theorem c_X4_has20 (l : Launch) (G : hQ) (I : hI) (J : hJ) (x : Int32) : h_Mi l yX4_has wsX4_has 0 0 G [rr G 20, .int x] I J (fun ρ I' J' => bz (0 ≤ x ∧ x < I 20 0) = ρ ∧ I = I' ∧ J = J') := by
  refine h_Mi.of (ty := .boolean) (cc := cX4_has) (maxL := 2) [(0, rr G 20), (1, .int x)] (by decide +kernel) rfl (Nat.le_of_ble_eq_true rfl) rfl ?_
  intro Γ K ret
  have i_X4 : ∀ w ∈ u_ws RX4 TX4 4, w ∈ wsX4_has := by decide +kernel
  refine x_iload_n (pc := 0) K 1 dX4_has_0 rfl rfl ?_
  refine x_if_lt (pc := 1) (tgt := 16) K dX4_has_1 (by decide) (fun c_1 => ?_) (fun c_1 => ?_)
  · refine x_iconst (pc := 16) (v := 0) K dX4_has_16 (by decide) ?_
    exact ret (pc := 17) dX4_has_17 (⟨by first | exact bz_1.mpr (by grind) | exact bz_0.mpr (by grind), rfl, rfl⟩) rfl
  · refine x_iload_n (pc := 4) K 1 dX4_has_4 rfl rfl ?_
    refine x_aload_n (pc := 5) K 0 dX4_has_5 rfl rfl ?_
    refine x_geti (pc := 6) (index := 9) (C := RX4) (T := TX4) (N := 4) (j0 := 0) (ref := "OldMap$Things") K (by decide) sh_20 rfl i_X4 (by decide) (by decide +kernel) rfl rfl dX4_has_6 ?_
    refine x_icmp_ge (pc := 9) (tgt := 16) K dX4_has_9 (by decide) (fun c_9 => ?_) (fun c_9 => ?_)
    · refine x_iconst (pc := 16) (v := 0) K dX4_has_16 (by decide) ?_
      exact ret (pc := 17) dX4_has_17 (⟨by first | exact bz_1.mpr (by grind) | exact bz_0.mpr (by grind), rfl, rfl⟩) rfl
    · refine x_iconst (pc := 12) (v := 1) K dX4_has_12 (by decide) ?_
      refine x_goto (pc := 13) (tgt := 17) K dX4_has_13 (by decide) ?_
      exact ret (pc := 17) dX4_has_17 (⟨by first | exact bz_1.mpr (by grind) | exact bz_0.mpr (by grind), rfl, rfl⟩) rfl

set_option maxHeartbeats 1000000 in
set_option maxRecDepth 100000 in
theorem c_X4_add20 (l : Launch) (G : hQ) (I : hI) (J : hJ) (n : Nat) (kd x y : Int32) (hn : I 20 0 = nI n) (h6 : n ≤ 6) : h_Mi l yX4_add wsX4_add 0 0 G [rr G 20, .int kd, .int x, .int y] I J (fun ρ I' J' => (if n < 6 then nI n else -2) = ρ ∧ (if n < 6 then addTh I 20 n kd x y else I) = I' ∧ J = J') := by
  refine h_Mi.of (ty := .int) (cc := cX4_add) (maxL := 5) [(0, rr G 20), (1, .int kd), (2, .int x), (3, .int y)] (by decide +kernel) rfl (Nat.le_of_ble_eq_true rfl) rfl ?_
  intro Γ K ret
  have i_X4 : ∀ w ∈ u_ws RX4 TX4 4, w ∈ wsX4_add := by decide +kernel
  refine x_aload_n (pc := 0) K 0 dX4_add_0 rfl rfl ?_
  refine x_geti (pc := 1) (index := 9) (C := RX4) (T := TX4) (N := 4) (j0 := 0) (ref := "OldMap$Things") K (by decide) sh_20 rfl i_X4 (by decide) (by decide +kernel) rfl rfl dX4_add_1 ?_
  refine x_topie (nI n) hn ?_
  refine x_bipush (pc := 4) (v := 6) K dX4_add_4 (by decide) ?_
  refine x_icmp_lt (pc := 6) (tgt := 12) K dX4_add_6 (by decide) (fun c_6 => ?_) (fun c_6 => ?_)
  · replace c_6 := cI_lt (a := n) (b := 6) rfl rfl (by omega) (by omega) c_6
    refine x_aload_n (pc := 12) K 0 dX4_add_12 rfl rfl ?_
    refine x_geti (pc := 13) (index := 9) (C := RX4) (T := TX4) (N := 4) (j0 := 0) (ref := "OldMap$Things") K (by decide) sh_20 rfl i_X4 (by decide) (by decide +kernel) rfl rfl dX4_add_13 ?_
    refine x_topie (nI n) hn ?_
    refine x_istore (pc := 16) (lo' := [(4, _), (0, _), (1, _), (2, _), (3, _)]) K dX4_add_16 (by decide) rfl ?_
    refine x_aload_n (pc := 18) K 1 dX4_add_18 rfl rfl ?_
    refine x_dup (pc := 19) K dX4_add_19 rfl ?_
    refine x_geti (pc := 20) (index := 9) (C := RX4) (T := TX4) (N := 4) (j0 := 0) (ref := "OldMap$Things") K (by decide) sh_20 rfl i_X4 (by decide) (by decide +kernel) rfl rfl dX4_add_20 ?_
    refine x_topie (nI n) hn ?_
    refine x_iconst (pc := 23) (v := 1) K dX4_add_23 (by decide) ?_
    refine x_iadd (pc := 24) K dX4_add_24 ?_
    refine x_puti (ty := .int) (pc := 25) (index := 9) (C := RX4) (T := TX4) (N := 4) (j0 := 0) (ref := "OldMap$Things") K (by decide) sh_20 rfl i_X4 (by decide) (by decide +kernel) rfl tyX4 tyX4_ok nmX4 rfl (by decide +kernel) rfl rfl rfl dX4_add_25 ?_
    refine x_aload_n (pc := 28) K 1 dX4_add_28 rfl rfl ?_
    refine x_getr (r0 := 21) (pc := 29) (index := 15) (C := RX4) (T := TX4) (N := 4) (j0 := 1) (ref := "OldMap$Things") K (by decide) sh_20 rfl i_X4 (by decide) (by decide +kernel) rfl rfl rf_20_1 dX4_add_29 ?_
    refine x_iload (pc := 32) K 0 dX4_add_32 rfl ?_
    refine x_iload_n (pc := 34) K 2 dX4_add_34 rfl rfl ?_
    refine y_iast (j := n) (pc := 35) K (by decide) sh_21 rfl (by omega) (by decide) dX4_add_35 ?_
    refine x_aload_n (pc := 36) K 1 dX4_add_36 rfl rfl ?_
    refine x_getr (r0 := 22) (pc := 37) (index := 19) (C := RX4) (T := TX4) (N := 4) (j0 := 2) (ref := "OldMap$Things") K (by decide) sh_20 rfl i_X4 (by decide) (by decide +kernel) rfl rfl rf_20_2 dX4_add_37 ?_
    refine x_iload (pc := 40) K 0 dX4_add_40 rfl ?_
    refine x_iload_n (pc := 42) K 3 dX4_add_42 rfl rfl ?_
    refine y_iast (j := n) (pc := 43) K (by decide) sh_22 rfl (by omega) (by decide) dX4_add_43 ?_
    refine x_aload_n (pc := 44) K 1 dX4_add_44 rfl rfl ?_
    refine x_getr (r0 := 23) (pc := 45) (index := 22) (C := RX4) (T := TX4) (N := 4) (j0 := 3) (ref := "OldMap$Things") K (by decide) sh_20 rfl i_X4 (by decide) (by decide +kernel) rfl rfl rf_20_3 dX4_add_45 ?_
    refine x_iload (pc := 48) K 0 dX4_add_48 rfl ?_
    refine x_iload_n (pc := 50) K 4 dX4_add_50 rfl rfl ?_
    refine y_iast (j := n) (pc := 51) K (by decide) sh_23 rfl (by omega) (by decide) dX4_add_51 ?_
    refine x_iload (pc := 52) K 0 dX4_add_52 rfl ?_
    exact ret (pc := 54) dX4_add_54 (⟨by rw [if_pos (by omega)], by rw [if_pos (by omega)]; rfl, rfl⟩) rfl
  · replace c_6 := cI_nlt (a := n) (b := 6) rfl rfl (by omega) (by omega) c_6
    refine x_bipush (pc := 9) (v := -2) K dX4_add_9 (by decide) ?_
    exact ret (pc := 11) dX4_add_11 (⟨by rw [if_neg (by omega)], by rw [if_neg (by omega)], rfl⟩) rfl

set_option maxHeartbeats 1000000 in
set_option maxRecDepth 100000 in
theorem c_X4_has24 (l : Launch) (G : hQ) (I : hI) (J : hJ) (x : Int32) : h_Mi l yX4_has wsX4_has 0 0 G [rr G 24, .int x] I J (fun ρ I' J' => bz (0 ≤ x ∧ x < I 24 0) = ρ ∧ I = I' ∧ J = J') := by
  refine h_Mi.of (ty := .boolean) (cc := cX4_has) (maxL := 2) [(0, rr G 24), (1, .int x)] (by decide +kernel) rfl (Nat.le_of_ble_eq_true rfl) rfl ?_
  intro Γ K ret
  have i_X4 : ∀ w ∈ u_ws RX4 TX4 4, w ∈ wsX4_has := by decide +kernel
  refine x_iload_n (pc := 0) K 1 dX4_has_0 rfl rfl ?_
  refine x_if_lt (pc := 1) (tgt := 16) K dX4_has_1 (by decide) (fun c_1 => ?_) (fun c_1 => ?_)
  · refine x_iconst (pc := 16) (v := 0) K dX4_has_16 (by decide) ?_
    exact ret (pc := 17) dX4_has_17 (⟨by first | exact bz_1.mpr (by grind) | exact bz_0.mpr (by grind), rfl, rfl⟩) rfl
  · refine x_iload_n (pc := 4) K 1 dX4_has_4 rfl rfl ?_
    refine x_aload_n (pc := 5) K 0 dX4_has_5 rfl rfl ?_
    refine x_geti (pc := 6) (index := 9) (C := RX4) (T := TX4) (N := 4) (j0 := 0) (ref := "OldMap$Things") K (by decide) sh_24 rfl i_X4 (by decide) (by decide +kernel) rfl rfl dX4_has_6 ?_
    refine x_icmp_ge (pc := 9) (tgt := 16) K dX4_has_9 (by decide) (fun c_9 => ?_) (fun c_9 => ?_)
    · refine x_iconst (pc := 16) (v := 0) K dX4_has_16 (by decide) ?_
      exact ret (pc := 17) dX4_has_17 (⟨by first | exact bz_1.mpr (by grind) | exact bz_0.mpr (by grind), rfl, rfl⟩) rfl
    · refine x_iconst (pc := 12) (v := 1) K dX4_has_12 (by decide) ?_
      refine x_goto (pc := 13) (tgt := 17) K dX4_has_13 (by decide) ?_
      exact ret (pc := 17) dX4_has_17 (⟨by first | exact bz_1.mpr (by grind) | exact bz_0.mpr (by grind), rfl, rfl⟩) rfl

set_option maxHeartbeats 1000000 in
set_option maxRecDepth 100000 in
theorem c_X4_add24 (l : Launch) (G : hQ) (I : hI) (J : hJ) (n : Nat) (kd x y : Int32) (hn : I 24 0 = nI n) (h6 : n ≤ 6) : h_Mi l yX4_add wsX4_add 0 0 G [rr G 24, .int kd, .int x, .int y] I J (fun ρ I' J' => (if n < 6 then nI n else -2) = ρ ∧ (if n < 6 then addTh I 24 n kd x y else I) = I' ∧ J = J') := by
  refine h_Mi.of (ty := .int) (cc := cX4_add) (maxL := 5) [(0, rr G 24), (1, .int kd), (2, .int x), (3, .int y)] (by decide +kernel) rfl (Nat.le_of_ble_eq_true rfl) rfl ?_
  intro Γ K ret
  have i_X4 : ∀ w ∈ u_ws RX4 TX4 4, w ∈ wsX4_add := by decide +kernel
  refine x_aload_n (pc := 0) K 0 dX4_add_0 rfl rfl ?_
  refine x_geti (pc := 1) (index := 9) (C := RX4) (T := TX4) (N := 4) (j0 := 0) (ref := "OldMap$Things") K (by decide) sh_24 rfl i_X4 (by decide) (by decide +kernel) rfl rfl dX4_add_1 ?_
  refine x_topie (nI n) hn ?_
  refine x_bipush (pc := 4) (v := 6) K dX4_add_4 (by decide) ?_
  refine x_icmp_lt (pc := 6) (tgt := 12) K dX4_add_6 (by decide) (fun c_6 => ?_) (fun c_6 => ?_)
  · replace c_6 := cI_lt (a := n) (b := 6) rfl rfl (by omega) (by omega) c_6
    refine x_aload_n (pc := 12) K 0 dX4_add_12 rfl rfl ?_
    refine x_geti (pc := 13) (index := 9) (C := RX4) (T := TX4) (N := 4) (j0 := 0) (ref := "OldMap$Things") K (by decide) sh_24 rfl i_X4 (by decide) (by decide +kernel) rfl rfl dX4_add_13 ?_
    refine x_topie (nI n) hn ?_
    refine x_istore (pc := 16) (lo' := [(4, _), (0, _), (1, _), (2, _), (3, _)]) K dX4_add_16 (by decide) rfl ?_
    refine x_aload_n (pc := 18) K 1 dX4_add_18 rfl rfl ?_
    refine x_dup (pc := 19) K dX4_add_19 rfl ?_
    refine x_geti (pc := 20) (index := 9) (C := RX4) (T := TX4) (N := 4) (j0 := 0) (ref := "OldMap$Things") K (by decide) sh_24 rfl i_X4 (by decide) (by decide +kernel) rfl rfl dX4_add_20 ?_
    refine x_topie (nI n) hn ?_
    refine x_iconst (pc := 23) (v := 1) K dX4_add_23 (by decide) ?_
    refine x_iadd (pc := 24) K dX4_add_24 ?_
    refine x_puti (ty := .int) (pc := 25) (index := 9) (C := RX4) (T := TX4) (N := 4) (j0 := 0) (ref := "OldMap$Things") K (by decide) sh_24 rfl i_X4 (by decide) (by decide +kernel) rfl tyX4 tyX4_ok nmX4 rfl (by decide +kernel) rfl rfl rfl dX4_add_25 ?_
    refine x_aload_n (pc := 28) K 1 dX4_add_28 rfl rfl ?_
    refine x_getr (r0 := 25) (pc := 29) (index := 15) (C := RX4) (T := TX4) (N := 4) (j0 := 1) (ref := "OldMap$Things") K (by decide) sh_24 rfl i_X4 (by decide) (by decide +kernel) rfl rfl rf_24_1 dX4_add_29 ?_
    refine x_iload (pc := 32) K 0 dX4_add_32 rfl ?_
    refine x_iload_n (pc := 34) K 2 dX4_add_34 rfl rfl ?_
    refine y_iast (j := n) (pc := 35) K (by decide) sh_25 rfl (by omega) (by decide) dX4_add_35 ?_
    refine x_aload_n (pc := 36) K 1 dX4_add_36 rfl rfl ?_
    refine x_getr (r0 := 26) (pc := 37) (index := 19) (C := RX4) (T := TX4) (N := 4) (j0 := 2) (ref := "OldMap$Things") K (by decide) sh_24 rfl i_X4 (by decide) (by decide +kernel) rfl rfl rf_24_2 dX4_add_37 ?_
    refine x_iload (pc := 40) K 0 dX4_add_40 rfl ?_
    refine x_iload_n (pc := 42) K 3 dX4_add_42 rfl rfl ?_
    refine y_iast (j := n) (pc := 43) K (by decide) sh_26 rfl (by omega) (by decide) dX4_add_43 ?_
    refine x_aload_n (pc := 44) K 1 dX4_add_44 rfl rfl ?_
    refine x_getr (r0 := 27) (pc := 45) (index := 22) (C := RX4) (T := TX4) (N := 4) (j0 := 3) (ref := "OldMap$Things") K (by decide) sh_24 rfl i_X4 (by decide) (by decide +kernel) rfl rfl rf_24_3 dX4_add_45 ?_
    refine x_iload (pc := 48) K 0 dX4_add_48 rfl ?_
    refine x_iload_n (pc := 50) K 4 dX4_add_50 rfl rfl ?_
    refine y_iast (j := n) (pc := 51) K (by decide) sh_27 rfl (by omega) (by decide) dX4_add_51 ?_
    refine x_iload (pc := 52) K 0 dX4_add_52 rfl ?_
    exact ret (pc := 54) dX4_add_54 (⟨by rw [if_pos (by omega)], by rw [if_pos (by omega)]; rfl, rfl⟩) rfl
  · replace c_6 := cI_nlt (a := n) (b := 6) rfl rfl (by omega) (by omega) c_6
    refine x_bipush (pc := 9) (v := -2) K dX4_add_9 (by decide) ?_
    exact ret (pc := 11) dX4_add_11 (⟨by rw [if_neg (by omega)], by rw [if_neg (by omega)], rfl⟩) rfl

set_option maxHeartbeats 1000000 in
set_option maxRecDepth 100000 in
theorem c_X4_copyFrom20 (l : Launch) (G : hQ) (I : hI) (J : hJ) : h_Mv l yX4_copyFrom wsX4_copyFrom 1 20 G [rr G 20, rr G 47] I J (fun I' J' => cpTh I 20 47 = I' ∧ J = J') := by
  refine h_Mv.of (cc := cX4_copyFrom) (maxL := 2) [(0, rr G 20), (1, rr G 47)] (by decide +kernel) rfl (Nat.le_of_ble_eq_true rfl) rfl ?_
  intro Γ K ret
  have i_X4 : ∀ w ∈ u_ws RX4 TX4 4, w ∈ wsX4_copyFrom := by decide +kernel
  refine x_aload_n (pc := 0) K 0 dX4_copyFrom_0 rfl rfl ?_
  refine x_aload_n (pc := 1) K 1 dX4_copyFrom_1 rfl rfl ?_
  refine x_geti (pc := 2) (index := 9) (C := RX4) (T := TX4) (N := 4) (j0 := 0) (ref := "OldMap$Things") K (by decide) sh_47 rfl i_X4 (by decide) (by decide +kernel) rfl rfl dX4_copyFrom_2 ?_
  refine x_puti (ty := .int) (pc := 5) (index := 9) (C := RX4) (T := TX4) (N := 4) (j0 := 0) (ref := "OldMap$Things") K (by decide) sh_20 rfl i_X4 (by decide) (by decide +kernel) rfl tyX4 tyX4_ok nmX4 rfl (by decide +kernel) rfl rfl rfl dX4_copyFrom_5 ?_
  refine x_aload_n (pc := 8) K 1 dX4_copyFrom_8 rfl rfl ?_
  refine x_getr (r0 := 48) (pc := 9) (index := 15) (C := RX4) (T := TX4) (N := 4) (j0 := 1) (ref := "OldMap$Things") K (by decide) sh_47 rfl i_X4 (by decide) (by decide +kernel) rfl rfl rf_47_1 dX4_copyFrom_9 ?_
  refine x_iconst (pc := 12) (v := 0) K dX4_copyFrom_12 (by decide) ?_
  refine x_aload_n (pc := 13) K 0 dX4_copyFrom_13 rfl rfl ?_
  refine x_getr (r0 := 21) (pc := 14) (index := 15) (C := RX4) (T := TX4) (N := 4) (j0 := 1) (ref := "OldMap$Things") K (by decide) sh_20 rfl i_X4 (by decide) (by decide +kernel) rfl rfl rf_20_1 dX4_copyFrom_14 ?_
  refine x_iconst (pc := 17) (v := 0) K dX4_copyFrom_17 (by decide) ?_
  refine x_bipush (pc := 18) (v := 6) K dX4_copyFrom_18 (by decide) ?_
  refine y_copy (n := 6) (pc := 20) K (by decide) sh_48 (by decide) sh_21 rfl rfl rfl (by decide) (by decide) (by decide) (by decide +kernel) (by decide +kernel) (by decide +kernel) (by decide +kernel) (by decide) (Nat.le_of_ble_eq_true rfl) dX4_copyFrom_20 ?_
  refine x_aload_n (pc := 23) K 1 dX4_copyFrom_23 rfl rfl ?_
  refine x_getr (r0 := 49) (pc := 24) (index := 19) (C := RX4) (T := TX4) (N := 4) (j0 := 2) (ref := "OldMap$Things") K (by decide) sh_47 rfl i_X4 (by decide) (by decide +kernel) rfl rfl rf_47_2 dX4_copyFrom_24 ?_
  refine x_iconst (pc := 27) (v := 0) K dX4_copyFrom_27 (by decide) ?_
  refine x_aload_n (pc := 28) K 0 dX4_copyFrom_28 rfl rfl ?_
  refine x_getr (r0 := 22) (pc := 29) (index := 19) (C := RX4) (T := TX4) (N := 4) (j0 := 2) (ref := "OldMap$Things") K (by decide) sh_20 rfl i_X4 (by decide) (by decide +kernel) rfl rfl rf_20_2 dX4_copyFrom_29 ?_
  refine x_iconst (pc := 32) (v := 0) K dX4_copyFrom_32 (by decide) ?_
  refine x_bipush (pc := 33) (v := 6) K dX4_copyFrom_33 (by decide) ?_
  refine y_copy (n := 6) (pc := 35) K (by decide) sh_49 (by decide) sh_22 rfl rfl rfl (by decide) (by decide) (by decide) (by decide +kernel) (by decide +kernel) (by decide +kernel) (by decide +kernel) (by decide) (Nat.le_of_ble_eq_true rfl) dX4_copyFrom_35 ?_
  refine x_aload_n (pc := 38) K 1 dX4_copyFrom_38 rfl rfl ?_
  refine x_getr (r0 := 50) (pc := 39) (index := 22) (C := RX4) (T := TX4) (N := 4) (j0 := 3) (ref := "OldMap$Things") K (by decide) sh_47 rfl i_X4 (by decide) (by decide +kernel) rfl rfl rf_47_3 dX4_copyFrom_39 ?_
  refine x_iconst (pc := 42) (v := 0) K dX4_copyFrom_42 (by decide) ?_
  refine x_aload_n (pc := 43) K 0 dX4_copyFrom_43 rfl rfl ?_
  refine x_getr (r0 := 23) (pc := 44) (index := 22) (C := RX4) (T := TX4) (N := 4) (j0 := 3) (ref := "OldMap$Things") K (by decide) sh_20 rfl i_X4 (by decide) (by decide +kernel) rfl rfl rf_20_3 dX4_copyFrom_44 ?_
  refine x_iconst (pc := 47) (v := 0) K dX4_copyFrom_47 (by decide) ?_
  refine x_bipush (pc := 48) (v := 6) K dX4_copyFrom_48 (by decide) ?_
  refine y_copy (n := 6) (pc := 50) K (by decide) sh_50 (by decide) sh_23 rfl rfl rfl (by decide) (by decide) (by decide) (by decide +kernel) (by decide +kernel) (by decide +kernel) (by decide +kernel) (by decide) (Nat.le_of_ble_eq_true rfl) dX4_copyFrom_50 ?_
  exact ret (pc := 53) dX4_copyFrom_53 (⟨rfl, rfl⟩)

set_option maxHeartbeats 1000000 in
set_option maxRecDepth 100000 in
theorem c_X4_copyFrom24 (l : Launch) (G : hQ) (I : hI) (J : hJ) : h_Mv l yX4_copyFrom wsX4_copyFrom 1 20 G [rr G 24, rr G 51] I J (fun I' J' => cpTh I 24 51 = I' ∧ J = J') := by
  refine h_Mv.of (cc := cX4_copyFrom) (maxL := 2) [(0, rr G 24), (1, rr G 51)] (by decide +kernel) rfl (Nat.le_of_ble_eq_true rfl) rfl ?_
  intro Γ K ret
  have i_X4 : ∀ w ∈ u_ws RX4 TX4 4, w ∈ wsX4_copyFrom := by decide +kernel
  refine x_aload_n (pc := 0) K 0 dX4_copyFrom_0 rfl rfl ?_
  refine x_aload_n (pc := 1) K 1 dX4_copyFrom_1 rfl rfl ?_
  refine x_geti (pc := 2) (index := 9) (C := RX4) (T := TX4) (N := 4) (j0 := 0) (ref := "OldMap$Things") K (by decide) sh_51 rfl i_X4 (by decide) (by decide +kernel) rfl rfl dX4_copyFrom_2 ?_
  refine x_puti (ty := .int) (pc := 5) (index := 9) (C := RX4) (T := TX4) (N := 4) (j0 := 0) (ref := "OldMap$Things") K (by decide) sh_24 rfl i_X4 (by decide) (by decide +kernel) rfl tyX4 tyX4_ok nmX4 rfl (by decide +kernel) rfl rfl rfl dX4_copyFrom_5 ?_
  refine x_aload_n (pc := 8) K 1 dX4_copyFrom_8 rfl rfl ?_
  refine x_getr (r0 := 52) (pc := 9) (index := 15) (C := RX4) (T := TX4) (N := 4) (j0 := 1) (ref := "OldMap$Things") K (by decide) sh_51 rfl i_X4 (by decide) (by decide +kernel) rfl rfl rf_51_1 dX4_copyFrom_9 ?_
  refine x_iconst (pc := 12) (v := 0) K dX4_copyFrom_12 (by decide) ?_
  refine x_aload_n (pc := 13) K 0 dX4_copyFrom_13 rfl rfl ?_
  refine x_getr (r0 := 25) (pc := 14) (index := 15) (C := RX4) (T := TX4) (N := 4) (j0 := 1) (ref := "OldMap$Things") K (by decide) sh_24 rfl i_X4 (by decide) (by decide +kernel) rfl rfl rf_24_1 dX4_copyFrom_14 ?_
  refine x_iconst (pc := 17) (v := 0) K dX4_copyFrom_17 (by decide) ?_
  refine x_bipush (pc := 18) (v := 6) K dX4_copyFrom_18 (by decide) ?_
  refine y_copy (n := 6) (pc := 20) K (by decide) sh_52 (by decide) sh_25 rfl rfl rfl (by decide) (by decide) (by decide) (by decide +kernel) (by decide +kernel) (by decide +kernel) (by decide +kernel) (by decide) (Nat.le_of_ble_eq_true rfl) dX4_copyFrom_20 ?_
  refine x_aload_n (pc := 23) K 1 dX4_copyFrom_23 rfl rfl ?_
  refine x_getr (r0 := 53) (pc := 24) (index := 19) (C := RX4) (T := TX4) (N := 4) (j0 := 2) (ref := "OldMap$Things") K (by decide) sh_51 rfl i_X4 (by decide) (by decide +kernel) rfl rfl rf_51_2 dX4_copyFrom_24 ?_
  refine x_iconst (pc := 27) (v := 0) K dX4_copyFrom_27 (by decide) ?_
  refine x_aload_n (pc := 28) K 0 dX4_copyFrom_28 rfl rfl ?_
  refine x_getr (r0 := 26) (pc := 29) (index := 19) (C := RX4) (T := TX4) (N := 4) (j0 := 2) (ref := "OldMap$Things") K (by decide) sh_24 rfl i_X4 (by decide) (by decide +kernel) rfl rfl rf_24_2 dX4_copyFrom_29 ?_
  refine x_iconst (pc := 32) (v := 0) K dX4_copyFrom_32 (by decide) ?_
  refine x_bipush (pc := 33) (v := 6) K dX4_copyFrom_33 (by decide) ?_
  refine y_copy (n := 6) (pc := 35) K (by decide) sh_53 (by decide) sh_26 rfl rfl rfl (by decide) (by decide) (by decide) (by decide +kernel) (by decide +kernel) (by decide +kernel) (by decide +kernel) (by decide) (Nat.le_of_ble_eq_true rfl) dX4_copyFrom_35 ?_
  refine x_aload_n (pc := 38) K 1 dX4_copyFrom_38 rfl rfl ?_
  refine x_getr (r0 := 54) (pc := 39) (index := 22) (C := RX4) (T := TX4) (N := 4) (j0 := 3) (ref := "OldMap$Things") K (by decide) sh_51 rfl i_X4 (by decide) (by decide +kernel) rfl rfl rf_51_3 dX4_copyFrom_39 ?_
  refine x_iconst (pc := 42) (v := 0) K dX4_copyFrom_42 (by decide) ?_
  refine x_aload_n (pc := 43) K 0 dX4_copyFrom_43 rfl rfl ?_
  refine x_getr (r0 := 27) (pc := 44) (index := 22) (C := RX4) (T := TX4) (N := 4) (j0 := 3) (ref := "OldMap$Things") K (by decide) sh_24 rfl i_X4 (by decide) (by decide +kernel) rfl rfl rf_24_3 dX4_copyFrom_44 ?_
  refine x_iconst (pc := 47) (v := 0) K dX4_copyFrom_47 (by decide) ?_
  refine x_bipush (pc := 48) (v := 6) K dX4_copyFrom_48 (by decide) ?_
  refine y_copy (n := 6) (pc := 50) K (by decide) sh_54 (by decide) sh_27 rfl rfl rfl (by decide) (by decide) (by decide) (by decide +kernel) (by decide +kernel) (by decide +kernel) (by decide +kernel) (by decide) (Nat.le_of_ble_eq_true rfl) dX4_copyFrom_50 ?_
  exact ret (pc := 53) dX4_copyFrom_53 (⟨rfl, rfl⟩)

set_option maxHeartbeats 1000000 in
set_option maxRecDepth 100000 in
theorem c_X4_copyFrom47 (l : Launch) (G : hQ) (I : hI) (J : hJ) : h_Mv l yX4_copyFrom wsX4_copyFrom 1 20 G [rr G 47, rr G 20] I J (fun I' J' => cpTh I 47 20 = I' ∧ J = J') := by
  refine h_Mv.of (cc := cX4_copyFrom) (maxL := 2) [(0, rr G 47), (1, rr G 20)] (by decide +kernel) rfl (Nat.le_of_ble_eq_true rfl) rfl ?_
  intro Γ K ret
  have i_X4 : ∀ w ∈ u_ws RX4 TX4 4, w ∈ wsX4_copyFrom := by decide +kernel
  refine x_aload_n (pc := 0) K 0 dX4_copyFrom_0 rfl rfl ?_
  refine x_aload_n (pc := 1) K 1 dX4_copyFrom_1 rfl rfl ?_
  refine x_geti (pc := 2) (index := 9) (C := RX4) (T := TX4) (N := 4) (j0 := 0) (ref := "OldMap$Things") K (by decide) sh_20 rfl i_X4 (by decide) (by decide +kernel) rfl rfl dX4_copyFrom_2 ?_
  refine x_puti (ty := .int) (pc := 5) (index := 9) (C := RX4) (T := TX4) (N := 4) (j0 := 0) (ref := "OldMap$Things") K (by decide) sh_47 rfl i_X4 (by decide) (by decide +kernel) rfl tyX4 tyX4_ok nmX4 rfl (by decide +kernel) rfl rfl rfl dX4_copyFrom_5 ?_
  refine x_aload_n (pc := 8) K 1 dX4_copyFrom_8 rfl rfl ?_
  refine x_getr (r0 := 21) (pc := 9) (index := 15) (C := RX4) (T := TX4) (N := 4) (j0 := 1) (ref := "OldMap$Things") K (by decide) sh_20 rfl i_X4 (by decide) (by decide +kernel) rfl rfl rf_20_1 dX4_copyFrom_9 ?_
  refine x_iconst (pc := 12) (v := 0) K dX4_copyFrom_12 (by decide) ?_
  refine x_aload_n (pc := 13) K 0 dX4_copyFrom_13 rfl rfl ?_
  refine x_getr (r0 := 48) (pc := 14) (index := 15) (C := RX4) (T := TX4) (N := 4) (j0 := 1) (ref := "OldMap$Things") K (by decide) sh_47 rfl i_X4 (by decide) (by decide +kernel) rfl rfl rf_47_1 dX4_copyFrom_14 ?_
  refine x_iconst (pc := 17) (v := 0) K dX4_copyFrom_17 (by decide) ?_
  refine x_bipush (pc := 18) (v := 6) K dX4_copyFrom_18 (by decide) ?_
  refine y_copy (n := 6) (pc := 20) K (by decide) sh_21 (by decide) sh_48 rfl rfl rfl (by decide) (by decide) (by decide) (by decide +kernel) (by decide +kernel) (by decide +kernel) (by decide +kernel) (by decide) (Nat.le_of_ble_eq_true rfl) dX4_copyFrom_20 ?_
  refine x_aload_n (pc := 23) K 1 dX4_copyFrom_23 rfl rfl ?_
  refine x_getr (r0 := 22) (pc := 24) (index := 19) (C := RX4) (T := TX4) (N := 4) (j0 := 2) (ref := "OldMap$Things") K (by decide) sh_20 rfl i_X4 (by decide) (by decide +kernel) rfl rfl rf_20_2 dX4_copyFrom_24 ?_
  refine x_iconst (pc := 27) (v := 0) K dX4_copyFrom_27 (by decide) ?_
  refine x_aload_n (pc := 28) K 0 dX4_copyFrom_28 rfl rfl ?_
  refine x_getr (r0 := 49) (pc := 29) (index := 19) (C := RX4) (T := TX4) (N := 4) (j0 := 2) (ref := "OldMap$Things") K (by decide) sh_47 rfl i_X4 (by decide) (by decide +kernel) rfl rfl rf_47_2 dX4_copyFrom_29 ?_
  refine x_iconst (pc := 32) (v := 0) K dX4_copyFrom_32 (by decide) ?_
  refine x_bipush (pc := 33) (v := 6) K dX4_copyFrom_33 (by decide) ?_
  refine y_copy (n := 6) (pc := 35) K (by decide) sh_22 (by decide) sh_49 rfl rfl rfl (by decide) (by decide) (by decide) (by decide +kernel) (by decide +kernel) (by decide +kernel) (by decide +kernel) (by decide) (Nat.le_of_ble_eq_true rfl) dX4_copyFrom_35 ?_
  refine x_aload_n (pc := 38) K 1 dX4_copyFrom_38 rfl rfl ?_
  refine x_getr (r0 := 23) (pc := 39) (index := 22) (C := RX4) (T := TX4) (N := 4) (j0 := 3) (ref := "OldMap$Things") K (by decide) sh_20 rfl i_X4 (by decide) (by decide +kernel) rfl rfl rf_20_3 dX4_copyFrom_39 ?_
  refine x_iconst (pc := 42) (v := 0) K dX4_copyFrom_42 (by decide) ?_
  refine x_aload_n (pc := 43) K 0 dX4_copyFrom_43 rfl rfl ?_
  refine x_getr (r0 := 50) (pc := 44) (index := 22) (C := RX4) (T := TX4) (N := 4) (j0 := 3) (ref := "OldMap$Things") K (by decide) sh_47 rfl i_X4 (by decide) (by decide +kernel) rfl rfl rf_47_3 dX4_copyFrom_44 ?_
  refine x_iconst (pc := 47) (v := 0) K dX4_copyFrom_47 (by decide) ?_
  refine x_bipush (pc := 48) (v := 6) K dX4_copyFrom_48 (by decide) ?_
  refine y_copy (n := 6) (pc := 50) K (by decide) sh_23 (by decide) sh_50 rfl rfl rfl (by decide) (by decide) (by decide) (by decide +kernel) (by decide +kernel) (by decide +kernel) (by decide +kernel) (by decide) (Nat.le_of_ble_eq_true rfl) dX4_copyFrom_50 ?_
  exact ret (pc := 53) dX4_copyFrom_53 (⟨rfl, rfl⟩)

set_option maxHeartbeats 1000000 in
set_option maxRecDepth 100000 in
theorem c_X4_copyFrom51 (l : Launch) (G : hQ) (I : hI) (J : hJ) : h_Mv l yX4_copyFrom wsX4_copyFrom 1 20 G [rr G 51, rr G 24] I J (fun I' J' => cpTh I 51 24 = I' ∧ J = J') := by
  refine h_Mv.of (cc := cX4_copyFrom) (maxL := 2) [(0, rr G 51), (1, rr G 24)] (by decide +kernel) rfl (Nat.le_of_ble_eq_true rfl) rfl ?_
  intro Γ K ret
  have i_X4 : ∀ w ∈ u_ws RX4 TX4 4, w ∈ wsX4_copyFrom := by decide +kernel
  refine x_aload_n (pc := 0) K 0 dX4_copyFrom_0 rfl rfl ?_
  refine x_aload_n (pc := 1) K 1 dX4_copyFrom_1 rfl rfl ?_
  refine x_geti (pc := 2) (index := 9) (C := RX4) (T := TX4) (N := 4) (j0 := 0) (ref := "OldMap$Things") K (by decide) sh_24 rfl i_X4 (by decide) (by decide +kernel) rfl rfl dX4_copyFrom_2 ?_
  refine x_puti (ty := .int) (pc := 5) (index := 9) (C := RX4) (T := TX4) (N := 4) (j0 := 0) (ref := "OldMap$Things") K (by decide) sh_51 rfl i_X4 (by decide) (by decide +kernel) rfl tyX4 tyX4_ok nmX4 rfl (by decide +kernel) rfl rfl rfl dX4_copyFrom_5 ?_
  refine x_aload_n (pc := 8) K 1 dX4_copyFrom_8 rfl rfl ?_
  refine x_getr (r0 := 25) (pc := 9) (index := 15) (C := RX4) (T := TX4) (N := 4) (j0 := 1) (ref := "OldMap$Things") K (by decide) sh_24 rfl i_X4 (by decide) (by decide +kernel) rfl rfl rf_24_1 dX4_copyFrom_9 ?_
  refine x_iconst (pc := 12) (v := 0) K dX4_copyFrom_12 (by decide) ?_
  refine x_aload_n (pc := 13) K 0 dX4_copyFrom_13 rfl rfl ?_
  refine x_getr (r0 := 52) (pc := 14) (index := 15) (C := RX4) (T := TX4) (N := 4) (j0 := 1) (ref := "OldMap$Things") K (by decide) sh_51 rfl i_X4 (by decide) (by decide +kernel) rfl rfl rf_51_1 dX4_copyFrom_14 ?_
  refine x_iconst (pc := 17) (v := 0) K dX4_copyFrom_17 (by decide) ?_
  refine x_bipush (pc := 18) (v := 6) K dX4_copyFrom_18 (by decide) ?_
  refine y_copy (n := 6) (pc := 20) K (by decide) sh_25 (by decide) sh_52 rfl rfl rfl (by decide) (by decide) (by decide) (by decide +kernel) (by decide +kernel) (by decide +kernel) (by decide +kernel) (by decide) (Nat.le_of_ble_eq_true rfl) dX4_copyFrom_20 ?_
  refine x_aload_n (pc := 23) K 1 dX4_copyFrom_23 rfl rfl ?_
  refine x_getr (r0 := 26) (pc := 24) (index := 19) (C := RX4) (T := TX4) (N := 4) (j0 := 2) (ref := "OldMap$Things") K (by decide) sh_24 rfl i_X4 (by decide) (by decide +kernel) rfl rfl rf_24_2 dX4_copyFrom_24 ?_
  refine x_iconst (pc := 27) (v := 0) K dX4_copyFrom_27 (by decide) ?_
  refine x_aload_n (pc := 28) K 0 dX4_copyFrom_28 rfl rfl ?_
  refine x_getr (r0 := 53) (pc := 29) (index := 19) (C := RX4) (T := TX4) (N := 4) (j0 := 2) (ref := "OldMap$Things") K (by decide) sh_51 rfl i_X4 (by decide) (by decide +kernel) rfl rfl rf_51_2 dX4_copyFrom_29 ?_
  refine x_iconst (pc := 32) (v := 0) K dX4_copyFrom_32 (by decide) ?_
  refine x_bipush (pc := 33) (v := 6) K dX4_copyFrom_33 (by decide) ?_
  refine y_copy (n := 6) (pc := 35) K (by decide) sh_26 (by decide) sh_53 rfl rfl rfl (by decide) (by decide) (by decide) (by decide +kernel) (by decide +kernel) (by decide +kernel) (by decide +kernel) (by decide) (Nat.le_of_ble_eq_true rfl) dX4_copyFrom_35 ?_
  refine x_aload_n (pc := 38) K 1 dX4_copyFrom_38 rfl rfl ?_
  refine x_getr (r0 := 27) (pc := 39) (index := 22) (C := RX4) (T := TX4) (N := 4) (j0 := 3) (ref := "OldMap$Things") K (by decide) sh_24 rfl i_X4 (by decide) (by decide +kernel) rfl rfl rf_24_3 dX4_copyFrom_39 ?_
  refine x_iconst (pc := 42) (v := 0) K dX4_copyFrom_42 (by decide) ?_
  refine x_aload_n (pc := 43) K 0 dX4_copyFrom_43 rfl rfl ?_
  refine x_getr (r0 := 54) (pc := 44) (index := 22) (C := RX4) (T := TX4) (N := 4) (j0 := 3) (ref := "OldMap$Things") K (by decide) sh_51 rfl i_X4 (by decide) (by decide +kernel) rfl rfl rf_51_3 dX4_copyFrom_44 ?_
  refine x_iconst (pc := 47) (v := 0) K dX4_copyFrom_47 (by decide) ?_
  refine x_bipush (pc := 48) (v := 6) K dX4_copyFrom_48 (by decide) ?_
  refine y_copy (n := 6) (pc := 50) K (by decide) sh_27 (by decide) sh_54 rfl rfl rfl (by decide) (by decide) (by decide) (by decide +kernel) (by decide +kernel) (by decide +kernel) (by decide +kernel) (by decide) (Nat.le_of_ble_eq_true rfl) dX4_copyFrom_50 ?_
  exact ret (pc := 53) dX4_copyFrom_53 (⟨rfl, rfl⟩)

set_option maxHeartbeats 1000000 in
set_option maxRecDepth 100000 in
theorem c_X3_thingsOf0 (l : Launch) (G : hQ) (I : hI) (J : hJ) : h_Mr l yX3_thingsOf wsX3_thingsOf 0 0 G [rr G 1, .int 0] I J (fun ρ I' J' => 20 = ρ ∧ I = I' ∧ J = J') := by
  refine h_Mr.of (cc := cX3_thingsOf) (maxL := 2) [(0, rr G 1), (1, .int 0)] (by decide +kernel) rfl (Nat.le_of_ble_eq_true rfl) rfl ?_
  intro Γ K ret
  have i_X3 : ∀ w ∈ u_ws RX3 TX3 4, w ∈ wsX3_thingsOf := by decide +kernel
  refine x_iload_n (pc := 0) K 1 dX3_thingsOf_0 rfl rfl ?_
  refine x_if_ne (pc := 1) (tgt := 11) K dX3_thingsOf_1 (by decide) (fun c_1 => ?_) (fun c_1 => ?_)
  · replace c_1 := cI_ne (a := 0) (b := 0) rfl rfl (by omega) (by omega) c_1
    omega
  · replace c_1 := cI_eq (a := 0) (b := 0) rfl rfl (by omega) (by omega) c_1
    refine x_aload_n (pc := 4) K 0 dX3_thingsOf_4 rfl rfl ?_
    refine x_getr (r0 := 20) (pc := 5) (index := 28) (C := RX3) (T := TX3) (N := 4) (j0 := 2) (ref := "OldMap$Table") K (by decide) sh_1 rfl i_X3 (by decide) (by decide +kernel) rfl rfl rf_1_2 dX3_thingsOf_5 ?_
    refine x_goto (pc := 8) (tgt := 15) K dX3_thingsOf_8 (by decide) ?_
    exact ret (pc := 15) dX3_thingsOf_15 (⟨rfl, rfl, rfl⟩)

set_option maxHeartbeats 1000000 in
set_option maxRecDepth 100000 in
theorem c_X3_thingsOf1 (l : Launch) (G : hQ) (I : hI) (J : hJ) : h_Mr l yX3_thingsOf wsX3_thingsOf 0 0 G [rr G 1, .int 1] I J (fun ρ I' J' => 24 = ρ ∧ I = I' ∧ J = J') := by
  refine h_Mr.of (cc := cX3_thingsOf) (maxL := 2) [(0, rr G 1), (1, .int 1)] (by decide +kernel) rfl (Nat.le_of_ble_eq_true rfl) rfl ?_
  intro Γ K ret
  have i_X3 : ∀ w ∈ u_ws RX3 TX3 4, w ∈ wsX3_thingsOf := by decide +kernel
  refine x_iload_n (pc := 0) K 1 dX3_thingsOf_0 rfl rfl ?_
  refine x_if_ne (pc := 1) (tgt := 11) K dX3_thingsOf_1 (by decide) (fun c_1 => ?_) (fun c_1 => ?_)
  · replace c_1 := cI_ne (a := 1) (b := 0) rfl rfl (by omega) (by omega) c_1
    refine x_aload_n (pc := 11) K 0 dX3_thingsOf_11 rfl rfl ?_
    refine x_getr (r0 := 24) (pc := 12) (index := 32) (C := RX3) (T := TX3) (N := 4) (j0 := 3) (ref := "OldMap$Table") K (by decide) sh_1 rfl i_X3 (by decide) (by decide +kernel) rfl rfl rf_1_3 dX3_thingsOf_12 ?_
    exact ret (pc := 15) dX3_thingsOf_15 (⟨rfl, rfl, rfl⟩)
  · replace c_1 := cI_eq (a := 1) (b := 0) rfl rfl (by omega) (by omega) c_1
    omega

set_option maxHeartbeats 1000000 in
set_option maxRecDepth 100000 in
theorem c_X3_copyFrom0 (l : Launch) (G : hQ) (I : hI) (J : hJ) : h_Mv l yX3_copyFrom wsX3_copyFrom 2 42 G [rr G 1, rr G 28] I J (fun I' J' => cpTa0 I = I' ∧ J = J') := by
  refine h_Mv.of (cc := cX3_copyFrom) (maxL := 2) [(0, rr G 1), (1, rr G 28)] (by decide +kernel) rfl (Nat.le_of_ble_eq_true rfl) rfl ?_
  intro Γ K ret
  have i_X3 : ∀ w ∈ u_ws RX3 TX3 4, w ∈ wsX3_copyFrom := by decide +kernel
  refine x_aload_n (pc := 0) K 0 dX3_copyFrom_0 rfl rfl ?_
  refine x_getr (r0 := 2) (pc := 1) (index := 10) (C := RX3) (T := TX3) (N := 4) (j0 := 0) (ref := "OldMap$Table") K (by decide) sh_1 rfl i_X3 (by decide) (by decide +kernel) rfl rfl rf_1_0 dX3_copyFrom_1 ?_
  refine x_aload_n (pc := 4) K 1 dX3_copyFrom_4 rfl rfl ?_
  refine x_getr (r0 := 29) (pc := 5) (index := 10) (C := RX3) (T := TX3) (N := 4) (j0 := 0) (ref := "OldMap$Table") K (by decide) sh_28 rfl i_X3 (by decide) (by decide +kernel) rfl rfl rf_28_0 dX3_copyFrom_5 ?_
  refine x_callvN (pc := 8) (st := []) (n := 1) K (by decide) sh_2 rfl (c_X2_copyFrom0 l G _ _) (host := "OldMap") gX3_copyFrom_X2_copyFrom_n35 (by decide +kernel) (by decide +kernel) (by decide +kernel) (by decide +kernel) (by decide +kernel) rfl (by decide) (by decide) rfl rfl (Nat.le_of_ble_eq_true rfl) dX3_copyFrom_8 (fun I_8 J_8 hp_8 => ?_)
  obtain ⟨rfl, rfl⟩ := hp_8
  refine x_aload_n (pc := 11) K 0 dX3_copyFrom_11 rfl rfl ?_
  refine x_getr (r0 := 8) (pc := 12) (index := 21) (C := RX3) (T := TX3) (N := 4) (j0 := 1) (ref := "OldMap$Table") K (by decide) sh_1 rfl i_X3 (by decide) (by decide +kernel) rfl rfl rf_1_1 dX3_copyFrom_12 ?_
  refine x_aload_n (pc := 15) K 1 dX3_copyFrom_15 rfl rfl ?_
  refine x_getr (r0 := 35) (pc := 16) (index := 21) (C := RX3) (T := TX3) (N := 4) (j0 := 1) (ref := "OldMap$Table") K (by decide) sh_28 rfl i_X3 (by decide) (by decide +kernel) rfl rfl rf_28_1 dX3_copyFrom_16 ?_
  refine x_callvN (pc := 19) (st := []) (n := 1) K (by decide) sh_8 rfl (c_X5_copyFrom0 l G _ _) (host := "OldMap") gX3_copyFrom_X5_copyFrom_n38 (by decide +kernel) (by decide +kernel) (by decide +kernel) (by decide +kernel) (by decide +kernel) rfl (by decide) (by decide) rfl rfl (Nat.le_of_ble_eq_true rfl) dX3_copyFrom_19 (fun I_19 J_19 hp_19 => ?_)
  obtain ⟨rfl, rfl⟩ := hp_19
  refine x_aload_n (pc := 22) K 0 dX3_copyFrom_22 rfl rfl ?_
  refine x_getr (r0 := 20) (pc := 23) (index := 28) (C := RX3) (T := TX3) (N := 4) (j0 := 2) (ref := "OldMap$Table") K (by decide) sh_1 rfl i_X3 (by decide) (by decide +kernel) rfl rfl rf_1_2 dX3_copyFrom_23 ?_
  refine x_aload_n (pc := 26) K 1 dX3_copyFrom_26 rfl rfl ?_
  refine x_getr (r0 := 47) (pc := 27) (index := 28) (C := RX3) (T := TX3) (N := 4) (j0 := 2) (ref := "OldMap$Table") K (by decide) sh_28 rfl i_X3 (by decide) (by decide +kernel) rfl rfl rf_28_2 dX3_copyFrom_27 ?_
  refine x_callvN (pc := 30) (st := []) (n := 1) K (by decide) sh_20 rfl (c_X4_copyFrom20 l G _ _) (host := "OldMap") gX3_copyFrom_X4_copyFrom_n41 (by decide +kernel) (by decide +kernel) (by decide +kernel) (by decide +kernel) (by decide +kernel) rfl (by decide) (by decide) rfl rfl (Nat.le_of_ble_eq_true rfl) dX3_copyFrom_30 (fun I_30 J_30 hp_30 => ?_)
  obtain ⟨rfl, rfl⟩ := hp_30
  refine x_aload_n (pc := 33) K 0 dX3_copyFrom_33 rfl rfl ?_
  refine x_getr (r0 := 24) (pc := 34) (index := 32) (C := RX3) (T := TX3) (N := 4) (j0 := 3) (ref := "OldMap$Table") K (by decide) sh_1 rfl i_X3 (by decide) (by decide +kernel) rfl rfl rf_1_3 dX3_copyFrom_34 ?_
  refine x_aload_n (pc := 37) K 1 dX3_copyFrom_37 rfl rfl ?_
  refine x_getr (r0 := 51) (pc := 38) (index := 32) (C := RX3) (T := TX3) (N := 4) (j0 := 3) (ref := "OldMap$Table") K (by decide) sh_28 rfl i_X3 (by decide) (by decide +kernel) rfl rfl rf_28_3 dX3_copyFrom_38 ?_
  refine x_callvN (pc := 41) (st := []) (n := 1) K (by decide) sh_24 rfl (c_X4_copyFrom24 l G _ _) (host := "OldMap") gX3_copyFrom_X4_copyFrom_n41 (by decide +kernel) (by decide +kernel) (by decide +kernel) (by decide +kernel) (by decide +kernel) rfl (by decide) (by decide) rfl rfl (Nat.le_of_ble_eq_true rfl) dX3_copyFrom_41 (fun I_41 J_41 hp_41 => ?_)
  obtain ⟨rfl, rfl⟩ := hp_41
  exact ret (pc := 44) dX3_copyFrom_44 (⟨rfl, rfl⟩)

set_option maxHeartbeats 1000000 in
set_option maxRecDepth 100000 in
theorem c_X3_copyFrom1 (l : Launch) (G : hQ) (I : hI) (J : hJ) : h_Mv l yX3_copyFrom wsX3_copyFrom 2 42 G [rr G 28, rr G 1] I J (fun I' J' => cpTa1 I = I' ∧ J = J') := by
  refine h_Mv.of (cc := cX3_copyFrom) (maxL := 2) [(0, rr G 28), (1, rr G 1)] (by decide +kernel) rfl (Nat.le_of_ble_eq_true rfl) rfl ?_
  intro Γ K ret
  have i_X3 : ∀ w ∈ u_ws RX3 TX3 4, w ∈ wsX3_copyFrom := by decide +kernel
  refine x_aload_n (pc := 0) K 0 dX3_copyFrom_0 rfl rfl ?_
  refine x_getr (r0 := 29) (pc := 1) (index := 10) (C := RX3) (T := TX3) (N := 4) (j0 := 0) (ref := "OldMap$Table") K (by decide) sh_28 rfl i_X3 (by decide) (by decide +kernel) rfl rfl rf_28_0 dX3_copyFrom_1 ?_
  refine x_aload_n (pc := 4) K 1 dX3_copyFrom_4 rfl rfl ?_
  refine x_getr (r0 := 2) (pc := 5) (index := 10) (C := RX3) (T := TX3) (N := 4) (j0 := 0) (ref := "OldMap$Table") K (by decide) sh_1 rfl i_X3 (by decide) (by decide +kernel) rfl rfl rf_1_0 dX3_copyFrom_5 ?_
  refine x_callvN (pc := 8) (st := []) (n := 1) K (by decide) sh_29 rfl (c_X2_copyFrom1 l G _ _) (host := "OldMap") gX3_copyFrom_X2_copyFrom_n35 (by decide +kernel) (by decide +kernel) (by decide +kernel) (by decide +kernel) (by decide +kernel) rfl (by decide) (by decide) rfl rfl (Nat.le_of_ble_eq_true rfl) dX3_copyFrom_8 (fun I_8 J_8 hp_8 => ?_)
  obtain ⟨rfl, rfl⟩ := hp_8
  refine x_aload_n (pc := 11) K 0 dX3_copyFrom_11 rfl rfl ?_
  refine x_getr (r0 := 35) (pc := 12) (index := 21) (C := RX3) (T := TX3) (N := 4) (j0 := 1) (ref := "OldMap$Table") K (by decide) sh_28 rfl i_X3 (by decide) (by decide +kernel) rfl rfl rf_28_1 dX3_copyFrom_12 ?_
  refine x_aload_n (pc := 15) K 1 dX3_copyFrom_15 rfl rfl ?_
  refine x_getr (r0 := 8) (pc := 16) (index := 21) (C := RX3) (T := TX3) (N := 4) (j0 := 1) (ref := "OldMap$Table") K (by decide) sh_1 rfl i_X3 (by decide) (by decide +kernel) rfl rfl rf_1_1 dX3_copyFrom_16 ?_
  refine x_callvN (pc := 19) (st := []) (n := 1) K (by decide) sh_35 rfl (c_X5_copyFrom1 l G _ _) (host := "OldMap") gX3_copyFrom_X5_copyFrom_n38 (by decide +kernel) (by decide +kernel) (by decide +kernel) (by decide +kernel) (by decide +kernel) rfl (by decide) (by decide) rfl rfl (Nat.le_of_ble_eq_true rfl) dX3_copyFrom_19 (fun I_19 J_19 hp_19 => ?_)
  obtain ⟨rfl, rfl⟩ := hp_19
  refine x_aload_n (pc := 22) K 0 dX3_copyFrom_22 rfl rfl ?_
  refine x_getr (r0 := 47) (pc := 23) (index := 28) (C := RX3) (T := TX3) (N := 4) (j0 := 2) (ref := "OldMap$Table") K (by decide) sh_28 rfl i_X3 (by decide) (by decide +kernel) rfl rfl rf_28_2 dX3_copyFrom_23 ?_
  refine x_aload_n (pc := 26) K 1 dX3_copyFrom_26 rfl rfl ?_
  refine x_getr (r0 := 20) (pc := 27) (index := 28) (C := RX3) (T := TX3) (N := 4) (j0 := 2) (ref := "OldMap$Table") K (by decide) sh_1 rfl i_X3 (by decide) (by decide +kernel) rfl rfl rf_1_2 dX3_copyFrom_27 ?_
  refine x_callvN (pc := 30) (st := []) (n := 1) K (by decide) sh_47 rfl (c_X4_copyFrom47 l G _ _) (host := "OldMap") gX3_copyFrom_X4_copyFrom_n41 (by decide +kernel) (by decide +kernel) (by decide +kernel) (by decide +kernel) (by decide +kernel) rfl (by decide) (by decide) rfl rfl (Nat.le_of_ble_eq_true rfl) dX3_copyFrom_30 (fun I_30 J_30 hp_30 => ?_)
  obtain ⟨rfl, rfl⟩ := hp_30
  refine x_aload_n (pc := 33) K 0 dX3_copyFrom_33 rfl rfl ?_
  refine x_getr (r0 := 51) (pc := 34) (index := 32) (C := RX3) (T := TX3) (N := 4) (j0 := 3) (ref := "OldMap$Table") K (by decide) sh_28 rfl i_X3 (by decide) (by decide +kernel) rfl rfl rf_28_3 dX3_copyFrom_34 ?_
  refine x_aload_n (pc := 37) K 1 dX3_copyFrom_37 rfl rfl ?_
  refine x_getr (r0 := 24) (pc := 38) (index := 32) (C := RX3) (T := TX3) (N := 4) (j0 := 3) (ref := "OldMap$Table") K (by decide) sh_1 rfl i_X3 (by decide) (by decide +kernel) rfl rfl rf_1_3 dX3_copyFrom_38 ?_
  refine x_callvN (pc := 41) (st := []) (n := 1) K (by decide) sh_51 rfl (c_X4_copyFrom51 l G _ _) (host := "OldMap") gX3_copyFrom_X4_copyFrom_n41 (by decide +kernel) (by decide +kernel) (by decide +kernel) (by decide +kernel) (by decide +kernel) rfl (by decide) (by decide) rfl rfl (Nat.le_of_ble_eq_true rfl) dX3_copyFrom_41 (fun I_41 J_41 hp_41 => ?_)
  obtain ⟨rfl, rfl⟩ := hp_41
  exact ret (pc := 44) dX3_copyFrom_44 (⟨rfl, rfl⟩)

set_option maxHeartbeats 1000000 in
set_option maxRecDepth 100000 in
theorem c_X6_set56 (l : Launch) (G : hQ) (I : hI) (J : hJ) (a b c d : Int64) : h_Mv l yX6_set wsX6_set 0 0 G [rr G 56, .long a, .long b, .long c, .long d] I J (fun I' J' => I = I' ∧ setW J 56 a b c d = J') := by
  refine h_Mv.of (cc := cX6_set) (maxL := 9) [(0, rr G 56), (1, .long a), (3, .long b), (5, .long c), (7, .long d)] (by decide +kernel) rfl (Nat.le_of_ble_eq_true rfl) rfl ?_
  intro Γ K ret
  have i_X6 : ∀ w ∈ u_ws RX6 TX6 4, w ∈ wsX6_set := by decide +kernel
  refine x_aload_n (pc := 0) K 0 dX6_set_0 rfl rfl ?_
  refine x_lload_n (pc := 1) K 1 dX6_set_1 rfl rfl ?_
  refine x_putl (ty := .long) (pc := 2) (index := 7) (C := RX6) (T := TX6) (N := 4) (j0 := 0) (ref := "OldMap$Way") K (by decide) sh_56 rfl i_X6 (by decide) (by decide +kernel) rfl tyX6 tyX6_ok nmX6 rfl (by decide +kernel) rfl rfl rfl dX6_set_2 ?_
  refine x_aload_n (pc := 5) K 0 dX6_set_5 rfl rfl ?_
  refine x_lload_n (pc := 6) K 2 dX6_set_6 rfl rfl ?_
  refine x_putl (ty := .long) (pc := 7) (index := 13) (C := RX6) (T := TX6) (N := 4) (j0 := 1) (ref := "OldMap$Way") K (by decide) sh_56 rfl i_X6 (by decide) (by decide +kernel) rfl tyX6 tyX6_ok nmX6 rfl (by decide +kernel) rfl rfl rfl dX6_set_7 ?_
  refine x_aload_n (pc := 10) K 0 dX6_set_10 rfl rfl ?_
  refine x_lload (pc := 11) K 3 dX6_set_11 rfl ?_
  refine x_putl (ty := .long) (pc := 13) (index := 16) (C := RX6) (T := TX6) (N := 4) (j0 := 2) (ref := "OldMap$Way") K (by decide) sh_56 rfl i_X6 (by decide) (by decide +kernel) rfl tyX6 tyX6_ok nmX6 rfl (by decide +kernel) rfl rfl rfl dX6_set_13 ?_
  refine x_aload_n (pc := 16) K 0 dX6_set_16 rfl rfl ?_
  refine x_lload (pc := 17) K 4 dX6_set_17 rfl ?_
  refine x_putl (ty := .long) (pc := 19) (index := 19) (C := RX6) (T := TX6) (N := 4) (j0 := 3) (ref := "OldMap$Way") K (by decide) sh_56 rfl i_X6 (by decide) (by decide +kernel) rfl tyX6 tyX6_ok nmX6 rfl (by decide +kernel) rfl rfl rfl dX6_set_19 ?_
  exact ret (pc := 22) dX6_set_22 (⟨rfl, rfl⟩)

set_option maxHeartbeats 1000000 in
set_option maxRecDepth 100000 in
theorem c_X6_above56 (l : Launch) (G : hQ) (I : hI) (J : hJ) (x y : Int64) : h_Ml l yX6_above wsX6_above 0 0 G [rr G 56, .long x, .long y] I J (fun ρ I' J' => abvW J 56 x y = ρ ∧ I = I' ∧ J = J') := by
  refine h_Ml.of (cc := cX6_above) (maxL := 5) [(0, rr G 56), (1, .long x), (3, .long y)] (by decide +kernel) rfl (Nat.le_of_ble_eq_true rfl) rfl ?_
  intro Γ K ret
  have i_X6 : ∀ w ∈ u_ws RX6 TX6 4, w ∈ wsX6_above := by decide +kernel
  refine x_aload_n (pc := 0) K 0 dX6_above_0 rfl rfl ?_
  refine x_getl (pc := 1) (index := 7) (C := RX6) (T := TX6) (N := 4) (j0 := 0) (ref := "OldMap$Way") K (by decide) sh_56 rfl i_X6 (by decide) (by decide +kernel) rfl rfl dX6_above_1 ?_
  refine x_lload_n (pc := 4) K 1 dX6_above_4 rfl rfl ?_
  refine x_lmul (pc := 5) K dX6_above_5 ?_
  refine x_aload_n (pc := 6) K 0 dX6_above_6 rfl rfl ?_
  refine x_getl (pc := 7) (index := 13) (C := RX6) (T := TX6) (N := 4) (j0 := 1) (ref := "OldMap$Way") K (by decide) sh_56 rfl i_X6 (by decide) (by decide +kernel) rfl rfl dX6_above_7 ?_
  refine x_lload_n (pc := 10) K 2 dX6_above_10 rfl rfl ?_
  refine x_lmul (pc := 11) K dX6_above_11 ?_
  refine x_ladd (pc := 12) K dX6_above_12 ?_
  refine x_aload_n (pc := 13) K 0 dX6_above_13 rfl rfl ?_
  refine x_getl (pc := 14) (index := 16) (C := RX6) (T := TX6) (N := 4) (j0 := 2) (ref := "OldMap$Way") K (by decide) sh_56 rfl i_X6 (by decide) (by decide +kernel) rfl rfl dX6_above_14 ?_
  refine x_ladd (pc := 17) K dX6_above_17 ?_
  exact ret (pc := 18) dX6_above_18 (⟨rfl, rfl, rfl⟩)

set_option maxHeartbeats 1000000 in
set_option maxRecDepth 100000 in
theorem c_X6_rounded56 (l : Launch) (G : hQ) (I : hI) (J : hJ) (x y : Int64) (hz : ¬ J 56 3 ≤ 0 → ¬ 2 * J 56 3 = 0) : h_Ml l yX6_rounded wsX6_rounded 1 25 G [rr G 56, .long x, .long y] I J (fun ρ I' J' => rndW J 56 x y = ρ ∧ I = I' ∧ J = J') := by
  refine h_Ml.of (cc := cX6_rounded) (maxL := 5) [(0, rr G 56), (1, .long x), (3, .long y)] (by decide +kernel) rfl (Nat.le_of_ble_eq_true rfl) rfl ?_
  intro Γ K ret
  have i_X6 : ∀ w ∈ u_ws RX6 TX6 4, w ∈ wsX6_rounded := by decide +kernel
  refine x_aload_n (pc := 0) K 0 dX6_rounded_0 rfl rfl ?_
  refine x_getl (pc := 1) (index := 19) (C := RX6) (T := TX6) (N := 4) (j0 := 3) (ref := "OldMap$Way") K (by decide) sh_56 rfl i_X6 (by decide) (by decide +kernel) rfl rfl dX6_rounded_1 ?_
  refine x_lconst (pc := 4) (v := 0) K dX6_rounded_4 (by decide) ?_
  refine x_lcmp (pc := 5) K dX6_rounded_5 ?_
  refine x_if_le (pc := 6) (tgt := 38) K dX6_rounded_6 (by decide) (fun c_6 => ?_) (fun c_6 => ?_)
  · replace c_6 := (lg_cmp_le _ _).mp c_6
    refine x_lconst (pc := 38) (v := 0) K dX6_rounded_38 (by decide) ?_
    exact ret (pc := 39) dX6_rounded_39 (⟨by simp [rndW, c_6], rfl, rfl⟩)
  · replace c_6 := mt (lg_cmp_le _ _).mpr c_6
    refine x_ldc2_w (pc := 9) (v := (2)) K (by decide +kernel) dX6_rounded_9 ?_
    refine x_aload_n (pc := 12) K 0 dX6_rounded_12 rfl rfl ?_
    refine x_lload_n (pc := 13) K 1 dX6_rounded_13 rfl rfl ?_
    refine x_lload_n (pc := 14) K 2 dX6_rounded_14 rfl rfl ?_
    refine x_calllV (pc := 15) (st := [_]) (n := 2) K (by decide) sh_56 rfl (c_X6_above56 l G _ _ _ _) gX6_rounded_X6_above (by decide +kernel) rfl (by decide) (by decide) rfl rfl (Nat.le_of_ble_eq_true rfl) dX6_rounded_15 (fun r_15 I_15 J_15 hp_15 => ?_)
    obtain ⟨rfl, rfl, rfl⟩ := hp_15
    refine x_lmul (pc := 18) K dX6_rounded_18 ?_
    refine x_aload_n (pc := 19) K 0 dX6_rounded_19 rfl rfl ?_
    refine x_getl (pc := 20) (index := 19) (C := RX6) (T := TX6) (N := 4) (j0 := 3) (ref := "OldMap$Way") K (by decide) sh_56 rfl i_X6 (by decide) (by decide +kernel) rfl rfl dX6_rounded_20 ?_
    refine x_ladd (pc := 23) K dX6_rounded_23 ?_
    refine x_ldc2_w (pc := 24) (v := (2)) K (by decide +kernel) dX6_rounded_24 ?_
    refine x_aload_n (pc := 27) K 0 dX6_rounded_27 rfl rfl ?_
    refine x_getl (pc := 28) (index := 19) (C := RX6) (T := TX6) (N := 4) (j0 := 3) (ref := "OldMap$Way") K (by decide) sh_56 rfl i_X6 (by decide) (by decide +kernel) rfl rfl dX6_rounded_28 ?_
    refine x_lmul (pc := 31) K dX6_rounded_31 ?_
    refine x_calllS (pc := 32) (st := []) (n := 2) K (c_J9_floorDiv_f86c9 l G _ _ _ _ (hz c_6)) gX6_rounded_J9_floorDiv_f86c9 (by decide +kernel) rfl (by decide) (by decide) rfl rfl (Nat.le_of_ble_eq_true rfl) dX6_rounded_32 (fun r_32 I_32 J_32 hp_32 => ?_)
    obtain ⟨rfl, rfl, rfl⟩ := hp_32
    refine x_goto (pc := 35) (tgt := 39) K dX6_rounded_35 (by decide) ?_
    exact ret (pc := 39) dX6_rounded_39 (⟨by simp [rndW, c_6], rfl, rfl⟩)

set_option maxHeartbeats 1000000 in
set_option maxRecDepth 100000 in
theorem c_X6_set57 (l : Launch) (G : hQ) (I : hI) (J : hJ) (a b c d : Int64) : h_Mv l yX6_set wsX6_set 0 0 G [rr G 57, .long a, .long b, .long c, .long d] I J (fun I' J' => I = I' ∧ setW J 57 a b c d = J') := by
  refine h_Mv.of (cc := cX6_set) (maxL := 9) [(0, rr G 57), (1, .long a), (3, .long b), (5, .long c), (7, .long d)] (by decide +kernel) rfl (Nat.le_of_ble_eq_true rfl) rfl ?_
  intro Γ K ret
  have i_X6 : ∀ w ∈ u_ws RX6 TX6 4, w ∈ wsX6_set := by decide +kernel
  refine x_aload_n (pc := 0) K 0 dX6_set_0 rfl rfl ?_
  refine x_lload_n (pc := 1) K 1 dX6_set_1 rfl rfl ?_
  refine x_putl (ty := .long) (pc := 2) (index := 7) (C := RX6) (T := TX6) (N := 4) (j0 := 0) (ref := "OldMap$Way") K (by decide) sh_57 rfl i_X6 (by decide) (by decide +kernel) rfl tyX6 tyX6_ok nmX6 rfl (by decide +kernel) rfl rfl rfl dX6_set_2 ?_
  refine x_aload_n (pc := 5) K 0 dX6_set_5 rfl rfl ?_
  refine x_lload_n (pc := 6) K 2 dX6_set_6 rfl rfl ?_
  refine x_putl (ty := .long) (pc := 7) (index := 13) (C := RX6) (T := TX6) (N := 4) (j0 := 1) (ref := "OldMap$Way") K (by decide) sh_57 rfl i_X6 (by decide) (by decide +kernel) rfl tyX6 tyX6_ok nmX6 rfl (by decide +kernel) rfl rfl rfl dX6_set_7 ?_
  refine x_aload_n (pc := 10) K 0 dX6_set_10 rfl rfl ?_
  refine x_lload (pc := 11) K 3 dX6_set_11 rfl ?_
  refine x_putl (ty := .long) (pc := 13) (index := 16) (C := RX6) (T := TX6) (N := 4) (j0 := 2) (ref := "OldMap$Way") K (by decide) sh_57 rfl i_X6 (by decide) (by decide +kernel) rfl tyX6 tyX6_ok nmX6 rfl (by decide +kernel) rfl rfl rfl dX6_set_13 ?_
  refine x_aload_n (pc := 16) K 0 dX6_set_16 rfl rfl ?_
  refine x_lload (pc := 17) K 4 dX6_set_17 rfl ?_
  refine x_putl (ty := .long) (pc := 19) (index := 19) (C := RX6) (T := TX6) (N := 4) (j0 := 3) (ref := "OldMap$Way") K (by decide) sh_57 rfl i_X6 (by decide) (by decide +kernel) rfl tyX6 tyX6_ok nmX6 rfl (by decide +kernel) rfl rfl rfl dX6_set_19 ?_
  exact ret (pc := 22) dX6_set_22 (⟨rfl, rfl⟩)

set_option maxHeartbeats 1000000 in
set_option maxRecDepth 100000 in
theorem c_X6_above57 (l : Launch) (G : hQ) (I : hI) (J : hJ) (x y : Int64) : h_Ml l yX6_above wsX6_above 0 0 G [rr G 57, .long x, .long y] I J (fun ρ I' J' => abvW J 57 x y = ρ ∧ I = I' ∧ J = J') := by
  refine h_Ml.of (cc := cX6_above) (maxL := 5) [(0, rr G 57), (1, .long x), (3, .long y)] (by decide +kernel) rfl (Nat.le_of_ble_eq_true rfl) rfl ?_
  intro Γ K ret
  have i_X6 : ∀ w ∈ u_ws RX6 TX6 4, w ∈ wsX6_above := by decide +kernel
  refine x_aload_n (pc := 0) K 0 dX6_above_0 rfl rfl ?_
  refine x_getl (pc := 1) (index := 7) (C := RX6) (T := TX6) (N := 4) (j0 := 0) (ref := "OldMap$Way") K (by decide) sh_57 rfl i_X6 (by decide) (by decide +kernel) rfl rfl dX6_above_1 ?_
  refine x_lload_n (pc := 4) K 1 dX6_above_4 rfl rfl ?_
  refine x_lmul (pc := 5) K dX6_above_5 ?_
  refine x_aload_n (pc := 6) K 0 dX6_above_6 rfl rfl ?_
  refine x_getl (pc := 7) (index := 13) (C := RX6) (T := TX6) (N := 4) (j0 := 1) (ref := "OldMap$Way") K (by decide) sh_57 rfl i_X6 (by decide) (by decide +kernel) rfl rfl dX6_above_7 ?_
  refine x_lload_n (pc := 10) K 2 dX6_above_10 rfl rfl ?_
  refine x_lmul (pc := 11) K dX6_above_11 ?_
  refine x_ladd (pc := 12) K dX6_above_12 ?_
  refine x_aload_n (pc := 13) K 0 dX6_above_13 rfl rfl ?_
  refine x_getl (pc := 14) (index := 16) (C := RX6) (T := TX6) (N := 4) (j0 := 2) (ref := "OldMap$Way") K (by decide) sh_57 rfl i_X6 (by decide) (by decide +kernel) rfl rfl dX6_above_14 ?_
  refine x_ladd (pc := 17) K dX6_above_17 ?_
  exact ret (pc := 18) dX6_above_18 (⟨rfl, rfl, rfl⟩)

set_option maxHeartbeats 1000000 in
set_option maxRecDepth 100000 in
theorem c_X6_rounded57 (l : Launch) (G : hQ) (I : hI) (J : hJ) (x y : Int64) (hz : ¬ J 57 3 ≤ 0 → ¬ 2 * J 57 3 = 0) : h_Ml l yX6_rounded wsX6_rounded 1 25 G [rr G 57, .long x, .long y] I J (fun ρ I' J' => rndW J 57 x y = ρ ∧ I = I' ∧ J = J') := by
  refine h_Ml.of (cc := cX6_rounded) (maxL := 5) [(0, rr G 57), (1, .long x), (3, .long y)] (by decide +kernel) rfl (Nat.le_of_ble_eq_true rfl) rfl ?_
  intro Γ K ret
  have i_X6 : ∀ w ∈ u_ws RX6 TX6 4, w ∈ wsX6_rounded := by decide +kernel
  refine x_aload_n (pc := 0) K 0 dX6_rounded_0 rfl rfl ?_
  refine x_getl (pc := 1) (index := 19) (C := RX6) (T := TX6) (N := 4) (j0 := 3) (ref := "OldMap$Way") K (by decide) sh_57 rfl i_X6 (by decide) (by decide +kernel) rfl rfl dX6_rounded_1 ?_
  refine x_lconst (pc := 4) (v := 0) K dX6_rounded_4 (by decide) ?_
  refine x_lcmp (pc := 5) K dX6_rounded_5 ?_
  refine x_if_le (pc := 6) (tgt := 38) K dX6_rounded_6 (by decide) (fun c_6 => ?_) (fun c_6 => ?_)
  · replace c_6 := (lg_cmp_le _ _).mp c_6
    refine x_lconst (pc := 38) (v := 0) K dX6_rounded_38 (by decide) ?_
    exact ret (pc := 39) dX6_rounded_39 (⟨by simp [rndW, c_6], rfl, rfl⟩)
  · replace c_6 := mt (lg_cmp_le _ _).mpr c_6
    refine x_ldc2_w (pc := 9) (v := (2)) K (by decide +kernel) dX6_rounded_9 ?_
    refine x_aload_n (pc := 12) K 0 dX6_rounded_12 rfl rfl ?_
    refine x_lload_n (pc := 13) K 1 dX6_rounded_13 rfl rfl ?_
    refine x_lload_n (pc := 14) K 2 dX6_rounded_14 rfl rfl ?_
    refine x_calllV (pc := 15) (st := [_]) (n := 2) K (by decide) sh_57 rfl (c_X6_above57 l G _ _ _ _) gX6_rounded_X6_above (by decide +kernel) rfl (by decide) (by decide) rfl rfl (Nat.le_of_ble_eq_true rfl) dX6_rounded_15 (fun r_15 I_15 J_15 hp_15 => ?_)
    obtain ⟨rfl, rfl, rfl⟩ := hp_15
    refine x_lmul (pc := 18) K dX6_rounded_18 ?_
    refine x_aload_n (pc := 19) K 0 dX6_rounded_19 rfl rfl ?_
    refine x_getl (pc := 20) (index := 19) (C := RX6) (T := TX6) (N := 4) (j0 := 3) (ref := "OldMap$Way") K (by decide) sh_57 rfl i_X6 (by decide) (by decide +kernel) rfl rfl dX6_rounded_20 ?_
    refine x_ladd (pc := 23) K dX6_rounded_23 ?_
    refine x_ldc2_w (pc := 24) (v := (2)) K (by decide +kernel) dX6_rounded_24 ?_
    refine x_aload_n (pc := 27) K 0 dX6_rounded_27 rfl rfl ?_
    refine x_getl (pc := 28) (index := 19) (C := RX6) (T := TX6) (N := 4) (j0 := 3) (ref := "OldMap$Way") K (by decide) sh_57 rfl i_X6 (by decide) (by decide +kernel) rfl rfl dX6_rounded_28 ?_
    refine x_lmul (pc := 31) K dX6_rounded_31 ?_
    refine x_calllS (pc := 32) (st := []) (n := 2) K (c_J9_floorDiv_f86c9 l G _ _ _ _ (hz c_6)) gX6_rounded_J9_floorDiv_f86c9 (by decide +kernel) rfl (by decide) (by decide) rfl rfl (Nat.le_of_ble_eq_true rfl) dX6_rounded_32 (fun r_32 I_32 J_32 hp_32 => ?_)
    obtain ⟨rfl, rfl, rfl⟩ := hp_32
    refine x_goto (pc := 35) (tgt := 39) K dX6_rounded_35 (by decide) ?_
    exact ret (pc := 39) dX6_rounded_39 (⟨by simp [rndW, c_6], rfl, rfl⟩)

set_option maxHeartbeats 1000000 in
set_option maxRecDepth 100000 in
theorem c_X0_along0 (l : Launch) (G : hQ) (I : hI) (J : hJ) : h_Mr l yX0_along wsX0_along 0 0 G [rr G 55, .int 0] I J (fun ρ I' J' => 56 = ρ ∧ I = I' ∧ J = J') := by
  refine h_Mr.of (cc := cX0_along) (maxL := 2) [(0, rr G 55), (1, .int 0)] (by decide +kernel) rfl (Nat.le_of_ble_eq_true rfl) rfl ?_
  intro Γ K ret
  have i_X0 : ∀ w ∈ u_ws RX0 TX0 7, w ∈ wsX0_along := by decide +kernel
  refine x_iload_n (pc := 0) K 1 dX0_along_0 rfl rfl ?_
  refine x_if_ne (pc := 1) (tgt := 11) K dX0_along_1 (by decide) (fun c_1 => ?_) (fun c_1 => ?_)
  · replace c_1 := cI_ne (a := 0) (b := 0) rfl rfl (by omega) (by omega) c_1
    omega
  · replace c_1 := cI_eq (a := 0) (b := 0) rfl rfl (by omega) (by omega) c_1
    refine x_aload_n (pc := 4) K 0 dX0_along_4 rfl rfl ?_
    refine x_getr (r0 := 56) (pc := 5) (index := 12) (C := RX0) (T := TX0) (N := 7) (j0 := 1) (ref := "OldMap$Bend") K (by decide) sh_55 rfl i_X0 (by decide) (by decide +kernel) rfl rfl rf_55_1 dX0_along_5 ?_
    refine x_goto (pc := 8) (tgt := 15) K dX0_along_8 (by decide) ?_
    exact ret (pc := 15) dX0_along_15 (⟨rfl, rfl, rfl⟩)

set_option maxHeartbeats 1000000 in
set_option maxRecDepth 100000 in
theorem c_X0_along1 (l : Launch) (G : hQ) (I : hI) (J : hJ) : h_Mr l yX0_along wsX0_along 0 0 G [rr G 55, .int 1] I J (fun ρ I' J' => 57 = ρ ∧ I = I' ∧ J = J') := by
  refine h_Mr.of (cc := cX0_along) (maxL := 2) [(0, rr G 55), (1, .int 1)] (by decide +kernel) rfl (Nat.le_of_ble_eq_true rfl) rfl ?_
  intro Γ K ret
  have i_X0 : ∀ w ∈ u_ws RX0 TX0 7, w ∈ wsX0_along := by decide +kernel
  refine x_iload_n (pc := 0) K 1 dX0_along_0 rfl rfl ?_
  refine x_if_ne (pc := 1) (tgt := 11) K dX0_along_1 (by decide) (fun c_1 => ?_) (fun c_1 => ?_)
  · replace c_1 := cI_ne (a := 1) (b := 0) rfl rfl (by omega) (by omega) c_1
    refine x_aload_n (pc := 11) K 0 dX0_along_11 rfl rfl ?_
    refine x_getr (r0 := 57) (pc := 12) (index := 18) (C := RX0) (T := TX0) (N := 7) (j0 := 2) (ref := "OldMap$Bend") K (by decide) sh_55 rfl i_X0 (by decide) (by decide +kernel) rfl rfl rf_55_2 dX0_along_12 ?_
    exact ret (pc := 15) dX0_along_15 (⟨rfl, rfl, rfl⟩)
  · replace c_1 := cI_eq (a := 1) (b := 0) rfl rfl (by omega) (by omega) c_1
    omega

set_option maxHeartbeats 1000000 in
set_option maxRecDepth 100000 in
theorem c_X0_sumOf (l : Launch) (G : hQ) (I : hI) (J : hJ) (r : Nat) (hr : r < 4) : h_Ml l yX0_sumOf wsX0_sumOf 0 0 G [rr G 55, .int (nI r)] I J (fun ρ I' J' => sm I (I 55 5) r = ρ ∧ I = I' ∧ J = J') := by
  refine h_Ml.of (cc := cX0_sumOf) (maxL := 6) [(0, rr G 55), (1, .int (nI r))] (by decide +kernel) rfl (Nat.le_of_ble_eq_true rfl) rfl ?_
  intro Γ K ret
  have i_X0 : ∀ w ∈ u_ws RX0 TX0 7, w ∈ wsX0_sumOf := by decide +kernel
  have i_X2 : ∀ w ∈ u_ws RX2 TX2 4, w ∈ wsX0_sumOf := by decide +kernel
  have loop : ∀ k, k ≤ 12 → h_WW Γ G 15 [(5, .int (nI k)), (3, .long (sumTo (fun k => if bitOn (I 55 5) k then (I (4 + r) k).toInt64 else 0) k)), (2, rr G (4 + r)), (0, rr G 55), (1, .int (nI r))] [] I J := by
    refine loopU 12 (fun k hk ih => ?_)
    refine x_iload (pc := 15) K 0 dX0_sumOf_15 rfl ?_
    refine x_bipush (pc := 17) (v := 12) K dX0_sumOf_17 (by decide) ?_
    refine x_icmp_ge (pc := 19) (tgt := 49) K dX0_sumOf_19 (by decide) (fun c_19 => ?_) (fun c_19 => ?_)
    · replace c_19 := cI_le (a := 12) (b := k) rfl rfl (by omega) (by omega) c_19
      refine x_lload_n (pc := 49) K 1 dX0_sumOf_49 rfl rfl ?_
      exact ret (pc := 50) dX0_sumOf_50 (⟨by rw [show k = 12 by omega]; rfl, rfl, rfl⟩)
    · replace c_19 := cI_nle (a := 12) (b := k) rfl rfl (by omega) (by omega) c_19
      refine x_aload_n (pc := 22) K 3 dX0_sumOf_22 rfl rfl ?_
      refine x_geti (pc := 23) (index := 31) (C := RX0) (T := TX0) (N := 7) (j0 := 5) (ref := "OldMap$Bend") K (by decide) sh_55 rfl i_X0 (by decide) (by decide +kernel) rfl rfl dX0_sumOf_23 ?_
      refine x_iload (pc := 26) K 0 dX0_sumOf_26 rfl ?_
      refine x_ishr (pc := 28) K dX0_sumOf_28 ?_
      refine x_iconst (pc := 29) (v := 1) K dX0_sumOf_29 (by decide) ?_
      refine x_iand (pc := 30) K dX0_sumOf_30 ?_
      refine x_iconst (pc := 31) (v := 1) K dX0_sumOf_31 (by decide) ?_
      refine x_icmp_ne (pc := 32) (tgt := 43) K dX0_sumOf_32 (by decide) (fun c_32 => ?_) (fun c_32 => ?_)
      · refine x_iinc (pc := 43) (q0 := 0) (v := nI (k + 1)) (lo' := [(5, _), (3, _), (2, _), (0, _), (1, _)]) K dX0_sumOf_43 rfl (nI_incE rfl) (by decide) rfl ?_
        refine x_goto (pc := 46) (tgt := 15) K dX0_sumOf_46 (by decide) ?_
        refine x_lo (lo' := [(5, _), (3, _), (2, _), (0, _), (1, _)]) [0, 1, 2, 3, 4] rfl ?_
        exact x_loe (by simp [sumTo, c_32]) (ih (by omega))
      · refine x_lload_n (pc := 35) K 1 dX0_sumOf_35 rfl rfl ?_
        refine x_aload_n (pc := 36) K 2 dX0_sumOf_36 rfl rfl ?_
        refine x_iload (pc := 37) K 0 dX0_sumOf_37 rfl ?_
        refine y_iald (j := k) (pc := 39) K (shk_at (show r < 4 by omega)) (shr_at _ (show r < 4 by omega)) rfl (by omega) (by decide) dX0_sumOf_39 ?_
        refine x_i2l (pc := 40) K dX0_sumOf_40 ?_
        refine x_ladd (pc := 41) K dX0_sumOf_41 ?_
        refine x_lstore_n (pc := 42) (lo' := [(3, _), (5, _), (2, _), (0, _), (1, _)]) K dX0_sumOf_42 rfl (by decide) rfl ?_
        refine x_iinc (pc := 43) (q0 := 1) (v := nI (k + 1)) (lo' := [(5, _), (3, _), (2, _), (0, _), (1, _)]) K dX0_sumOf_43 rfl (nI_incE rfl) (by decide) rfl ?_
        refine x_goto (pc := 46) (tgt := 15) K dX0_sumOf_46 (by decide) ?_
        refine x_lo (lo' := [(5, _), (3, _), (2, _), (0, _), (1, _)]) [0, 1, 2, 3, 4] rfl ?_
        exact x_loe (by simp [sumTo, c_32]) (ih (by omega))
  refine x_aload_n (pc := 0) K 0 dX0_sumOf_0 rfl rfl ?_
  refine x_getr (r0 := 2) (pc := 1) (index := 38) (C := RX0) (T := TX0) (N := 7) (j0 := 0) (ref := "OldMap$Bend") K (by decide) sh_55 rfl i_X0 (by decide) (by decide +kernel) rfl rfl rf_55_0 dX0_sumOf_1 ?_
  refine x_getrN (r0 := 3) (pc := 4) (index := 71) (C := RX2) (T := TX2) (N := 4) (j0 := 1) (host := "OldMap") (ref := "OldMap$Points") K (by decide) sh_2 rfl i_X2 (by decide) (by decide +kernel) rfl rfl rf_2_1 dX0_sumOf_4 ?_
  refine x_iload_n (pc := 7) K 1 dX0_sumOf_7 rfl rfl ?_
  refine y_aald (r0 := (4 + r)) (j := r) (pc := 8) K (by decide) sh_3 rfl (by omega) (by decide) (rf_3 _) dX0_sumOf_8 ?_
  refine x_astore_n (pc := 9) (lo' := [(2, _), (0, _), (1, _)]) K dX0_sumOf_9 rfl (by decide) rfl ?_
  refine x_lconst (pc := 10) (v := 0) K dX0_sumOf_10 (by decide) ?_
  refine x_lstore_n (pc := 11) (lo' := [(3, _), (2, _), (0, _), (1, _)]) K dX0_sumOf_11 rfl (by decide) rfl ?_
  refine x_iconst (pc := 12) (v := 0) K dX0_sumOf_12 (by decide) ?_
  refine x_istore (pc := 13) (lo' := [(5, _), (3, _), (2, _), (0, _), (1, _)]) K dX0_sumOf_13 (by decide) rfl ?_
  refine x_lo (lo' := [(5, _), (3, _), (2, _), (0, _), (1, _)]) [0, 1, 2, 3, 4] rfl ?_
  exact x_loe (by rfl) (loop 0 (Nat.zero_le _))

set_option maxHeartbeats 1000000 in
set_option maxRecDepth 100000 in
theorem c_X0_spread (l : Launch) (G : hQ) (I : hI) (J : hJ) (r q : Nat) (hr : r < 4) (hq : q < 4) : h_Ml l yX0_spread wsX0_spread 0 0 G [rr G 55, .int (nI r), .int (nI q)] I J (fun ρ I' J' => spr I J r q = ρ ∧ I = I' ∧ J = J') := by
  refine h_Ml.of (cc := cX0_spread) (maxL := 8) [(0, rr G 55), (1, .int (nI r)), (2, .int (nI q))] (by decide +kernel) rfl (Nat.le_of_ble_eq_true rfl) rfl ?_
  intro Γ K ret
  have i_X0 : ∀ w ∈ u_ws RX0 TX0 7, w ∈ wsX0_spread := by decide +kernel
  have i_X2 : ∀ w ∈ u_ws RX2 TX2 4, w ∈ wsX0_spread := by decide +kernel
  have loop : ∀ k, k ≤ 12 → h_WW Γ G 27 [(7, .int (nI k)), (5, .long (sumTo (fun k => if bitOn (I 55 5) k then (I (4 + r) k * I (4 + q) k).toInt64 else 0) k)), (4, rr G (4 + q)), (3, rr G (4 + r)), (0, rr G 55), (1, .int (nI r)), (2, .int (nI q))] [] I J := by
    refine loopU 12 (fun k hk ih => ?_)
    refine x_iload (pc := 27) K 0 dX0_spread_27 rfl ?_
    refine x_bipush (pc := 29) (v := 12) K dX0_spread_29 (by decide) ?_
    refine x_icmp_ge (pc := 31) (tgt := 69) K dX0_spread_31 (by decide) (fun c_31 => ?_) (fun c_31 => ?_)
    · replace c_31 := cI_le (a := 12) (b := k) rfl rfl (by omega) (by omega) c_31
      refine x_aload_n (pc := 69) K 4 dX0_spread_69 rfl rfl ?_
      refine x_getl (pc := 70) (index := 34) (C := RX0) (T := TX0) (N := 7) (j0 := 6) (ref := "OldMap$Bend") K (by decide) sh_55 rfl i_X0 (by decide) (by decide +kernel) rfl rfl dX0_spread_70 ?_
      refine x_lload (pc := 73) K 1 dX0_spread_73 rfl ?_
      refine x_lmul (pc := 75) K dX0_spread_75 ?_
      refine x_aload_n (pc := 76) K 4 dX0_spread_76 rfl rfl ?_
      refine x_getr (r0 := 58) (pc := 77) (index := 23) (C := RX0) (T := TX0) (N := 7) (j0 := 3) (ref := "OldMap$Bend") K (by decide) sh_55 rfl i_X0 (by decide) (by decide +kernel) rfl rfl rf_55_3 dX0_spread_77 ?_
      refine x_iload_n (pc := 80) K 5 dX0_spread_80 rfl rfl ?_
      refine y_lald (j := r) (pc := 81) K (by decide) sh_58 rfl (by omega) (by decide) dX0_spread_81 ?_
      refine x_aload_n (pc := 82) K 4 dX0_spread_82 rfl rfl ?_
      refine x_getr (r0 := 58) (pc := 83) (index := 23) (C := RX0) (T := TX0) (N := 7) (j0 := 3) (ref := "OldMap$Bend") K (by decide) sh_55 rfl i_X0 (by decide) (by decide +kernel) rfl rfl rf_55_3 dX0_spread_83 ?_
      refine x_iload_n (pc := 86) K 6 dX0_spread_86 rfl rfl ?_
      refine y_lald (j := q) (pc := 87) K (by decide) sh_58 rfl (by omega) (by decide) dX0_spread_87 ?_
      refine x_lmul (pc := 88) K dX0_spread_88 ?_
      refine x_lsub (pc := 89) K dX0_spread_89 ?_
      exact ret (pc := 90) dX0_spread_90 (⟨by rw [show k = 12 by omega]; rfl, rfl, rfl⟩)
    · replace c_31 := cI_nle (a := 12) (b := k) rfl rfl (by omega) (by omega) c_31
      refine x_aload_n (pc := 34) K 4 dX0_spread_34 rfl rfl ?_
      refine x_geti (pc := 35) (index := 31) (C := RX0) (T := TX0) (N := 7) (j0 := 5) (ref := "OldMap$Bend") K (by decide) sh_55 rfl i_X0 (by decide) (by decide +kernel) rfl rfl dX0_spread_35 ?_
      refine x_iload (pc := 38) K 0 dX0_spread_38 rfl ?_
      refine x_ishr (pc := 40) K dX0_spread_40 ?_
      refine x_iconst (pc := 41) (v := 1) K dX0_spread_41 (by decide) ?_
      refine x_iand (pc := 42) K dX0_spread_42 ?_
      refine x_iconst (pc := 43) (v := 1) K dX0_spread_43 (by decide) ?_
      refine x_icmp_ne (pc := 44) (tgt := 63) K dX0_spread_44 (by decide) (fun c_44 => ?_) (fun c_44 => ?_)
      · refine x_iinc (pc := 63) (q0 := 0) (v := nI (k + 1)) (lo' := [(7, _), (5, _), (4, _), (3, _), (0, _), (1, _), (2, _)]) K dX0_spread_63 rfl (nI_incE rfl) (by decide) rfl ?_
        refine x_goto (pc := 66) (tgt := 27) K dX0_spread_66 (by decide) ?_
        refine x_lo (lo' := [(7, _), (5, _), (4, _), (3, _), (0, _), (1, _), (2, _)]) [0, 1, 2, 3, 4, 5, 6] rfl ?_
        exact x_loe (by simp [sumTo, c_44]) (ih (by omega))
      · refine x_lload (pc := 47) K 1 dX0_spread_47 rfl ?_
        refine x_aload_n (pc := 49) K 3 dX0_spread_49 rfl rfl ?_
        refine x_iload (pc := 50) K 0 dX0_spread_50 rfl ?_
        refine y_iald (j := k) (pc := 52) K (shk_at (show r < 4 by omega)) (shr_at _ (show r < 4 by omega)) rfl (by omega) (by decide) dX0_spread_52 ?_
        refine x_aload (pc := 53) K 2 dX0_spread_53 rfl ?_
        refine x_iload (pc := 55) K 0 dX0_spread_55 rfl ?_
        refine y_iald (j := k) (pc := 57) K (shk_at (show q < 4 by omega)) (shr_at _ (show q < 4 by omega)) rfl (by omega) (by decide) dX0_spread_57 ?_
        refine x_imul (pc := 58) K dX0_spread_58 ?_
        refine x_i2l (pc := 59) K dX0_spread_59 ?_
        refine x_ladd (pc := 60) K dX0_spread_60 ?_
        refine x_lstore (pc := 61) (lo' := [(5, _), (7, _), (4, _), (3, _), (0, _), (1, _), (2, _)]) K dX0_spread_61 (by decide) rfl ?_
        refine x_iinc (pc := 63) (q0 := 1) (v := nI (k + 1)) (lo' := [(7, _), (5, _), (4, _), (3, _), (0, _), (1, _), (2, _)]) K dX0_spread_63 rfl (nI_incE rfl) (by decide) rfl ?_
        refine x_goto (pc := 66) (tgt := 27) K dX0_spread_66 (by decide) ?_
        refine x_lo (lo' := [(7, _), (5, _), (4, _), (3, _), (0, _), (1, _), (2, _)]) [0, 1, 2, 3, 4, 5, 6] rfl ?_
        exact x_loe (by simp [sumTo, c_44]) (ih (by omega))
  refine x_aload_n (pc := 0) K 0 dX0_spread_0 rfl rfl ?_
  refine x_getr (r0 := 2) (pc := 1) (index := 38) (C := RX0) (T := TX0) (N := 7) (j0 := 0) (ref := "OldMap$Bend") K (by decide) sh_55 rfl i_X0 (by decide) (by decide +kernel) rfl rfl rf_55_0 dX0_spread_1 ?_
  refine x_getrN (r0 := 3) (pc := 4) (index := 71) (C := RX2) (T := TX2) (N := 4) (j0 := 1) (host := "OldMap") (ref := "OldMap$Points") K (by decide) sh_2 rfl i_X2 (by decide) (by decide +kernel) rfl rfl rf_2_1 dX0_spread_4 ?_
  refine x_iload_n (pc := 7) K 1 dX0_spread_7 rfl rfl ?_
  refine y_aald (r0 := (4 + r)) (j := r) (pc := 8) K (by decide) sh_3 rfl (by omega) (by decide) (rf_3 _) dX0_spread_8 ?_
  refine x_astore_n (pc := 9) (lo' := [(3, _), (0, _), (1, _), (2, _)]) K dX0_spread_9 rfl (by decide) rfl ?_
  refine x_aload_n (pc := 10) K 1 dX0_spread_10 rfl rfl ?_
  refine x_getr (r0 := 2) (pc := 11) (index := 38) (C := RX0) (T := TX0) (N := 7) (j0 := 0) (ref := "OldMap$Bend") K (by decide) sh_55 rfl i_X0 (by decide) (by decide +kernel) rfl rfl rf_55_0 dX0_spread_11 ?_
  refine x_getrN (r0 := 3) (pc := 14) (index := 71) (C := RX2) (T := TX2) (N := 4) (j0 := 1) (host := "OldMap") (ref := "OldMap$Points") K (by decide) sh_2 rfl i_X2 (by decide) (by decide +kernel) rfl rfl rf_2_1 dX0_spread_14 ?_
  refine x_iload_n (pc := 17) K 3 dX0_spread_17 rfl rfl ?_
  refine y_aald (r0 := (4 + q)) (j := q) (pc := 18) K (by decide) sh_3 rfl (by omega) (by decide) (rf_3 _) dX0_spread_18 ?_
  refine x_astore (pc := 19) (lo' := [(4, _), (3, _), (0, _), (1, _), (2, _)]) K dX0_spread_19 (by decide) rfl ?_
  refine x_lconst (pc := 21) (v := 0) K dX0_spread_21 (by decide) ?_
  refine x_lstore (pc := 22) (lo' := [(5, _), (4, _), (3, _), (0, _), (1, _), (2, _)]) K dX0_spread_22 (by decide) rfl ?_
  refine x_iconst (pc := 24) (v := 0) K dX0_spread_24 (by decide) ?_
  refine x_istore (pc := 25) (lo' := [(7, _), (5, _), (4, _), (3, _), (0, _), (1, _), (2, _)]) K dX0_spread_25 (by decide) rfl ?_
  refine x_lo (lo' := [(7, _), (5, _), (4, _), (3, _), (0, _), (1, _), (2, _)]) [0, 1, 2, 3, 4, 5, 6] rfl ?_
  exact x_loe (by rfl) (loop 0 (Nat.zero_le _))

set_option maxHeartbeats 1000000 in
set_option maxRecDepth 100000 in
theorem c_X0_offAbove0 (l : Launch) (G : hQ) (I : hI) (J : hJ) (p : Nat) (hp : p < 12) : h_Ml l yX0_offAbove wsX0_offAbove 1 24 G [rr G 55, .int 0, .int (nI p)] I J (fun ρ I' J' => offA I J 0 p = ρ ∧ I = I' ∧ J = J') := by
  refine h_Ml.of (cc := cX0_offAbove) (maxL := 6) [(0, rr G 55), (1, .int 0), (2, .int (nI p))] (by decide +kernel) rfl (Nat.le_of_ble_eq_true rfl) rfl ?_
  intro Γ K ret
  have i_X0 : ∀ w ∈ u_ws RX0 TX0 7, w ∈ wsX0_offAbove := by decide +kernel
  have i_X2 : ∀ w ∈ u_ws RX2 TX2 4, w ∈ wsX0_offAbove := by decide +kernel
  have i_X6 : ∀ w ∈ u_ws RX6 TX6 4, w ∈ wsX0_offAbove := by decide +kernel
  refine x_aload_n (pc := 0) K 0 dX0_offAbove_0 rfl rfl ?_
  refine x_iload_n (pc := 1) K 1 dX0_offAbove_1 rfl rfl ?_
  refine x_callrV (pc := 2) (st := []) (n := 1) K (by decide) sh_55 rfl (c_X0_along0 l G _ _) gX0_offAbove_X0_along (by decide +kernel) rfl (by decide) (by decide) rfl rfl (Nat.le_of_ble_eq_true rfl) dX0_offAbove_2 (fun r_2 I_2 J_2 hp_2 => ?_)
  obtain ⟨rfl, rfl, rfl⟩ := hp_2
  refine x_astore_n (pc := 5) (lo' := [(3, _), (0, _), (1, _), (2, _)]) K dX0_offAbove_5 rfl (by decide) rfl ?_
  refine x_aload_n (pc := 6) K 1 dX0_offAbove_6 rfl rfl ?_
  refine x_getr (r0 := 2) (pc := 7) (index := 38) (C := RX0) (T := TX0) (N := 7) (j0 := 0) (ref := "OldMap$Bend") K (by decide) sh_55 rfl i_X0 (by decide) (by decide +kernel) rfl rfl rf_55_0 dX0_offAbove_7 ?_
  refine x_getrN (r0 := 3) (pc := 10) (index := 71) (C := RX2) (T := TX2) (N := 4) (j0 := 1) (host := "OldMap") (ref := "OldMap$Points") K (by decide) sh_2 rfl i_X2 (by decide) (by decide +kernel) rfl rfl rf_2_1 dX0_offAbove_10 ?_
  refine x_iload_n (pc := 13) K 2 dX0_offAbove_13 rfl rfl ?_
  refine x_iconst (pc := 14) (v := 2) K dX0_offAbove_14 (by decide) ?_
  refine x_iadd (pc := 15) K dX0_offAbove_15 ?_
  refine y_aald (r0 := (4 + (0 + 2))) (j := (0 + 2)) (pc := 16) K (by decide) sh_3 (nI_addE rfl rfl) (by omega) (by decide) (rf_3 _) dX0_offAbove_16 ?_
  refine x_iload_n (pc := 17) K 3 dX0_offAbove_17 rfl rfl ?_
  refine y_iald (j := p) (pc := 18) K (shk_at (show (0 + 2) < 4 by omega)) (shr_at _ (show (0 + 2) < 4 by omega)) rfl (by omega) (by decide) dX0_offAbove_18 ?_
  refine x_i2l (pc := 19) K dX0_offAbove_19 ?_
  refine x_lstore (pc := 20) (lo' := [(4, _), (3, _), (0, _), (1, _), (2, _)]) K dX0_offAbove_20 (by decide) rfl ?_
  refine x_lload (pc := 22) K 0 dX0_offAbove_22 rfl ?_
  refine x_aload_n (pc := 24) K 1 dX0_offAbove_24 rfl rfl ?_
  refine x_getlN (pc := 25) (index := 85) (C := RX6) (T := TX6) (N := 4) (j0 := 3) (host := "OldMap") (ref := "OldMap$Way") K (by decide) sh_56 rfl i_X6 (by decide) (by decide +kernel) rfl rfl dX0_offAbove_25 ?_
  refine x_lmul (pc := 28) K dX0_offAbove_28 ?_
  refine x_aload_n (pc := 29) K 1 dX0_offAbove_29 rfl rfl ?_
  refine x_aload_n (pc := 30) K 2 dX0_offAbove_30 rfl rfl ?_
  refine x_getr (r0 := 2) (pc := 31) (index := 38) (C := RX0) (T := TX0) (N := 7) (j0 := 0) (ref := "OldMap$Bend") K (by decide) sh_55 rfl i_X0 (by decide) (by decide +kernel) rfl rfl rf_55_0 dX0_offAbove_31 ?_
  refine x_getrN (r0 := 3) (pc := 34) (index := 71) (C := RX2) (T := TX2) (N := 4) (j0 := 1) (host := "OldMap") (ref := "OldMap$Points") K (by decide) sh_2 rfl i_X2 (by decide) (by decide +kernel) rfl rfl rf_2_1 dX0_offAbove_34 ?_
  refine x_iconst (pc := 37) (v := 0) K dX0_offAbove_37 (by decide) ?_
  refine y_aald (r0 := (4 + 0)) (j := 0) (pc := 38) K (by decide) sh_3 rfl (by omega) (by decide) (rf_3 _) dX0_offAbove_38 ?_
  refine x_iload_n (pc := 39) K 4 dX0_offAbove_39 rfl rfl ?_
  refine y_iald (j := p) (pc := 40) K (shk_at (show 0 < 4 by omega)) (shr_at _ (show 0 < 4 by omega)) rfl (by omega) (by decide) dX0_offAbove_40 ?_
  refine x_i2l (pc := 41) K dX0_offAbove_41 ?_
  refine x_aload_n (pc := 42) K 2 dX0_offAbove_42 rfl rfl ?_
  refine x_getr (r0 := 2) (pc := 43) (index := 38) (C := RX0) (T := TX0) (N := 7) (j0 := 0) (ref := "OldMap$Bend") K (by decide) sh_55 rfl i_X0 (by decide) (by decide +kernel) rfl rfl rf_55_0 dX0_offAbove_43 ?_
  refine x_getrN (r0 := 3) (pc := 46) (index := 71) (C := RX2) (T := TX2) (N := 4) (j0 := 1) (host := "OldMap") (ref := "OldMap$Points") K (by decide) sh_2 rfl i_X2 (by decide) (by decide +kernel) rfl rfl rf_2_1 dX0_offAbove_46 ?_
  refine x_iconst (pc := 49) (v := 1) K dX0_offAbove_49 (by decide) ?_
  refine y_aald (r0 := (4 + 1)) (j := 1) (pc := 50) K (by decide) sh_3 rfl (by omega) (by decide) (rf_3 _) dX0_offAbove_50 ?_
  refine x_iload_n (pc := 51) K 4 dX0_offAbove_51 rfl rfl ?_
  refine y_iald (j := p) (pc := 52) K (shk_at (show 1 < 4 by omega)) (shr_at _ (show 1 < 4 by omega)) rfl (by omega) (by decide) dX0_offAbove_52 ?_
  refine x_i2l (pc := 53) K dX0_offAbove_53 ?_
  refine x_calllN (pc := 54) (st := [_]) (n := 2) K (by decide) sh_56 rfl (c_X6_above56 l G _ _ _ _) (host := "OldMap") gX0_offAbove_X6_above_n88 (by decide +kernel) (by decide +kernel) (by decide +kernel) (by decide +kernel) (by decide +kernel) rfl (by decide) (by decide) rfl rfl (Nat.le_of_ble_eq_true rfl) dX0_offAbove_54 (fun r_54 I_54 J_54 hp_54 => ?_)
  obtain ⟨rfl, rfl, rfl⟩ := hp_54
  refine x_lsub (pc := 57) K dX0_offAbove_57 ?_
  exact ret (pc := 58) dX0_offAbove_58 (⟨rfl, rfl, rfl⟩)

set_option maxHeartbeats 1000000 in
set_option maxRecDepth 100000 in
theorem c_X0_isFarOff0 (l : Launch) (G : hQ) (I : hI) (J : hJ) (p : Nat) (lim : Int32) (hp : p < 12) : h_Mi l yX0_isFarOff wsX0_isFarOff 2 49 G [rr G 55, .int 0, .int (nI p), .int lim] I J (fun ρ I' J' => bz (far I J 0 p lim) = ρ ∧ I = I' ∧ J = J') := by
  refine h_Mi.of (ty := .boolean) (cc := cX0_isFarOff) (maxL := 4) [(0, rr G 55), (1, .int 0), (2, .int (nI p)), (3, .int lim)] (by decide +kernel) rfl (Nat.le_of_ble_eq_true rfl) rfl ?_
  intro Γ K ret
  have i_X6 : ∀ w ∈ u_ws RX6 TX6 4, w ∈ wsX0_isFarOff := by decide +kernel
  refine x_aload_n (pc := 0) K 0 dX0_isFarOff_0 rfl rfl ?_
  refine x_iload_n (pc := 1) K 1 dX0_isFarOff_1 rfl rfl ?_
  refine x_iload_n (pc := 2) K 2 dX0_isFarOff_2 rfl rfl ?_
  refine x_calllV (pc := 3) (st := []) (n := 2) K (by decide) sh_55 rfl (c_X0_offAbove0 l G _ _ p (by omega)) gX0_isFarOff_X0_offAbove (by decide +kernel) rfl (by decide) (by decide) rfl rfl (Nat.le_of_ble_eq_true rfl) dX0_isFarOff_3 (fun r_3 I_3 J_3 hp_3 => ?_)
  obtain ⟨rfl, rfl, rfl⟩ := hp_3
  refine y_absl (pc := 6) (st := []) K (by decide +kernel) (by decide +kernel) (by decide +kernel) (by decide +kernel) (by decide) (Nat.le_of_ble_eq_true rfl) dX0_isFarOff_6 ?_
  refine x_iload_n (pc := 9) K 3 dX0_isFarOff_9 rfl rfl ?_
  refine x_i2l (pc := 10) K dX0_isFarOff_10 ?_
  refine x_aload_n (pc := 11) K 0 dX0_isFarOff_11 rfl rfl ?_
  refine x_iload_n (pc := 12) K 1 dX0_isFarOff_12 rfl rfl ?_
  refine x_callrV (pc := 13) (st := [_, _]) (n := 1) K (by decide) sh_55 rfl (c_X0_along0 l G _ _) gX0_isFarOff_X0_along (by decide +kernel) rfl (by decide) (by decide) rfl rfl (Nat.le_of_ble_eq_true rfl) dX0_isFarOff_13 (fun r_13 I_13 J_13 hp_13 => ?_)
  obtain ⟨rfl, rfl, rfl⟩ := hp_13
  refine x_getlN (pc := 16) (index := 85) (C := RX6) (T := TX6) (N := 4) (j0 := 3) (host := "OldMap") (ref := "OldMap$Way") K (by decide) sh_56 rfl i_X6 (by decide) (by decide +kernel) rfl rfl dX0_isFarOff_16 ?_
  refine x_lmul (pc := 19) K dX0_isFarOff_19 ?_
  refine x_lcmp (pc := 20) K dX0_isFarOff_20 ?_
  refine x_if_le (pc := 21) (tgt := 28) K dX0_isFarOff_21 (by decide) (fun c_21 => ?_) (fun c_21 => ?_)
  · replace c_21 := (lg_cmp_le _ _).mp c_21
    refine x_iconst (pc := 28) (v := 0) K dX0_isFarOff_28 (by decide) ?_
    exact ret (pc := 29) dX0_isFarOff_29 (⟨by first | exact bz_1.mpr (by grind) | exact bz_0.mpr (by grind), rfl, rfl⟩) rfl
  · replace c_21 := mt (lg_cmp_le _ _).mpr c_21
    refine x_iconst (pc := 24) (v := 1) K dX0_isFarOff_24 (by decide) ?_
    refine x_goto (pc := 25) (tgt := 29) K dX0_isFarOff_25 (by decide) ?_
    exact ret (pc := 29) dX0_isFarOff_29 (⟨by first | exact bz_1.mpr (by grind) | exact bz_0.mpr (by grind), rfl, rfl⟩) rfl

set_option maxHeartbeats 1000000 in
set_option maxRecDepth 100000 in
theorem c_X0_shiftMiss0 (l : Launch) (G : hQ) (I : hI) (J : hJ) : h_Ml l yX0_shiftMiss wsX0_shiftMiss 1 27 G [rr G 55, .int 0] I J (fun ρ I' J' => shm I J 0 = ρ ∧ I = I' ∧ J = J') := by
  refine h_Ml.of (cc := cX0_shiftMiss) (maxL := 2) [(0, rr G 55), (1, .int 0)] (by decide +kernel) rfl (Nat.le_of_ble_eq_true rfl) rfl ?_
  intro Γ K ret
  refine x_aload_n (pc := 0) K 0 dX0_shiftMiss_0 rfl rfl ?_
  refine x_iload_n (pc := 1) K 1 dX0_shiftMiss_1 rfl rfl ?_
  refine x_iload_n (pc := 2) K 1 dX0_shiftMiss_2 rfl rfl ?_
  refine x_calllV (pc := 3) (st := []) (n := 2) K (by decide) sh_55 rfl (c_X0_spread l G _ _ 0 0 (by omega) (by omega)) gX0_shiftMiss_X0_spread (by decide +kernel) rfl (by decide) (by decide) rfl rfl (Nat.le_of_ble_eq_true rfl) dX0_shiftMiss_3 (fun r_3 I_3 J_3 hp_3 => ?_)
  obtain ⟨rfl, rfl, rfl⟩ := hp_3
  refine x_ldc2_w (pc := 6) (v := (2)) K (by decide +kernel) dX0_shiftMiss_6 ?_
  refine x_aload_n (pc := 9) K 0 dX0_shiftMiss_9 rfl rfl ?_
  refine x_iload_n (pc := 10) K 1 dX0_shiftMiss_10 rfl rfl ?_
  refine x_iload_n (pc := 11) K 1 dX0_shiftMiss_11 rfl rfl ?_
  refine x_iconst (pc := 12) (v := 2) K dX0_shiftMiss_12 (by decide) ?_
  refine x_iadd (pc := 13) K dX0_shiftMiss_13 ?_
  refine x_calllV (pc := 14) (st := [_, _]) (n := 2) K (by decide) sh_55 rfl (c_X0_spread l G _ _ 0 (0 + 2) (by omega) (by omega)) gX0_shiftMiss_X0_spread (by decide +kernel) rfl (by decide) (by decide) rfl rfl (Nat.le_of_ble_eq_true rfl) dX0_shiftMiss_14 (fun r_14 I_14 J_14 hp_14 => ?_)
  obtain ⟨rfl, rfl, rfl⟩ := hp_14
  refine x_lmul (pc := 17) K dX0_shiftMiss_17 ?_
  refine x_lsub (pc := 18) K dX0_shiftMiss_18 ?_
  refine x_aload_n (pc := 19) K 0 dX0_shiftMiss_19 rfl rfl ?_
  refine x_iload_n (pc := 20) K 1 dX0_shiftMiss_20 rfl rfl ?_
  refine x_iconst (pc := 21) (v := 2) K dX0_shiftMiss_21 (by decide) ?_
  refine x_iadd (pc := 22) K dX0_shiftMiss_22 ?_
  refine x_iload_n (pc := 23) K 1 dX0_shiftMiss_23 rfl rfl ?_
  refine x_iconst (pc := 24) (v := 2) K dX0_shiftMiss_24 (by decide) ?_
  refine x_iadd (pc := 25) K dX0_shiftMiss_25 ?_
  refine x_calllV (pc := 26) (st := [_]) (n := 2) K (by decide) sh_55 rfl (c_X0_spread l G _ _ (0 + 2) (0 + 2) (by omega) (by omega)) gX0_shiftMiss_X0_spread (by decide +kernel) rfl (by decide) (by decide) rfl rfl (Nat.le_of_ble_eq_true rfl) dX0_shiftMiss_26 (fun r_26 I_26 J_26 hp_26 => ?_)
  obtain ⟨rfl, rfl, rfl⟩ := hp_26
  refine x_ladd (pc := 29) K dX0_shiftMiss_29 ?_
  exact ret (pc := 30) dX0_shiftMiss_30 (⟨rfl, rfl, rfl⟩)

set_option maxHeartbeats 1000000 in
set_option maxRecDepth 100000 in
theorem c_X0_offAbove1 (l : Launch) (G : hQ) (I : hI) (J : hJ) (p : Nat) (hp : p < 12) : h_Ml l yX0_offAbove wsX0_offAbove 1 24 G [rr G 55, .int 1, .int (nI p)] I J (fun ρ I' J' => offA I J 1 p = ρ ∧ I = I' ∧ J = J') := by
  refine h_Ml.of (cc := cX0_offAbove) (maxL := 6) [(0, rr G 55), (1, .int 1), (2, .int (nI p))] (by decide +kernel) rfl (Nat.le_of_ble_eq_true rfl) rfl ?_
  intro Γ K ret
  have i_X0 : ∀ w ∈ u_ws RX0 TX0 7, w ∈ wsX0_offAbove := by decide +kernel
  have i_X2 : ∀ w ∈ u_ws RX2 TX2 4, w ∈ wsX0_offAbove := by decide +kernel
  have i_X6 : ∀ w ∈ u_ws RX6 TX6 4, w ∈ wsX0_offAbove := by decide +kernel
  refine x_aload_n (pc := 0) K 0 dX0_offAbove_0 rfl rfl ?_
  refine x_iload_n (pc := 1) K 1 dX0_offAbove_1 rfl rfl ?_
  refine x_callrV (pc := 2) (st := []) (n := 1) K (by decide) sh_55 rfl (c_X0_along1 l G _ _) gX0_offAbove_X0_along (by decide +kernel) rfl (by decide) (by decide) rfl rfl (Nat.le_of_ble_eq_true rfl) dX0_offAbove_2 (fun r_2 I_2 J_2 hp_2 => ?_)
  obtain ⟨rfl, rfl, rfl⟩ := hp_2
  refine x_astore_n (pc := 5) (lo' := [(3, _), (0, _), (1, _), (2, _)]) K dX0_offAbove_5 rfl (by decide) rfl ?_
  refine x_aload_n (pc := 6) K 1 dX0_offAbove_6 rfl rfl ?_
  refine x_getr (r0 := 2) (pc := 7) (index := 38) (C := RX0) (T := TX0) (N := 7) (j0 := 0) (ref := "OldMap$Bend") K (by decide) sh_55 rfl i_X0 (by decide) (by decide +kernel) rfl rfl rf_55_0 dX0_offAbove_7 ?_
  refine x_getrN (r0 := 3) (pc := 10) (index := 71) (C := RX2) (T := TX2) (N := 4) (j0 := 1) (host := "OldMap") (ref := "OldMap$Points") K (by decide) sh_2 rfl i_X2 (by decide) (by decide +kernel) rfl rfl rf_2_1 dX0_offAbove_10 ?_
  refine x_iload_n (pc := 13) K 2 dX0_offAbove_13 rfl rfl ?_
  refine x_iconst (pc := 14) (v := 2) K dX0_offAbove_14 (by decide) ?_
  refine x_iadd (pc := 15) K dX0_offAbove_15 ?_
  refine y_aald (r0 := (4 + (1 + 2))) (j := (1 + 2)) (pc := 16) K (by decide) sh_3 (nI_addE rfl rfl) (by omega) (by decide) (rf_3 _) dX0_offAbove_16 ?_
  refine x_iload_n (pc := 17) K 3 dX0_offAbove_17 rfl rfl ?_
  refine y_iald (j := p) (pc := 18) K (shk_at (show (1 + 2) < 4 by omega)) (shr_at _ (show (1 + 2) < 4 by omega)) rfl (by omega) (by decide) dX0_offAbove_18 ?_
  refine x_i2l (pc := 19) K dX0_offAbove_19 ?_
  refine x_lstore (pc := 20) (lo' := [(4, _), (3, _), (0, _), (1, _), (2, _)]) K dX0_offAbove_20 (by decide) rfl ?_
  refine x_lload (pc := 22) K 0 dX0_offAbove_22 rfl ?_
  refine x_aload_n (pc := 24) K 1 dX0_offAbove_24 rfl rfl ?_
  refine x_getlN (pc := 25) (index := 85) (C := RX6) (T := TX6) (N := 4) (j0 := 3) (host := "OldMap") (ref := "OldMap$Way") K (by decide) sh_57 rfl i_X6 (by decide) (by decide +kernel) rfl rfl dX0_offAbove_25 ?_
  refine x_lmul (pc := 28) K dX0_offAbove_28 ?_
  refine x_aload_n (pc := 29) K 1 dX0_offAbove_29 rfl rfl ?_
  refine x_aload_n (pc := 30) K 2 dX0_offAbove_30 rfl rfl ?_
  refine x_getr (r0 := 2) (pc := 31) (index := 38) (C := RX0) (T := TX0) (N := 7) (j0 := 0) (ref := "OldMap$Bend") K (by decide) sh_55 rfl i_X0 (by decide) (by decide +kernel) rfl rfl rf_55_0 dX0_offAbove_31 ?_
  refine x_getrN (r0 := 3) (pc := 34) (index := 71) (C := RX2) (T := TX2) (N := 4) (j0 := 1) (host := "OldMap") (ref := "OldMap$Points") K (by decide) sh_2 rfl i_X2 (by decide) (by decide +kernel) rfl rfl rf_2_1 dX0_offAbove_34 ?_
  refine x_iconst (pc := 37) (v := 0) K dX0_offAbove_37 (by decide) ?_
  refine y_aald (r0 := (4 + 0)) (j := 0) (pc := 38) K (by decide) sh_3 rfl (by omega) (by decide) (rf_3 _) dX0_offAbove_38 ?_
  refine x_iload_n (pc := 39) K 4 dX0_offAbove_39 rfl rfl ?_
  refine y_iald (j := p) (pc := 40) K (shk_at (show 0 < 4 by omega)) (shr_at _ (show 0 < 4 by omega)) rfl (by omega) (by decide) dX0_offAbove_40 ?_
  refine x_i2l (pc := 41) K dX0_offAbove_41 ?_
  refine x_aload_n (pc := 42) K 2 dX0_offAbove_42 rfl rfl ?_
  refine x_getr (r0 := 2) (pc := 43) (index := 38) (C := RX0) (T := TX0) (N := 7) (j0 := 0) (ref := "OldMap$Bend") K (by decide) sh_55 rfl i_X0 (by decide) (by decide +kernel) rfl rfl rf_55_0 dX0_offAbove_43 ?_
  refine x_getrN (r0 := 3) (pc := 46) (index := 71) (C := RX2) (T := TX2) (N := 4) (j0 := 1) (host := "OldMap") (ref := "OldMap$Points") K (by decide) sh_2 rfl i_X2 (by decide) (by decide +kernel) rfl rfl rf_2_1 dX0_offAbove_46 ?_
  refine x_iconst (pc := 49) (v := 1) K dX0_offAbove_49 (by decide) ?_
  refine y_aald (r0 := (4 + 1)) (j := 1) (pc := 50) K (by decide) sh_3 rfl (by omega) (by decide) (rf_3 _) dX0_offAbove_50 ?_
  refine x_iload_n (pc := 51) K 4 dX0_offAbove_51 rfl rfl ?_
  refine y_iald (j := p) (pc := 52) K (shk_at (show 1 < 4 by omega)) (shr_at _ (show 1 < 4 by omega)) rfl (by omega) (by decide) dX0_offAbove_52 ?_
  refine x_i2l (pc := 53) K dX0_offAbove_53 ?_
  refine x_calllN (pc := 54) (st := [_]) (n := 2) K (by decide) sh_57 rfl (c_X6_above57 l G _ _ _ _) (host := "OldMap") gX0_offAbove_X6_above_n88 (by decide +kernel) (by decide +kernel) (by decide +kernel) (by decide +kernel) (by decide +kernel) rfl (by decide) (by decide) rfl rfl (Nat.le_of_ble_eq_true rfl) dX0_offAbove_54 (fun r_54 I_54 J_54 hp_54 => ?_)
  obtain ⟨rfl, rfl, rfl⟩ := hp_54
  refine x_lsub (pc := 57) K dX0_offAbove_57 ?_
  exact ret (pc := 58) dX0_offAbove_58 (⟨rfl, rfl, rfl⟩)

set_option maxHeartbeats 1000000 in
set_option maxRecDepth 100000 in
theorem c_X0_isFarOff1 (l : Launch) (G : hQ) (I : hI) (J : hJ) (p : Nat) (lim : Int32) (hp : p < 12) : h_Mi l yX0_isFarOff wsX0_isFarOff 2 49 G [rr G 55, .int 1, .int (nI p), .int lim] I J (fun ρ I' J' => bz (far I J 1 p lim) = ρ ∧ I = I' ∧ J = J') := by
  refine h_Mi.of (ty := .boolean) (cc := cX0_isFarOff) (maxL := 4) [(0, rr G 55), (1, .int 1), (2, .int (nI p)), (3, .int lim)] (by decide +kernel) rfl (Nat.le_of_ble_eq_true rfl) rfl ?_
  intro Γ K ret
  have i_X6 : ∀ w ∈ u_ws RX6 TX6 4, w ∈ wsX0_isFarOff := by decide +kernel
  refine x_aload_n (pc := 0) K 0 dX0_isFarOff_0 rfl rfl ?_
  refine x_iload_n (pc := 1) K 1 dX0_isFarOff_1 rfl rfl ?_
  refine x_iload_n (pc := 2) K 2 dX0_isFarOff_2 rfl rfl ?_
  refine x_calllV (pc := 3) (st := []) (n := 2) K (by decide) sh_55 rfl (c_X0_offAbove1 l G _ _ p (by omega)) gX0_isFarOff_X0_offAbove (by decide +kernel) rfl (by decide) (by decide) rfl rfl (Nat.le_of_ble_eq_true rfl) dX0_isFarOff_3 (fun r_3 I_3 J_3 hp_3 => ?_)
  obtain ⟨rfl, rfl, rfl⟩ := hp_3
  refine y_absl (pc := 6) (st := []) K (by decide +kernel) (by decide +kernel) (by decide +kernel) (by decide +kernel) (by decide) (Nat.le_of_ble_eq_true rfl) dX0_isFarOff_6 ?_
  refine x_iload_n (pc := 9) K 3 dX0_isFarOff_9 rfl rfl ?_
  refine x_i2l (pc := 10) K dX0_isFarOff_10 ?_
  refine x_aload_n (pc := 11) K 0 dX0_isFarOff_11 rfl rfl ?_
  refine x_iload_n (pc := 12) K 1 dX0_isFarOff_12 rfl rfl ?_
  refine x_callrV (pc := 13) (st := [_, _]) (n := 1) K (by decide) sh_55 rfl (c_X0_along1 l G _ _) gX0_isFarOff_X0_along (by decide +kernel) rfl (by decide) (by decide) rfl rfl (Nat.le_of_ble_eq_true rfl) dX0_isFarOff_13 (fun r_13 I_13 J_13 hp_13 => ?_)
  obtain ⟨rfl, rfl, rfl⟩ := hp_13
  refine x_getlN (pc := 16) (index := 85) (C := RX6) (T := TX6) (N := 4) (j0 := 3) (host := "OldMap") (ref := "OldMap$Way") K (by decide) sh_57 rfl i_X6 (by decide) (by decide +kernel) rfl rfl dX0_isFarOff_16 ?_
  refine x_lmul (pc := 19) K dX0_isFarOff_19 ?_
  refine x_lcmp (pc := 20) K dX0_isFarOff_20 ?_
  refine x_if_le (pc := 21) (tgt := 28) K dX0_isFarOff_21 (by decide) (fun c_21 => ?_) (fun c_21 => ?_)
  · replace c_21 := (lg_cmp_le _ _).mp c_21
    refine x_iconst (pc := 28) (v := 0) K dX0_isFarOff_28 (by decide) ?_
    exact ret (pc := 29) dX0_isFarOff_29 (⟨by first | exact bz_1.mpr (by grind) | exact bz_0.mpr (by grind), rfl, rfl⟩) rfl
  · replace c_21 := mt (lg_cmp_le _ _).mpr c_21
    refine x_iconst (pc := 24) (v := 1) K dX0_isFarOff_24 (by decide) ?_
    refine x_goto (pc := 25) (tgt := 29) K dX0_isFarOff_25 (by decide) ?_
    exact ret (pc := 29) dX0_isFarOff_29 (⟨by first | exact bz_1.mpr (by grind) | exact bz_0.mpr (by grind), rfl, rfl⟩) rfl

set_option maxHeartbeats 1000000 in
set_option maxRecDepth 100000 in
theorem c_X0_shiftMiss1 (l : Launch) (G : hQ) (I : hI) (J : hJ) : h_Ml l yX0_shiftMiss wsX0_shiftMiss 1 27 G [rr G 55, .int 1] I J (fun ρ I' J' => shm I J 1 = ρ ∧ I = I' ∧ J = J') := by
  refine h_Ml.of (cc := cX0_shiftMiss) (maxL := 2) [(0, rr G 55), (1, .int 1)] (by decide +kernel) rfl (Nat.le_of_ble_eq_true rfl) rfl ?_
  intro Γ K ret
  refine x_aload_n (pc := 0) K 0 dX0_shiftMiss_0 rfl rfl ?_
  refine x_iload_n (pc := 1) K 1 dX0_shiftMiss_1 rfl rfl ?_
  refine x_iload_n (pc := 2) K 1 dX0_shiftMiss_2 rfl rfl ?_
  refine x_calllV (pc := 3) (st := []) (n := 2) K (by decide) sh_55 rfl (c_X0_spread l G _ _ 1 1 (by omega) (by omega)) gX0_shiftMiss_X0_spread (by decide +kernel) rfl (by decide) (by decide) rfl rfl (Nat.le_of_ble_eq_true rfl) dX0_shiftMiss_3 (fun r_3 I_3 J_3 hp_3 => ?_)
  obtain ⟨rfl, rfl, rfl⟩ := hp_3
  refine x_ldc2_w (pc := 6) (v := (2)) K (by decide +kernel) dX0_shiftMiss_6 ?_
  refine x_aload_n (pc := 9) K 0 dX0_shiftMiss_9 rfl rfl ?_
  refine x_iload_n (pc := 10) K 1 dX0_shiftMiss_10 rfl rfl ?_
  refine x_iload_n (pc := 11) K 1 dX0_shiftMiss_11 rfl rfl ?_
  refine x_iconst (pc := 12) (v := 2) K dX0_shiftMiss_12 (by decide) ?_
  refine x_iadd (pc := 13) K dX0_shiftMiss_13 ?_
  refine x_calllV (pc := 14) (st := [_, _]) (n := 2) K (by decide) sh_55 rfl (c_X0_spread l G _ _ 1 (1 + 2) (by omega) (by omega)) gX0_shiftMiss_X0_spread (by decide +kernel) rfl (by decide) (by decide) rfl rfl (Nat.le_of_ble_eq_true rfl) dX0_shiftMiss_14 (fun r_14 I_14 J_14 hp_14 => ?_)
  obtain ⟨rfl, rfl, rfl⟩ := hp_14
  refine x_lmul (pc := 17) K dX0_shiftMiss_17 ?_
  refine x_lsub (pc := 18) K dX0_shiftMiss_18 ?_
  refine x_aload_n (pc := 19) K 0 dX0_shiftMiss_19 rfl rfl ?_
  refine x_iload_n (pc := 20) K 1 dX0_shiftMiss_20 rfl rfl ?_
  refine x_iconst (pc := 21) (v := 2) K dX0_shiftMiss_21 (by decide) ?_
  refine x_iadd (pc := 22) K dX0_shiftMiss_22 ?_
  refine x_iload_n (pc := 23) K 1 dX0_shiftMiss_23 rfl rfl ?_
  refine x_iconst (pc := 24) (v := 2) K dX0_shiftMiss_24 (by decide) ?_
  refine x_iadd (pc := 25) K dX0_shiftMiss_25 ?_
  refine x_calllV (pc := 26) (st := [_]) (n := 2) K (by decide) sh_55 rfl (c_X0_spread l G _ _ (1 + 2) (1 + 2) (by omega) (by omega)) gX0_shiftMiss_X0_spread (by decide +kernel) rfl (by decide) (by decide) rfl rfl (Nat.le_of_ble_eq_true rfl) dX0_shiftMiss_26 (fun r_26 I_26 J_26 hp_26 => ?_)
  obtain ⟨rfl, rfl, rfl⟩ := hp_26
  refine x_ladd (pc := 29) K dX0_shiftMiss_29 ?_
  exact ret (pc := 30) dX0_shiftMiss_30 (⟨rfl, rfl, rfl⟩)

set_option maxHeartbeats 1000000 in
set_option maxRecDepth 100000 in
theorem c_X0_turnedMiss (l : Launch) (G : hQ) (I : hI) (J : hJ) : h_Ml l yX0_turnedMiss wsX0_turnedMiss 1 27 G [rr G 55] I J (fun ρ I' J' => tum I J = ρ ∧ I = I' ∧ J = J') := by
  refine h_Ml.of (cc := cX0_turnedMiss) (maxL := 9) [(0, rr G 55)] (by decide +kernel) rfl (Nat.le_of_ble_eq_true rfl) rfl ?_
  intro Γ K ret
  refine x_aload_n (pc := 0) K 0 dX0_turnedMiss_0 rfl rfl ?_
  refine x_iconst (pc := 1) (v := 0) K dX0_turnedMiss_1 (by decide) ?_
  refine x_iconst (pc := 2) (v := 0) K dX0_turnedMiss_2 (by decide) ?_
  refine x_calllV (pc := 3) (st := []) (n := 2) K (by decide) sh_55 rfl (c_X0_spread l G _ _ 0 0 (by omega) (by omega)) gX0_turnedMiss_X0_spread (by decide +kernel) rfl (by decide) (by decide) rfl rfl (Nat.le_of_ble_eq_true rfl) dX0_turnedMiss_3 (fun r_3 I_3 J_3 hp_3 => ?_)
  obtain ⟨rfl, rfl, rfl⟩ := hp_3
  refine x_aload_n (pc := 6) K 0 dX0_turnedMiss_6 rfl rfl ?_
  refine x_iconst (pc := 7) (v := 1) K dX0_turnedMiss_7 (by decide) ?_
  refine x_iconst (pc := 8) (v := 1) K dX0_turnedMiss_8 (by decide) ?_
  refine x_calllV (pc := 9) (st := [_]) (n := 2) K (by decide) sh_55 rfl (c_X0_spread l G _ _ 1 1 (by omega) (by omega)) gX0_turnedMiss_X0_spread (by decide +kernel) rfl (by decide) (by decide) rfl rfl (Nat.le_of_ble_eq_true rfl) dX0_turnedMiss_9 (fun r_9 I_9 J_9 hp_9 => ?_)
  obtain ⟨rfl, rfl, rfl⟩ := hp_9
  refine x_ladd (pc := 12) K dX0_turnedMiss_12 ?_
  refine x_lstore_n (pc := 13) (lo' := [(1, _), (0, _)]) K dX0_turnedMiss_13 rfl (by decide) rfl ?_
  refine x_aload_n (pc := 14) K 1 dX0_turnedMiss_14 rfl rfl ?_
  refine x_iconst (pc := 15) (v := 2) K dX0_turnedMiss_15 (by decide) ?_
  refine x_iconst (pc := 16) (v := 2) K dX0_turnedMiss_16 (by decide) ?_
  refine x_calllV (pc := 17) (st := []) (n := 2) K (by decide) sh_55 rfl (c_X0_spread l G _ _ 2 2 (by omega) (by omega)) gX0_turnedMiss_X0_spread (by decide +kernel) rfl (by decide) (by decide) rfl rfl (Nat.le_of_ble_eq_true rfl) dX0_turnedMiss_17 (fun r_17 I_17 J_17 hp_17 => ?_)
  obtain ⟨rfl, rfl, rfl⟩ := hp_17
  refine x_aload_n (pc := 20) K 1 dX0_turnedMiss_20 rfl rfl ?_
  refine x_iconst (pc := 21) (v := 3) K dX0_turnedMiss_21 (by decide) ?_
  refine x_iconst (pc := 22) (v := 3) K dX0_turnedMiss_22 (by decide) ?_
  refine x_calllV (pc := 23) (st := [_]) (n := 2) K (by decide) sh_55 rfl (c_X0_spread l G _ _ 3 3 (by omega) (by omega)) gX0_turnedMiss_X0_spread (by decide +kernel) rfl (by decide) (by decide) rfl rfl (Nat.le_of_ble_eq_true rfl) dX0_turnedMiss_23 (fun r_23 I_23 J_23 hp_23 => ?_)
  obtain ⟨rfl, rfl, rfl⟩ := hp_23
  refine x_ladd (pc := 26) K dX0_turnedMiss_26 ?_
  refine x_lstore_n (pc := 27) (lo' := [(3, _), (1, _), (0, _)]) K dX0_turnedMiss_27 rfl (by decide) rfl ?_
  refine x_aload_n (pc := 28) K 2 dX0_turnedMiss_28 rfl rfl ?_
  refine x_iconst (pc := 29) (v := 0) K dX0_turnedMiss_29 (by decide) ?_
  refine x_iconst (pc := 30) (v := 2) K dX0_turnedMiss_30 (by decide) ?_
  refine x_calllV (pc := 31) (st := []) (n := 2) K (by decide) sh_55 rfl (c_X0_spread l G _ _ 0 2 (by omega) (by omega)) gX0_turnedMiss_X0_spread (by decide +kernel) rfl (by decide) (by decide) rfl rfl (Nat.le_of_ble_eq_true rfl) dX0_turnedMiss_31 (fun r_31 I_31 J_31 hp_31 => ?_)
  obtain ⟨rfl, rfl, rfl⟩ := hp_31
  refine x_aload_n (pc := 34) K 2 dX0_turnedMiss_34 rfl rfl ?_
  refine x_iconst (pc := 35) (v := 1) K dX0_turnedMiss_35 (by decide) ?_
  refine x_iconst (pc := 36) (v := 3) K dX0_turnedMiss_36 (by decide) ?_
  refine x_calllV (pc := 37) (st := [_]) (n := 2) K (by decide) sh_55 rfl (c_X0_spread l G _ _ 1 3 (by omega) (by omega)) gX0_turnedMiss_X0_spread (by decide +kernel) rfl (by decide) (by decide) rfl rfl (Nat.le_of_ble_eq_true rfl) dX0_turnedMiss_37 (fun r_37 I_37 J_37 hp_37 => ?_)
  obtain ⟨rfl, rfl, rfl⟩ := hp_37
  refine x_ladd (pc := 40) K dX0_turnedMiss_40 ?_
  refine x_lstore (pc := 41) (lo' := [(5, _), (3, _), (1, _), (0, _)]) K dX0_turnedMiss_41 (by decide) rfl ?_
  refine x_aload_n (pc := 43) K 3 dX0_turnedMiss_43 rfl rfl ?_
  refine x_iconst (pc := 44) (v := 0) K dX0_turnedMiss_44 (by decide) ?_
  refine x_iconst (pc := 45) (v := 3) K dX0_turnedMiss_45 (by decide) ?_
  refine x_calllV (pc := 46) (st := []) (n := 2) K (by decide) sh_55 rfl (c_X0_spread l G _ _ 0 3 (by omega) (by omega)) gX0_turnedMiss_X0_spread (by decide +kernel) rfl (by decide) (by decide) rfl rfl (Nat.le_of_ble_eq_true rfl) dX0_turnedMiss_46 (fun r_46 I_46 J_46 hp_46 => ?_)
  obtain ⟨rfl, rfl, rfl⟩ := hp_46
  refine x_aload_n (pc := 49) K 3 dX0_turnedMiss_49 rfl rfl ?_
  refine x_iconst (pc := 50) (v := 1) K dX0_turnedMiss_50 (by decide) ?_
  refine x_iconst (pc := 51) (v := 2) K dX0_turnedMiss_51 (by decide) ?_
  refine x_calllV (pc := 52) (st := [_]) (n := 2) K (by decide) sh_55 rfl (c_X0_spread l G _ _ 1 2 (by omega) (by omega)) gX0_turnedMiss_X0_spread (by decide +kernel) rfl (by decide) (by decide) rfl rfl (Nat.le_of_ble_eq_true rfl) dX0_turnedMiss_52 (fun r_52 I_52 J_52 hp_52 => ?_)
  obtain ⟨rfl, rfl, rfl⟩ := hp_52
  refine x_lsub (pc := 55) K dX0_turnedMiss_55 ?_
  refine x_lstore (pc := 56) (lo' := [(7, _), (5, _), (3, _), (1, _), (0, _)]) K dX0_turnedMiss_56 (by decide) rfl ?_
  refine x_lload_n (pc := 58) K 3 dX0_turnedMiss_58 rfl rfl ?_
  refine x_lload_n (pc := 59) K 2 dX0_turnedMiss_59 rfl rfl ?_
  refine x_lmul (pc := 60) K dX0_turnedMiss_60 ?_
  refine x_lload (pc := 61) K 1 dX0_turnedMiss_61 rfl ?_
  refine x_lload (pc := 63) K 1 dX0_turnedMiss_63 rfl ?_
  refine x_lmul (pc := 65) K dX0_turnedMiss_65 ?_
  refine x_lsub (pc := 66) K dX0_turnedMiss_66 ?_
  refine x_lload (pc := 67) K 0 dX0_turnedMiss_67 rfl ?_
  refine x_lload (pc := 69) K 0 dX0_turnedMiss_69 rfl ?_
  refine x_lmul (pc := 71) K dX0_turnedMiss_71 ?_
  refine x_lsub (pc := 72) K dX0_turnedMiss_72 ?_
  exact ret (pc := 73) dX0_turnedMiss_73 (⟨rfl, rfl, rfl⟩)

set_option maxHeartbeats 1000000 in
set_option maxRecDepth 100000 in
theorem c_X0_firstBeyond (l : Launch) (G : hQ) (I : hI) (J : hJ) (lim : Int32) : h_Mi l yX0_firstBeyond wsX0_firstBeyond 3 72 G [rr G 55, .int lim] I J (fun ρ I' J' => fstI (fun p => bitOn (I 55 5) p ∧ (far I J 0 p lim ∨ far I J 1 p lim)) 0 12 = ρ ∧ I = I' ∧ J = J') := by
  refine h_Mi.of (ty := .int) (cc := cX0_firstBeyond) (maxL := 3) [(0, rr G 55), (1, .int lim)] (by decide +kernel) rfl (Nat.le_of_ble_eq_true rfl) rfl ?_
  intro Γ K ret
  have i_X0 : ∀ w ∈ u_ws RX0 TX0 7, w ∈ wsX0_firstBeyond := by decide +kernel
  have loop : ∀ k, k ≤ 12 → (fstI (fun p => bitOn (I 55 5) p ∧ (far I J 0 p lim ∨ far I J 1 p lim)) 0 12 = fstI (fun p => bitOn (I 55 5) p ∧ (far I J 0 p lim ∨ far I J 1 p lim)) k (12 - k)) → h_WW Γ G 2 [(2, .int (nI k)), (0, rr G 55), (1, .int lim)] [] I J := by
    refine loopU 12 (fun k hk ih => ?_)
    intro hi
    refine x_iload_n (pc := 2) K 0 dX0_firstBeyond_2 rfl rfl ?_
    refine x_bipush (pc := 3) (v := 12) K dX0_firstBeyond_3 (by decide) ?_
    refine x_icmp_ge (pc := 5) (tgt := 48) K dX0_firstBeyond_5 (by decide) (fun c_5 => ?_) (fun c_5 => ?_)
    · replace c_5 := cI_le (a := 12) (b := k) rfl rfl (by omega) (by omega) c_5
      refine x_bipush (pc := 48) (v := -5) K dX0_firstBeyond_48 (by decide) ?_
      exact ret (pc := 50) dX0_firstBeyond_50 (⟨by rw [hi, fstI_e (by omega)], rfl, rfl⟩) rfl
    · replace c_5 := cI_nle (a := 12) (b := k) rfl rfl (by omega) (by omega) c_5
      refine x_aload_n (pc := 8) K 1 dX0_firstBeyond_8 rfl rfl ?_
      refine x_geti (pc := 9) (index := 31) (C := RX0) (T := TX0) (N := 7) (j0 := 5) (ref := "OldMap$Bend") K (by decide) sh_55 rfl i_X0 (by decide) (by decide +kernel) rfl rfl dX0_firstBeyond_9 ?_
      refine x_iload_n (pc := 12) K 0 dX0_firstBeyond_12 rfl rfl ?_
      refine x_ishr (pc := 13) K dX0_firstBeyond_13 ?_
      refine x_iconst (pc := 14) (v := 1) K dX0_firstBeyond_14 (by decide) ?_
      refine x_iand (pc := 15) K dX0_firstBeyond_15 ?_
      refine x_iconst (pc := 16) (v := 1) K dX0_firstBeyond_16 (by decide) ?_
      refine x_icmp_ne (pc := 17) (tgt := 42) K dX0_firstBeyond_17 (by decide) (fun c_17 => ?_) (fun c_17 => ?_)
      · refine x_iinc (pc := 42) (q0 := 0) (v := nI (k + 1)) (lo' := [(2, _), (0, _), (1, _)]) K dX0_firstBeyond_42 rfl (nI_incE rfl) (by decide) rfl ?_
        refine x_goto (pc := 45) (tgt := 2) K dX0_firstBeyond_45 (by decide) ?_
        refine x_lo (lo' := [(2, _), (0, _), (1, _)]) [0, 1, 2] rfl ?_
        exact x_loe (by rfl) (ih (by omega) (by rw [hi, fstI_f (by omega) (by grind)]))
      · refine x_aload_n (pc := 20) K 1 dX0_firstBeyond_20 rfl rfl ?_
        refine x_iconst (pc := 21) (v := 0) K dX0_firstBeyond_21 (by decide) ?_
        refine x_iload_n (pc := 22) K 0 dX0_firstBeyond_22 rfl rfl ?_
        refine x_iload_n (pc := 23) K 2 dX0_firstBeyond_23 rfl rfl ?_
        refine x_calliV (pc := 24) (st := []) (n := 3) K (by decide) sh_55 rfl (c_X0_isFarOff0 l G _ _ k _ (by omega)) gX0_firstBeyond_X0_isFarOff (by decide +kernel) rfl (by decide) (by decide) rfl rfl (Nat.le_of_ble_eq_true rfl) dX0_firstBeyond_24 (fun r_24 I_24 J_24 hp_24 => ?_)
        obtain ⟨rfl, rfl, rfl⟩ := hp_24
        refine x_if_ne (pc := 27) (tgt := 40) K dX0_firstBeyond_27 (by decide) (fun c_27 => ?_) (fun c_27 => ?_)
        · replace c_27 := bz_n0.mp c_27
          refine x_iload_n (pc := 40) K 0 dX0_firstBeyond_40 rfl rfl ?_
          exact ret (pc := 41) dX0_firstBeyond_41 (⟨by rw [hi, fstI_t (by omega) (by grind)], rfl, rfl⟩) rfl
        · replace c_27 := bz_0.mp c_27
          refine x_aload_n (pc := 30) K 1 dX0_firstBeyond_30 rfl rfl ?_
          refine x_iconst (pc := 31) (v := 1) K dX0_firstBeyond_31 (by decide) ?_
          refine x_iload_n (pc := 32) K 0 dX0_firstBeyond_32 rfl rfl ?_
          refine x_iload_n (pc := 33) K 2 dX0_firstBeyond_33 rfl rfl ?_
          refine x_calliV (pc := 34) (st := []) (n := 3) K (by decide) sh_55 rfl (c_X0_isFarOff1 l G _ _ k _ (by omega)) gX0_firstBeyond_X0_isFarOff (by decide +kernel) rfl (by decide) (by decide) rfl rfl (Nat.le_of_ble_eq_true rfl) dX0_firstBeyond_34 (fun r_34 I_34 J_34 hp_34 => ?_)
          obtain ⟨rfl, rfl, rfl⟩ := hp_34
          refine x_if_eq (pc := 37) (tgt := 42) K dX0_firstBeyond_37 (by decide) (fun c_37 => ?_) (fun c_37 => ?_)
          · replace c_37 := bz_0.mp c_37
            refine x_iinc (pc := 42) (q0 := 0) (v := nI (k + 1)) (lo' := [(2, _), (0, _), (1, _)]) K dX0_firstBeyond_42 rfl (nI_incE rfl) (by decide) rfl ?_
            refine x_goto (pc := 45) (tgt := 2) K dX0_firstBeyond_45 (by decide) ?_
            refine x_lo (lo' := [(2, _), (0, _), (1, _)]) [0, 1, 2] rfl ?_
            exact x_loe (by rfl) (ih (by omega) (by rw [hi, fstI_f (by omega) (by grind)]))
          · replace c_37 := bz_n0.mp c_37
            refine x_iload_n (pc := 40) K 0 dX0_firstBeyond_40 rfl rfl ?_
            exact ret (pc := 41) dX0_firstBeyond_41 (⟨by rw [hi, fstI_t (by omega) (by grind)], rfl, rfl⟩) rfl
  refine x_iconst (pc := 0) (v := 0) K dX0_firstBeyond_0 (by decide) ?_
  refine x_istore_n (pc := 1) (lo' := [(2, _), (0, _), (1, _)]) K dX0_firstBeyond_1 rfl (by decide) rfl ?_
  refine x_lo (lo' := [(2, _), (0, _), (1, _)]) [0, 1, 2] rfl ?_
  exact x_loe (by rfl) (loop 0 (Nat.zero_le _) rfl)

set_option maxHeartbeats 1000000 in
set_option maxRecDepth 100000 in
theorem c_X0_aboveOfQ0 (l : Launch) (G : hQ) (I : hI) (J : hJ) (hk : I 55 4 = nI 0) : h_Ml l yX0_aboveOfQ wsX0_aboveOfQ 0 0 G [rr G 55] I J (fun ρ I' J' => 0 = ρ ∧ I = I' ∧ J = J') := by
  refine h_Ml.of (cc := cX0_aboveOfQ) (maxL := 1) [(0, rr G 55)] (by decide +kernel) rfl (Nat.le_of_ble_eq_true rfl) rfl ?_
  intro Γ K ret
  have i_X0 : ∀ w ∈ u_ws RX0 TX0 7, w ∈ wsX0_aboveOfQ := by decide +kernel
  have i_X6 : ∀ w ∈ u_ws RX6 TX6 4, w ∈ wsX0_aboveOfQ := by decide +kernel
  refine x_aload_n (pc := 0) K 0 dX0_aboveOfQ_0 rfl rfl ?_
  refine x_geti (pc := 1) (index := 27) (C := RX0) (T := TX0) (N := 7) (j0 := 4) (ref := "OldMap$Bend") K (by decide) sh_55 rfl i_X0 (by decide) (by decide +kernel) rfl rfl dX0_aboveOfQ_1 ?_
  refine x_topie (nI 0) hk ?_
  refine x_lookup (pc := 4) (tgt := 32) (off := 28) K dX0_aboveOfQ_4 (by decide) (by decide) (by decide) ?_
  refine x_lconst (pc := 32) (v := 0) K dX0_aboveOfQ_32 (by decide) ?_
  exact ret (pc := 33) dX0_aboveOfQ_33 (⟨rfl, rfl, rfl⟩)

set_option maxHeartbeats 1000000 in
set_option maxRecDepth 100000 in
theorem c_X0_aboveOfQ1 (l : Launch) (G : hQ) (I : hI) (J : hJ) (hk : I 55 4 = nI 1) : h_Ml l yX0_aboveOfQ wsX0_aboveOfQ 0 0 G [rr G 55] I J (fun ρ I' J' => J 57 0 = ρ ∧ I = I' ∧ J = J') := by
  refine h_Ml.of (cc := cX0_aboveOfQ) (maxL := 1) [(0, rr G 55)] (by decide +kernel) rfl (Nat.le_of_ble_eq_true rfl) rfl ?_
  intro Γ K ret
  have i_X0 : ∀ w ∈ u_ws RX0 TX0 7, w ∈ wsX0_aboveOfQ := by decide +kernel
  have i_X6 : ∀ w ∈ u_ws RX6 TX6 4, w ∈ wsX0_aboveOfQ := by decide +kernel
  refine x_aload_n (pc := 0) K 0 dX0_aboveOfQ_0 rfl rfl ?_
  refine x_geti (pc := 1) (index := 27) (C := RX0) (T := TX0) (N := 7) (j0 := 4) (ref := "OldMap$Bend") K (by decide) sh_55 rfl i_X0 (by decide) (by decide +kernel) rfl rfl dX0_aboveOfQ_1 ?_
  refine x_topie (nI 1) hk ?_
  refine x_lookup (pc := 4) (tgt := 34) (off := 30) K dX0_aboveOfQ_4 (by decide) (by decide) (by decide) ?_
  refine x_aload_n (pc := 34) K 0 dX0_aboveOfQ_34 rfl rfl ?_
  refine x_getr (r0 := 57) (pc := 35) (index := 18) (C := RX0) (T := TX0) (N := 7) (j0 := 2) (ref := "OldMap$Bend") K (by decide) sh_55 rfl i_X0 (by decide) (by decide +kernel) rfl rfl rf_55_2 dX0_aboveOfQ_35 ?_
  refine x_getlN (pc := 38) (index := 75) (C := RX6) (T := TX6) (N := 4) (j0 := 0) (host := "OldMap") (ref := "OldMap$Way") K (by decide) sh_57 rfl i_X6 (by decide) (by decide +kernel) rfl rfl dX0_aboveOfQ_38 ?_
  exact ret (pc := 41) dX0_aboveOfQ_41 (⟨rfl, rfl, rfl⟩)

set_option maxHeartbeats 1000000 in
set_option maxRecDepth 100000 in
theorem c_X0_aboveOfQ2 (l : Launch) (G : hQ) (I : hI) (J : hJ) (hk : I 55 4 = nI 2) : h_Ml l yX0_aboveOfQ wsX0_aboveOfQ 0 0 G [rr G 55] I J (fun ρ I' J' => J 57 1 = ρ ∧ I = I' ∧ J = J') := by
  refine h_Ml.of (cc := cX0_aboveOfQ) (maxL := 1) [(0, rr G 55)] (by decide +kernel) rfl (Nat.le_of_ble_eq_true rfl) rfl ?_
  intro Γ K ret
  have i_X0 : ∀ w ∈ u_ws RX0 TX0 7, w ∈ wsX0_aboveOfQ := by decide +kernel
  have i_X6 : ∀ w ∈ u_ws RX6 TX6 4, w ∈ wsX0_aboveOfQ := by decide +kernel
  refine x_aload_n (pc := 0) K 0 dX0_aboveOfQ_0 rfl rfl ?_
  refine x_geti (pc := 1) (index := 27) (C := RX0) (T := TX0) (N := 7) (j0 := 4) (ref := "OldMap$Bend") K (by decide) sh_55 rfl i_X0 (by decide) (by decide +kernel) rfl rfl dX0_aboveOfQ_1 ?_
  refine x_topie (nI 2) hk ?_
  refine x_lookup (pc := 4) (tgt := 42) (off := 38) K dX0_aboveOfQ_4 (by decide) (by decide) (by decide) ?_
  refine x_aload_n (pc := 42) K 0 dX0_aboveOfQ_42 rfl rfl ?_
  refine x_getr (r0 := 57) (pc := 43) (index := 18) (C := RX0) (T := TX0) (N := 7) (j0 := 2) (ref := "OldMap$Bend") K (by decide) sh_55 rfl i_X0 (by decide) (by decide +kernel) rfl rfl rf_55_2 dX0_aboveOfQ_43 ?_
  refine x_getlN (pc := 46) (index := 78) (C := RX6) (T := TX6) (N := 4) (j0 := 1) (host := "OldMap") (ref := "OldMap$Way") K (by decide) sh_57 rfl i_X6 (by decide) (by decide +kernel) rfl rfl dX0_aboveOfQ_46 ?_
  exact ret (pc := 49) dX0_aboveOfQ_49 (⟨rfl, rfl, rfl⟩)

set_option maxHeartbeats 1000000 in
set_option maxRecDepth 100000 in
theorem c_X0_missAbove00 (l : Launch) (G : hQ) (I : hI) (J : hJ) (hk : I 55 4 = nI 0) : h_Ml l yX0_missAbove wsX0_missAbove 2 55 G [rr G 55, .int 0] I J (fun ρ I' J' => shm I J 0 + shm I J 1 = ρ ∧ I = I' ∧ J = J') := by
  refine h_Ml.of (cc := cX0_missAbove) (maxL := 4) [(0, rr G 55), (1, .int 0)] (by decide +kernel) rfl (Nat.le_of_ble_eq_true rfl) rfl ?_
  intro Γ K ret
  have i_X0 : ∀ w ∈ u_ws RX0 TX0 7, w ∈ wsX0_missAbove := by decide +kernel
  refine x_aload_n (pc := 0) K 0 dX0_missAbove_0 rfl rfl ?_
  refine x_geti (pc := 1) (index := 27) (C := RX0) (T := TX0) (N := 7) (j0 := 4) (ref := "OldMap$Bend") K (by decide) sh_55 rfl i_X0 (by decide) (by decide +kernel) rfl rfl dX0_missAbove_1 ?_
  refine x_topie (nI 0) hk ?_
  refine x_lookup (pc := 4) (tgt := 32) (off := 28) K dX0_missAbove_4 (by decide) (by decide) (by decide) ?_
  refine x_aload_n (pc := 32) K 0 dX0_missAbove_32 rfl rfl ?_
  refine x_iconst (pc := 33) (v := 0) K dX0_missAbove_33 (by decide) ?_
  refine x_calllV (pc := 34) (st := []) (n := 1) K (by decide) sh_55 rfl (c_X0_shiftMiss0 l G _ _) gX0_missAbove_X0_shiftMiss (by decide +kernel) rfl (by decide) (by decide) rfl rfl (Nat.le_of_ble_eq_true rfl) dX0_missAbove_34 (fun r_34 I_34 J_34 hp_34 => ?_)
  obtain ⟨rfl, rfl, rfl⟩ := hp_34
  refine x_aload_n (pc := 37) K 0 dX0_missAbove_37 rfl rfl ?_
  refine x_iconst (pc := 38) (v := 1) K dX0_missAbove_38 (by decide) ?_
  refine x_calllV (pc := 39) (st := [_]) (n := 1) K (by decide) sh_55 rfl (c_X0_shiftMiss1 l G _ _) gX0_missAbove_X0_shiftMiss (by decide +kernel) rfl (by decide) (by decide) rfl rfl (Nat.le_of_ble_eq_true rfl) dX0_missAbove_39 (fun r_39 I_39 J_39 hp_39 => ?_)
  obtain ⟨rfl, rfl, rfl⟩ := hp_39
  refine x_ladd (pc := 42) K dX0_missAbove_42 ?_
  exact ret (pc := 43) dX0_missAbove_43 (⟨rfl, rfl, rfl⟩)

set_option maxHeartbeats 1000000 in
set_option maxRecDepth 100000 in
theorem c_X0_missAbove10 (l : Launch) (G : hQ) (I : hI) (J : hJ) (hk : I 55 4 = nI 1) : h_Ml l yX0_missAbove wsX0_missAbove 2 55 G [rr G 55, .int 0] I J (fun ρ I' J' => tum I J = ρ ∧ I = I' ∧ J = J') := by
  refine h_Ml.of (cc := cX0_missAbove) (maxL := 4) [(0, rr G 55), (1, .int 0)] (by decide +kernel) rfl (Nat.le_of_ble_eq_true rfl) rfl ?_
  intro Γ K ret
  have i_X0 : ∀ w ∈ u_ws RX0 TX0 7, w ∈ wsX0_missAbove := by decide +kernel
  refine x_aload_n (pc := 0) K 0 dX0_missAbove_0 rfl rfl ?_
  refine x_geti (pc := 1) (index := 27) (C := RX0) (T := TX0) (N := 7) (j0 := 4) (ref := "OldMap$Bend") K (by decide) sh_55 rfl i_X0 (by decide) (by decide +kernel) rfl rfl dX0_missAbove_1 ?_
  refine x_topie (nI 1) hk ?_
  refine x_lookup (pc := 4) (tgt := 44) (off := 40) K dX0_missAbove_4 (by decide) (by decide) (by decide) ?_
  refine x_aload_n (pc := 44) K 0 dX0_missAbove_44 rfl rfl ?_
  refine x_calllV (pc := 45) (st := []) (n := 0) K (by decide) sh_55 rfl (c_X0_turnedMiss l G _ _) gX0_missAbove_X0_turnedMiss (by decide +kernel) rfl (by decide) (by decide) rfl rfl (Nat.le_of_ble_eq_true rfl) dX0_missAbove_45 (fun r_45 I_45 J_45 hp_45 => ?_)
  obtain ⟨rfl, rfl, rfl⟩ := hp_45
  exact ret (pc := 48) dX0_missAbove_48 (⟨rfl, rfl, rfl⟩)

set_option maxHeartbeats 1000000 in
set_option maxRecDepth 100000 in
theorem c_X0_missAbove20 (l : Launch) (G : hQ) (I : hI) (J : hJ) (hk : I 55 4 = nI 2) : h_Ml l yX0_missAbove wsX0_missAbove 2 55 G [rr G 55, .int 0] I J (fun ρ I' J' => spr I J 0 0 * spr I J (0 + 2) (0 + 2) - spr I J 0 (0 + 2) * spr I J 0 (0 + 2) = ρ ∧ I = I' ∧ J = J') := by
  refine h_Ml.of (cc := cX0_missAbove) (maxL := 4) [(0, rr G 55), (1, .int 0)] (by decide +kernel) rfl (Nat.le_of_ble_eq_true rfl) rfl ?_
  intro Γ K ret
  have i_X0 : ∀ w ∈ u_ws RX0 TX0 7, w ∈ wsX0_missAbove := by decide +kernel
  refine x_aload_n (pc := 0) K 0 dX0_missAbove_0 rfl rfl ?_
  refine x_geti (pc := 1) (index := 27) (C := RX0) (T := TX0) (N := 7) (j0 := 4) (ref := "OldMap$Bend") K (by decide) sh_55 rfl i_X0 (by decide) (by decide +kernel) rfl rfl dX0_missAbove_1 ?_
  refine x_topie (nI 2) hk ?_
  refine x_lookup (pc := 4) (tgt := 49) (off := 45) K dX0_missAbove_4 (by decide) (by decide) (by decide) ?_
  refine x_aload_n (pc := 49) K 0 dX0_missAbove_49 rfl rfl ?_
  refine x_iload_n (pc := 50) K 1 dX0_missAbove_50 rfl rfl ?_
  refine x_iload_n (pc := 51) K 1 dX0_missAbove_51 rfl rfl ?_
  refine x_iconst (pc := 52) (v := 2) K dX0_missAbove_52 (by decide) ?_
  refine x_iadd (pc := 53) K dX0_missAbove_53 ?_
  refine x_calllV (pc := 54) (st := []) (n := 2) K (by decide) sh_55 rfl (c_X0_spread l G _ _ 0 (0 + 2) (by omega) (by omega)) gX0_missAbove_X0_spread (by decide +kernel) rfl (by decide) (by decide) rfl rfl (Nat.le_of_ble_eq_true rfl) dX0_missAbove_54 (fun r_54 I_54 J_54 hp_54 => ?_)
  obtain ⟨rfl, rfl, rfl⟩ := hp_54
  refine x_lstore_n (pc := 57) (lo' := [(2, _), (0, _), (1, _)]) K dX0_missAbove_57 rfl (by decide) rfl ?_
  refine x_aload_n (pc := 58) K 1 dX0_missAbove_58 rfl rfl ?_
  refine x_iload_n (pc := 59) K 2 dX0_missAbove_59 rfl rfl ?_
  refine x_iload_n (pc := 60) K 2 dX0_missAbove_60 rfl rfl ?_
  refine x_calllV (pc := 61) (st := []) (n := 2) K (by decide) sh_55 rfl (c_X0_spread l G _ _ 0 0 (by omega) (by omega)) gX0_missAbove_X0_spread (by decide +kernel) rfl (by decide) (by decide) rfl rfl (Nat.le_of_ble_eq_true rfl) dX0_missAbove_61 (fun r_61 I_61 J_61 hp_61 => ?_)
  obtain ⟨rfl, rfl, rfl⟩ := hp_61
  refine x_aload_n (pc := 64) K 1 dX0_missAbove_64 rfl rfl ?_
  refine x_iload_n (pc := 65) K 2 dX0_missAbove_65 rfl rfl ?_
  refine x_iconst (pc := 66) (v := 2) K dX0_missAbove_66 (by decide) ?_
  refine x_iadd (pc := 67) K dX0_missAbove_67 ?_
  refine x_iload_n (pc := 68) K 2 dX0_missAbove_68 rfl rfl ?_
  refine x_iconst (pc := 69) (v := 2) K dX0_missAbove_69 (by decide) ?_
  refine x_iadd (pc := 70) K dX0_missAbove_70 ?_
  refine x_calllV (pc := 71) (st := [_]) (n := 2) K (by decide) sh_55 rfl (c_X0_spread l G _ _ (0 + 2) (0 + 2) (by omega) (by omega)) gX0_missAbove_X0_spread (by decide +kernel) rfl (by decide) (by decide) rfl rfl (Nat.le_of_ble_eq_true rfl) dX0_missAbove_71 (fun r_71 I_71 J_71 hp_71 => ?_)
  obtain ⟨rfl, rfl, rfl⟩ := hp_71
  refine x_lmul (pc := 74) K dX0_missAbove_74 ?_
  refine x_lload_n (pc := 75) K 0 dX0_missAbove_75 rfl rfl ?_
  refine x_lload_n (pc := 76) K 0 dX0_missAbove_76 rfl rfl ?_
  refine x_lmul (pc := 77) K dX0_missAbove_77 ?_
  refine x_lsub (pc := 78) K dX0_missAbove_78 ?_
  exact ret (pc := 79) dX0_missAbove_79 (⟨rfl, rfl, rfl⟩)

set_option maxHeartbeats 1000000 in
set_option maxRecDepth 100000 in
theorem c_X0_missAbove21 (l : Launch) (G : hQ) (I : hI) (J : hJ) (hk : I 55 4 = nI 2) : h_Ml l yX0_missAbove wsX0_missAbove 2 55 G [rr G 55, .int 1] I J (fun ρ I' J' => spr I J 1 1 * spr I J (1 + 2) (1 + 2) - spr I J 1 (1 + 2) * spr I J 1 (1 + 2) = ρ ∧ I = I' ∧ J = J') := by
  refine h_Ml.of (cc := cX0_missAbove) (maxL := 4) [(0, rr G 55), (1, .int 1)] (by decide +kernel) rfl (Nat.le_of_ble_eq_true rfl) rfl ?_
  intro Γ K ret
  have i_X0 : ∀ w ∈ u_ws RX0 TX0 7, w ∈ wsX0_missAbove := by decide +kernel
  refine x_aload_n (pc := 0) K 0 dX0_missAbove_0 rfl rfl ?_
  refine x_geti (pc := 1) (index := 27) (C := RX0) (T := TX0) (N := 7) (j0 := 4) (ref := "OldMap$Bend") K (by decide) sh_55 rfl i_X0 (by decide) (by decide +kernel) rfl rfl dX0_missAbove_1 ?_
  refine x_topie (nI 2) hk ?_
  refine x_lookup (pc := 4) (tgt := 49) (off := 45) K dX0_missAbove_4 (by decide) (by decide) (by decide) ?_
  refine x_aload_n (pc := 49) K 0 dX0_missAbove_49 rfl rfl ?_
  refine x_iload_n (pc := 50) K 1 dX0_missAbove_50 rfl rfl ?_
  refine x_iload_n (pc := 51) K 1 dX0_missAbove_51 rfl rfl ?_
  refine x_iconst (pc := 52) (v := 2) K dX0_missAbove_52 (by decide) ?_
  refine x_iadd (pc := 53) K dX0_missAbove_53 ?_
  refine x_calllV (pc := 54) (st := []) (n := 2) K (by decide) sh_55 rfl (c_X0_spread l G _ _ 1 (1 + 2) (by omega) (by omega)) gX0_missAbove_X0_spread (by decide +kernel) rfl (by decide) (by decide) rfl rfl (Nat.le_of_ble_eq_true rfl) dX0_missAbove_54 (fun r_54 I_54 J_54 hp_54 => ?_)
  obtain ⟨rfl, rfl, rfl⟩ := hp_54
  refine x_lstore_n (pc := 57) (lo' := [(2, _), (0, _), (1, _)]) K dX0_missAbove_57 rfl (by decide) rfl ?_
  refine x_aload_n (pc := 58) K 1 dX0_missAbove_58 rfl rfl ?_
  refine x_iload_n (pc := 59) K 2 dX0_missAbove_59 rfl rfl ?_
  refine x_iload_n (pc := 60) K 2 dX0_missAbove_60 rfl rfl ?_
  refine x_calllV (pc := 61) (st := []) (n := 2) K (by decide) sh_55 rfl (c_X0_spread l G _ _ 1 1 (by omega) (by omega)) gX0_missAbove_X0_spread (by decide +kernel) rfl (by decide) (by decide) rfl rfl (Nat.le_of_ble_eq_true rfl) dX0_missAbove_61 (fun r_61 I_61 J_61 hp_61 => ?_)
  obtain ⟨rfl, rfl, rfl⟩ := hp_61
  refine x_aload_n (pc := 64) K 1 dX0_missAbove_64 rfl rfl ?_
  refine x_iload_n (pc := 65) K 2 dX0_missAbove_65 rfl rfl ?_
  refine x_iconst (pc := 66) (v := 2) K dX0_missAbove_66 (by decide) ?_
  refine x_iadd (pc := 67) K dX0_missAbove_67 ?_
  refine x_iload_n (pc := 68) K 2 dX0_missAbove_68 rfl rfl ?_
  refine x_iconst (pc := 69) (v := 2) K dX0_missAbove_69 (by decide) ?_
  refine x_iadd (pc := 70) K dX0_missAbove_70 ?_
  refine x_calllV (pc := 71) (st := [_]) (n := 2) K (by decide) sh_55 rfl (c_X0_spread l G _ _ (1 + 2) (1 + 2) (by omega) (by omega)) gX0_missAbove_X0_spread (by decide +kernel) rfl (by decide) (by decide) rfl rfl (Nat.le_of_ble_eq_true rfl) dX0_missAbove_71 (fun r_71 I_71 J_71 hp_71 => ?_)
  obtain ⟨rfl, rfl, rfl⟩ := hp_71
  refine x_lmul (pc := 74) K dX0_missAbove_74 ?_
  refine x_lload_n (pc := 75) K 0 dX0_missAbove_75 rfl rfl ?_
  refine x_lload_n (pc := 76) K 0 dX0_missAbove_76 rfl rfl ?_
  refine x_lmul (pc := 77) K dX0_missAbove_77 ?_
  refine x_lsub (pc := 78) K dX0_missAbove_78 ?_
  exact ret (pc := 79) dX0_missAbove_79 (⟨rfl, rfl, rfl⟩)

