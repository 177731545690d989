/-! the reference's face: matches -/
def bfW (I : hI) (n kd : Nat) (no nn : Nat) : Int64 × Nat := bfold (costW I n kd (cM I n) no nn) ((nn + 1) ^ no)
def bdW (I : hI) (n kd : Nat) (no nn : Nat) (i : Nat) : Nat := dg (nn + 1) no (bfW I n kd no nn).2 i
def uM (f : Nat → Nat) : Nat → Int32
  | 0 => 0
  | i + 1 => uM f i ||| (1 <<< (nI (f i) &&& 31))
set_option maxHeartbeats 1000000 in
set_option maxRecDepth 100000 in
theorem c_X8_match (l : Launch) (G : hQ) (I : hI) (J : hJ) (k p : Int32) (n : Nat) (hn : I 76 0 = nI n) (h12 : n ≤ 12) (no : Nat) (ho : I 81 0 = nI no) (h60 : no ≤ 6) (nn : Nat) (hnn : I 81 1 = nI nn) (h6 : nn ≤ 6) (hz : ∀ kd, kd < 3 → okM I n kd (cM I n) → ¬ 2 * MW I n kd (cM I n) 19 = 0 ∧ ¬ 2 * MW I n kd (cM I n) 23 = 0) (hb : ∀ kd, kd < 3 → okM I n kd (cM I n) → 0 ≤ (bfW I n kd no nn).1) : h_Mi l yX8_match wsX8_match 5 125 G [rr G 76, .int k, .int p] I J (fun ρ I' J' => (if isKd k ∧ (0 ≤ p ∧ p < I 81 0) then (if okM I n (tn k) (cM I n) then (if bdW I n (tn k) no nn (tn p) < nn then nI (bdW I n (tn k) no nn (tn p)) else -5) else -3) else -1) = ρ ∧ (∀ c, c ≠ 89 → c ≠ 90 → I' c = I c) ∧ ∀ c, c ≠ 76 → c ≠ 88 → J' c = J c) := by
  refine h_Mi.of (ty := .int) (cc := cX8_match) (maxL := 3) [(0, rr G 76), (1, .int k), (2, .int p)] (by decide +kernel) rfl (Nat.le_of_ble_eq_true rfl) rfl ?_
  intro Γ K ret
  have i_X8 : ∀ w ∈ u_ws RX8 TX8 36, w ∈ wsX8_match := by decide +kernel
  refine x_iload_n (pc := 0) K 1 dX8_match_0 rfl rfl ?_
  refine x_calliS (pc := 1) (st := []) (n := 1) K (c_X8_isKind l G _ _ _) gX8_match_X8_isKind (by decide +kernel) rfl (by decide) (by decide) rfl rfl (Nat.le_of_ble_eq_true rfl) dX8_match_1 (fun r_1 I_1 J_1 hp_1 => ?_)
  obtain ⟨rfl, rfl, rfl⟩ := hp_1
  refine x_if_eq (pc := 4) (tgt := 23) K dX8_match_4 (by decide) (fun c_4 => ?_) (fun c_4 => ?_)
  · replace c_4 := bz_0.mp c_4
    refine x_iconst (pc := 23) (v := -1) K dX8_match_23 (by decide) ?_
    exact ret (pc := 24) dX8_match_24 (⟨if_neg (fun h => c_4 h.1), fun _ _ _ => rfl, fun _ _ _ => rfl⟩) rfl
  · replace c_4 := bz_n0.mp c_4
    obtain ⟨kd, hkd, rfl⟩ := kd_of c_4
    refine x_iload_n (pc := 7) K 2 dX8_match_7 rfl rfl ?_
    refine x_iconst (pc := 8) (v := 0) K dX8_match_8 (by decide) ?_
    refine x_aload_n (pc := 9) K 0 dX8_match_9 rfl rfl ?_
    refine x_getr (r0 := 81) (pc := 10) (index := 23) (C := RX8) (T := TX8) (N := 36) (j0 := 6) (ref := "OldMapModel") K (by decide) sh_76 rfl i_X8 (by decide) (by decide +kernel) rfl rfl rf_76_6 dX8_match_10 ?_
    refine x_iconst (pc := 13) (v := 0) K dX8_match_13 (by decide) ?_
    refine y_iald (j := 0) (pc := 14) K (by decide) sh_81 rfl (by omega) (by decide) dX8_match_14 ?_
    refine x_topie (nI no) ho ?_
    refine x_iconst (pc := 15) (v := 1) K dX8_match_15 (by decide) ?_
    refine x_isub (pc := 16) K dX8_match_16 ?_
    refine x_calliS (pc := 17) (st := []) (n := 3) K (c_X8_in l G _ _ _ _ _) gX8_match_X8_in (by decide +kernel) rfl (by decide) (by decide) rfl rfl (Nat.le_of_ble_eq_true rfl) dX8_match_17 (fun r_17 I_17 J_17 hp_17 => ?_)
    obtain ⟨rfl, rfl, rfl⟩ := hp_17
    refine x_if_ne (pc := 20) (tgt := 25) K dX8_match_20 (by decide) (fun c_20 => ?_) (fun c_20 => ?_)
    · replace c_20 := bz_n0.mp c_20
      obtain ⟨q, hq, rfl⟩ := has_of (x := p) ⟨c_20.1, (lt_pred (show no < 2 ^ 31 by omega)).mp c_20.2⟩ rfl (by omega)
      refine x_aload_n (pc := 25) K 0 dX8_match_25 rfl rfl ?_
      refine x_iload_n (pc := 26) K 1 dX8_match_26 rfl rfl ?_
      refine x_calliV (pc := 27) (st := []) (n := 1) K (by decide) sh_76 rfl (c_X8_findMatch l G _ _ kd (by omega) n hn h12 no ho h60 nn hnn h6 (hz kd hkd)) gX8_match_X8_findMatch (by decide +kernel) rfl (by decide) (by decide) rfl rfl (Nat.le_of_ble_eq_true rfl) dX8_match_27 (fun r_27 I_27 J_27 hp_27 => ?_)
      obtain ⟨rfl, hI_27, hJ_27, hM_27⟩ := hp_27
      refine x_if_ne (pc := 30) (tgt := 36) K dX8_match_30 (by decide) (fun c_30 => ?_) (fun c_30 => ?_)
      · replace c_30 := bz_n0.mp c_30
        have hM := hM_27 c_30
        have hbd : bdW I n kd no nn q < nn + 1 := dg_lt (by omega)
        refine x_aload_n (pc := 36) K 0 dX8_match_36 rfl rfl ?_
        refine x_getr (r0 := 90) (pc := 37) (index := 58) (C := RX8) (T := TX8) (N := 36) (j0 := 34) (ref := "OldMapModel") K (by decide) sh_76 rfl i_X8 (by decide) (by decide +kernel) rfl rfl rf_76_34 dX8_match_37 ?_
        refine x_iload_n (pc := 40) K 2 dX8_match_40 rfl rfl ?_
        refine y_iald (j := q) (pc := 41) K (by decide) sh_90 rfl (by omega) (by decide) dX8_match_41 ?_
        refine x_topie (nI (bdW I n kd no nn q)) (hM.2 (hb kd hkd c_30) q (by omega)) ?_
        refine x_aload_n (pc := 42) K 0 dX8_match_42 rfl rfl ?_
        refine x_getr (r0 := 81) (pc := 43) (index := 23) (C := RX8) (T := TX8) (N := 36) (j0 := 6) (ref := "OldMapModel") K (by decide) sh_76 rfl i_X8 (by decide) (by decide +kernel) rfl rfl rf_76_6 dX8_match_43 ?_
        refine x_iconst (pc := 46) (v := 1) K dX8_match_46 (by decide) ?_
        refine y_iald (j := 1) (pc := 47) K (by decide) sh_81 rfl (by omega) (by decide) dX8_match_47 ?_
        refine x_topie (nI nn) ((congrFun (hI_27 81 (by decide) (by decide)) 1).trans hnn) ?_
        refine x_icmp_ge (pc := 48) (tgt := 60) K dX8_match_48 (by decide) (fun c_48 => ?_) (fun c_48 => ?_)
        · replace c_48 := cI_le (a := nn) (b := (bdW I n kd no nn q)) rfl rfl (by omega) (by omega) c_48
          refine x_bipush (pc := 60) (v := -5) K dX8_match_60 (by decide) ?_
          exact ret (pc := 62) dX8_match_62 (⟨by rw [if_pos ⟨c_4, by rw [ho]; exact ⟨c_20.1, (lt_pred (show no < 2 ^ 31 by omega)).mp c_20.2⟩⟩, tn_n (by omega), tn_n (by omega), if_pos c_30, if_neg (by omega)], hI_27, hJ_27⟩) rfl
        · replace c_48 := cI_nle (a := nn) (b := (bdW I n kd no nn q)) rfl rfl (by omega) (by omega) c_48
          refine x_aload_n (pc := 51) K 0 dX8_match_51 rfl rfl ?_
          refine x_getr (r0 := 90) (pc := 52) (index := 58) (C := RX8) (T := TX8) (N := 36) (j0 := 34) (ref := "OldMapModel") K (by decide) sh_76 rfl i_X8 (by decide) (by decide +kernel) rfl rfl rf_76_34 dX8_match_52 ?_
          refine x_iload_n (pc := 55) K 2 dX8_match_55 rfl rfl ?_
          refine y_iald (j := q) (pc := 56) K (by decide) sh_90 rfl (by omega) (by decide) dX8_match_56 ?_
          refine x_topie (nI (bdW I n kd no nn q)) (hM.2 (hb kd hkd c_30) q (by omega)) ?_
          refine x_goto (pc := 57) (tgt := 62) K dX8_match_57 (by decide) ?_
          exact ret (pc := 62) dX8_match_62 (⟨by rw [if_pos ⟨c_4, by rw [ho]; exact ⟨c_20.1, (lt_pred (show no < 2 ^ 31 by omega)).mp c_20.2⟩⟩, tn_n (by omega), tn_n (by omega), if_pos c_30, if_pos (by omega)], hI_27, hJ_27⟩) rfl
      · replace c_30 := bz_0.mp c_30
        refine x_bipush (pc := 33) (v := -3) K dX8_match_33 (by decide) ?_
        exact ret (pc := 35) dX8_match_35 (⟨by rw [if_pos ⟨c_4, by rw [ho]; exact ⟨c_20.1, (lt_pred (show no < 2 ^ 31 by omega)).mp c_20.2⟩⟩, tn_n (by omega), if_neg c_30], hI_27, hJ_27⟩) rfl
    · replace c_20 := bz_0.mp c_20
      refine x_iconst (pc := 23) (v := -1) K dX8_match_23 (by decide) ?_
      exact ret (pc := 24) dX8_match_24 (⟨if_neg (fun h => c_20 (by have q := h.2; rw [ho] at q; exact ⟨q.1, (lt_pred (by omega)).mpr q.2⟩)), fun _ _ _ => rfl, fun _ _ _ => rfl⟩) rfl

set_option maxHeartbeats 1000000 in
set_option maxRecDepth 100000 in
theorem c_X8_cost (l : Launch) (G : hQ) (I : hI) (J : hJ) (k : Int32) (n : Nat) (hn : I 76 0 = nI n) (h12 : n ≤ 12) (no : Nat) (ho : I 81 0 = nI no) (h60 : no ≤ 6) (nn : Nat) (hnn : I 81 1 = nI nn) (h6 : nn ≤ 6) (hz : ∀ kd, kd < 3 → okM I n kd (cM I n) → ¬ 2 * MW I n kd (cM I n) 19 = 0 ∧ ¬ 2 * MW I n kd (cM I n) 23 = 0) (hb : ∀ kd, kd < 3 → okM I n kd (cM I n) → 0 ≤ (bfW I n kd no nn).1) : h_Mi l yX8_cost wsX8_cost 5 125 G [rr G 76, .int k] I J (fun ρ I' J' => (if isKd k then (if okM I n (tn k) (cM I n) then (bfW I n (tn k) no nn).1.toInt32 else -3) else -1) = ρ ∧ (∀ c, c ≠ 89 → c ≠ 90 → I' c = I c) ∧ ∀ c, c ≠ 76 → c ≠ 88 → J' c = J c) := by
  refine h_Mi.of (ty := .int) (cc := cX8_cost) (maxL := 2) [(0, rr G 76), (1, .int k)] (by decide +kernel) rfl (Nat.le_of_ble_eq_true rfl) rfl ?_
  intro Γ K ret
  have i_X8 : ∀ w ∈ u_ws RX8 TX8 36, w ∈ wsX8_cost := by decide +kernel
  refine x_iload_n (pc := 0) K 1 dX8_cost_0 rfl rfl ?_
  refine x_calliS (pc := 1) (st := []) (n := 1) K (c_X8_isKind l G _ _ _) gX8_cost_X8_isKind (by decide +kernel) rfl (by decide) (by decide) rfl rfl (Nat.le_of_ble_eq_true rfl) dX8_cost_1 (fun r_1 I_1 J_1 hp_1 => ?_)
  obtain ⟨rfl, rfl, rfl⟩ := hp_1
  refine x_if_ne (pc := 4) (tgt := 9) K dX8_cost_4 (by decide) (fun c_4 => ?_) (fun c_4 => ?_)
  · replace c_4 := bz_n0.mp c_4
    obtain ⟨kd, hkd, rfl⟩ := kd_of c_4
    refine x_aload_n (pc := 9) K 0 dX8_cost_9 rfl rfl ?_
    refine x_iload_n (pc := 10) K 1 dX8_cost_10 rfl rfl ?_
    refine x_calliV (pc := 11) (st := []) (n := 1) K (by decide) sh_76 rfl (c_X8_findMatch l G _ _ kd (by omega) n hn h12 no ho h60 nn hnn h6 (hz kd hkd)) gX8_cost_X8_findMatch (by decide +kernel) rfl (by decide) (by decide) rfl rfl (Nat.le_of_ble_eq_true rfl) dX8_cost_11 (fun r_11 I_11 J_11 hp_11 => ?_)
    obtain ⟨rfl, hI_11, hJ_11, hM_11⟩ := hp_11
    refine x_if_eq (pc := 14) (tgt := 25) K dX8_cost_14 (by decide) (fun c_14 => ?_) (fun c_14 => ?_)
    · replace c_14 := bz_0.mp c_14
      refine x_bipush (pc := 25) (v := -3) K dX8_cost_25 (by decide) ?_
      exact ret (pc := 27) dX8_cost_27 (⟨by rw [if_pos c_4, tn_n (by omega), if_neg c_14], hI_11, hJ_11⟩) rfl
    · replace c_14 := bz_n0.mp c_14
      refine x_aload_n (pc := 17) K 0 dX8_cost_17 rfl rfl ?_
      refine x_getl (pc := 18) (index := 232) (C := RX8) (T := TX8) (N := 36) (j0 := 35) (ref := "OldMapModel") K (by decide) sh_76 rfl i_X8 (by decide) (by decide +kernel) rfl rfl dX8_cost_18 ?_
      refine x_l2i (pc := 21) K dX8_cost_21 ?_
      refine x_goto (pc := 22) (tgt := 27) K dX8_cost_22 (by decide) ?_
      exact ret (pc := 27) dX8_cost_27 (⟨by rw [if_pos c_4, tn_n (by omega), if_pos c_14, (hM_11 c_14).1]; rfl, hI_11, hJ_11⟩) rfl
  · replace c_4 := bz_0.mp c_4
    refine x_iconst (pc := 7) (v := -1) K dX8_cost_7 (by decide) ?_
    exact ret (pc := 8) dX8_cost_8 (⟨if_neg c_4, fun _ _ _ => rfl, fun _ _ _ => rfl⟩) rfl

set_option maxHeartbeats 1000000 in
set_option maxRecDepth 100000 in
theorem c_X8_left (l : Launch) (G : hQ) (I : hI) (J : hJ) (k : Int32) (n : Nat) (hn : I 76 0 = nI n) (h12 : n ≤ 12) (no : Nat) (ho : I 81 0 = nI no) (h60 : no ≤ 6) (nn : Nat) (hnn : I 81 1 = nI nn) (h6 : nn ≤ 6) (hz : ∀ kd, kd < 3 → okM I n kd (cM I n) → ¬ 2 * MW I n kd (cM I n) 19 = 0 ∧ ¬ 2 * MW I n kd (cM I n) 23 = 0) (hb : ∀ kd, kd < 3 → okM I n kd (cM I n) → 0 ≤ (bfW I n kd no nn).1) : h_Mi l yX8_left wsX8_left 5 125 G [rr G 76, .int k] I J (fun ρ I' J' => (if isKd k then (if okM I n (tn k) (cM I n) then fstI (fun q => uM (bdW I n (tn k) no nn) no >>> (nI q &&& 31) &&& 1 = 0) 0 nn else -3) else -1) = ρ ∧ (∀ c, c ≠ 89 → c ≠ 90 → I' c = I c) ∧ ∀ c, c ≠ 76 → c ≠ 88 → J' c = J c) := by
  refine h_Mi.of (ty := .int) (cc := cX8_left) (maxL := 4) [(0, rr G 76), (1, .int k)] (by decide +kernel) rfl (Nat.le_of_ble_eq_true rfl) rfl ?_
  intro Γ K ret
  have i_X8 : ∀ w ∈ u_ws RX8 TX8 36, w ∈ wsX8_left := by decide +kernel
  refine x_iload_n (pc := 0) K 1 dX8_left_0 rfl rfl ?_
  refine x_calliS (pc := 1) (st := []) (n := 1) K (c_X8_isKind l G _ _ _) gX8_left_X8_isKind (by decide +kernel) rfl (by decide) (by decide) rfl rfl (Nat.le_of_ble_eq_true rfl) dX8_left_1 (fun r_1 I_1 J_1 hp_1 => ?_)
  obtain ⟨rfl, rfl, rfl⟩ := hp_1
  refine x_if_ne (pc := 4) (tgt := 9) K dX8_left_4 (by decide) (fun c_4 => ?_) (fun c_4 => ?_)
  · replace c_4 := bz_n0.mp c_4
    obtain ⟨kd, hkd, rfl⟩ := kd_of c_4
    refine x_aload_n (pc := 9) K 0 dX8_left_9 rfl rfl ?_
    refine x_iload_n (pc := 10) K 1 dX8_left_10 rfl rfl ?_
    refine x_calliV (pc := 11) (st := []) (n := 1) K (by decide) sh_76 rfl (c_X8_findMatch l G _ _ kd (by omega) n hn h12 no ho h60 nn hnn h6 (hz kd hkd)) gX8_left_X8_findMatch (by decide +kernel) rfl (by decide) (by decide) rfl rfl (Nat.le_of_ble_eq_true rfl) dX8_left_11 (fun r_11 I_11 J_11 hp_11 => ?_)
    obtain ⟨rfl, hI_11, hJ_11, hM_11⟩ := hp_11
    refine x_if_ne (pc := 14) (tgt := 20) K dX8_left_14 (by decide) (fun c_14 => ?_) (fun c_14 => ?_)
    · replace c_14 := bz_n0.mp c_14
      have hM := hM_11 c_14
      have second : ∀ q, q ≤ nn → (fstI (fun q => (uM (bdW I n kd no nn) no) >>> (nI q &&& 31) &&& 1 = 0) 0 nn = fstI (fun q => (uM (bdW I n kd no nn) no) >>> (nI q &&& 31) &&& 1 = 0) q (nn - q)) → h_WW Γ G 53 [(3, .int (nI q)), (2, .int (uM (bdW I n kd no nn) no)), (0, rr G 76)] [] I_11 J_11 := by
        refine loopU nn (fun q hk ih => ?_)
        intro hi
        refine x_iload_n (pc := 53) K 0 dX8_left_53 rfl rfl ?_
        refine x_aload_n (pc := 54) K 2 dX8_left_54 rfl rfl ?_
        refine x_getr (r0 := 81) (pc := 55) (index := 23) (C := RX8) (T := TX8) (N := 36) (j0 := 6) (ref := "OldMapModel") K (by decide) sh_76 rfl i_X8 (by decide) (by decide +kernel) rfl rfl rf_76_6 dX8_left_55 ?_
        refine x_iconst (pc := 58) (v := 1) K dX8_left_58 (by decide) ?_
        refine y_iald (j := 1) (pc := 59) K (by decide) sh_81 rfl (by omega) (by decide) dX8_left_59 ?_
        refine x_topie (nI nn) ((congrFun (hI_11 81 (by decide) (by decide)) 1).trans hnn) ?_
        refine x_icmp_ge (pc := 60) (tgt := 79) K dX8_left_60 (by decide) (fun c_60 => ?_) (fun c_60 => ?_)
        · replace c_60 := cI_le (a := nn) (b := q) rfl rfl (by omega) (by omega) c_60
          refine x_bipush (pc := 79) (v := -5) K dX8_left_79 (by decide) ?_
          exact ret (pc := 81) dX8_left_81 (⟨by rw [if_pos c_4, tn_n (by omega), if_pos c_14, hi, fstI_e (by omega)], hI_11, hJ_11⟩) rfl
        · replace c_60 := cI_nle (a := nn) (b := q) rfl rfl (by omega) (by omega) c_60
          refine x_iload_n (pc := 63) K 1 dX8_left_63 rfl rfl ?_
          refine x_iload_n (pc := 64) K 0 dX8_left_64 rfl rfl ?_
          refine x_ishr (pc := 65) K dX8_left_65 ?_
          refine x_iconst (pc := 66) (v := 1) K dX8_left_66 (by decide) ?_
          refine x_iand (pc := 67) K dX8_left_67 ?_
          refine x_if_ne (pc := 68) (tgt := 73) K dX8_left_68 (by decide) (fun c_68 => ?_) (fun c_68 => ?_)
          · refine x_iinc (pc := 73) (q0 := 0) (v := nI (q + 1)) (lo' := [(3, _), (2, _), (0, _)]) K dX8_left_73 rfl (nI_incE rfl) (by decide) rfl ?_
            refine x_goto (pc := 76) (tgt := 53) K dX8_left_76 (by decide) ?_
            refine x_lo (lo' := [(3, _), (2, _), (0, _)]) [0, 1, 2] rfl ?_
            exact x_loe (by rfl) (ih (by omega) (by rw [hi, fstI_f (by omega) c_68]))
          · refine x_iload_n (pc := 71) K 0 dX8_left_71 rfl rfl ?_
            exact ret (pc := 72) dX8_left_72 (⟨by rw [if_pos c_4, tn_n (by omega), if_pos c_14, hi, fstI_t (by omega) c_68], hI_11, hJ_11⟩) rfl
      have first : ∀ i, i ≤ no → h_WW Γ G 24 [(3, .int (nI i)), (2, .int (uM (bdW I n kd no nn) i)), (0, rr G 76)] [] I_11 J_11 := by
        refine loopU no (fun i hk ih => ?_)
        refine x_iload_n (pc := 24) K 0 dX8_left_24 rfl rfl ?_
        refine x_aload_n (pc := 25) K 2 dX8_left_25 rfl rfl ?_
        refine x_getr (r0 := 81) (pc := 26) (index := 23) (C := RX8) (T := TX8) (N := 36) (j0 := 6) (ref := "OldMapModel") K (by decide) sh_76 rfl i_X8 (by decide) (by decide +kernel) rfl rfl rf_76_6 dX8_left_26 ?_
        refine x_iconst (pc := 29) (v := 0) K dX8_left_29 (by decide) ?_
        refine y_iald (j := 0) (pc := 30) K (by decide) sh_81 rfl (by omega) (by decide) dX8_left_30 ?_
        refine x_topie (nI no) ((congrFun (hI_11 81 (by decide) (by decide)) 0).trans ho) ?_
        refine x_icmp_ge (pc := 31) (tgt := 51) K dX8_left_31 (by decide) (fun c_31 => ?_) (fun c_31 => ?_)
        · replace c_31 := cI_le (a := no) (b := i) rfl rfl (by omega) (by omega) c_31
          refine x_iconst (pc := 51) (v := 0) K dX8_left_51 (by decide) ?_
          refine x_istore_n (pc := 52) (lo' := [(3, _), (2, _), (0, _)]) K dX8_left_52 rfl (by decide) rfl ?_
          refine x_lo (lo' := [(3, _), (2, _), (0, _)]) [0, 1, 2] rfl ?_
          exact x_loe (by rw [show i = no by omega, nI_0]) (second 0 (Nat.zero_le _) rfl)
        · replace c_31 := cI_nle (a := no) (b := i) rfl rfl (by omega) (by omega) c_31
          refine x_iload_n (pc := 34) K 1 dX8_left_34 rfl rfl ?_
          refine x_iconst (pc := 35) (v := 1) K dX8_left_35 (by decide) ?_
          refine x_aload_n (pc := 36) K 2 dX8_left_36 rfl rfl ?_
          refine x_getr (r0 := 90) (pc := 37) (index := 58) (C := RX8) (T := TX8) (N := 36) (j0 := 34) (ref := "OldMapModel") K (by decide) sh_76 rfl i_X8 (by decide) (by decide +kernel) rfl rfl rf_76_34 dX8_left_37 ?_
          refine x_iload_n (pc := 40) K 0 dX8_left_40 rfl rfl ?_
          refine y_iald (j := i) (pc := 41) K (by decide) sh_90 rfl (by omega) (by decide) dX8_left_41 ?_
          refine x_topie (nI (bdW I n kd no nn i)) (hM.2 (hb kd hkd c_14) i (by omega)) ?_
          refine x_ishl (pc := 42) K dX8_left_42 ?_
          refine x_ior (pc := 43) K dX8_left_43 ?_
          refine x_istore_n (pc := 44) (lo' := [(2, _), (3, _), (0, _)]) K dX8_left_44 rfl (by decide) rfl ?_
          refine x_iinc (pc := 45) (q0 := 1) (v := nI (i + 1)) (lo' := [(3, _), (2, _), (0, _)]) K dX8_left_45 rfl (nI_incE rfl) (by decide) rfl ?_
          refine x_goto (pc := 48) (tgt := 24) K dX8_left_48 (by decide) ?_
          refine x_lo (lo' := [(3, _), (2, _), (0, _)]) [0, 1, 2] rfl ?_
          exact x_loe (by rfl) (ih (by omega))
      refine x_iconst (pc := 20) (v := 0) K dX8_left_20 (by decide) ?_
      refine x_istore_n (pc := 21) (lo' := [(2, _), (0, _), (1, _)]) K dX8_left_21 rfl (by decide) rfl ?_
      refine x_iconst (pc := 22) (v := 0) K dX8_left_22 (by decide) ?_
      refine x_istore_n (pc := 23) (lo' := [(3, _), (2, _), (0, _), (1, _)]) K dX8_left_23 rfl (by decide) rfl ?_
      refine x_lo (lo' := [(3, _), (2, _), (0, _)]) [0, 1, 2] rfl ?_
      exact first 0 (Nat.zero_le _)
    · replace c_14 := bz_0.mp c_14
      refine x_bipush (pc := 17) (v := -3) K dX8_left_17 (by decide) ?_
      exact ret (pc := 19) dX8_left_19 (⟨by rw [if_pos c_4, tn_n (by omega), if_neg c_14], hI_11, hJ_11⟩) rfl
  · replace c_4 := bz_0.mp c_4
    refine x_iconst (pc := 7) (v := -1) K dX8_left_7 (by decide) ?_
    exact ret (pc := 8) dX8_left_8 (⟨if_neg c_4, fun _ _ _ => rfl, fun _ _ _ => rfl⟩) rfl

