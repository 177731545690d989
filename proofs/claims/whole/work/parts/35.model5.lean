/-! the reference's face: drop, rule, points -/
def drI (I : hI) (y : Int32) (p : Nat) : Int32 := if ¬ I 79 p = 0 ∧ y >>> (nI p &&& 31) &&& 1 = 0 then 1 else 0
abbrev drV (I I1 : hI) (y : Int32) (k : Nat) : Prop := (∀ c, c ≠ 79 → I1 c = I c) ∧ (∀ p, p < k → I1 79 p = drI I y p) ∧ ∀ p, k ≤ p → I1 79 p = I 79 p
theorem dr_step {I I1 : hI} {y v : Int32} {k : Nat} (h : drV I I1 y k) (hv : v = drI I y k) : drV I (h_up I1 79 k v) y (k + 1) := by
  refine ⟨fun c hc => by rw [h_up_ne hc, h.1 c hc], fun p hp => ?_, fun p hp => ?_⟩
  · by_cases e : p = k
    · subst e; simp [h_up, hv]
    · simp only [h_up, e, and_false, if_false]; exact h.2.1 p (by omega)
  · have e : ¬ p = k := by omega
    simp only [h_up, e, and_false, if_false]; exact h.2.2 p (by omega)
def addPM (I : hI) (n : Nat) (x y X Y : Int32) : hI := h_up (h_up (h_up (h_up (h_up (h_up (h_up I 77 (4 * n) x) 77 (4 * n + 1) y) 77 (4 * n + 2) X) 77 (4 * n + 3) Y) 78 n 1) 79 n 1) 76 0 (nI n + 1)
def placeM (I : hI) (p m : Nat) (x y : Int32) : hI := h_up (h_up I 77 (4 * p + 2 * m) x) 77 (4 * p + 2 * m + 1) y
set_option maxHeartbeats 1000000 in
set_option maxRecDepth 100000 in
theorem c_X8_drop (l : Launch) (G : hQ) (I : hI) (J : hJ) (k : Int32) (n : Nat) (hn : I 76 0 = nI n) (h12 : n ≤ 12) (s : Nat) (hs : cM I n = nI s) (h4 : s < 4096) : h_Mi l yX8_drop wsX8_drop 5 124 G [rr G 76, .int k] I J (fun ρ I' J' => (if 0 ≤ lyM I n s k then mof (lyM I n s k) else lyM I n s k) = ρ ∧ (∀ c, c ≠ 79 → I' c = I c) ∧ (∀ p, p < n → I' 79 p = if 0 ≤ lyM I n s k then drI I (lyM I n s k) p else I 79 p) ∧ ∀ c, c ≠ 76 → J' c = J c) := by
  refine h_Mi.of (ty := .int) (cc := cX8_drop) (maxL := 4) [(0, rr G 76), (1, .int k)] (by decide +kernel) rfl (Nat.le_of_ble_eq_true rfl) rfl ?_
  intro Γ K ret
  have i_X8 : ∀ w ∈ u_ws RX8 TX8 36, w ∈ wsX8_drop := by decide +kernel
  refine x_aload_n (pc := 0) K 0 dX8_drop_0 rfl rfl ?_
  refine x_iload_n (pc := 1) K 1 dX8_drop_1 rfl rfl ?_
  refine x_calliV (pc := 2) (st := []) (n := 1) K (by decide) sh_76 rfl (c_X8_lying l G _ _ _ n hn h12 s hs h4) gX8_drop_X8_lying (by decide +kernel) rfl (by decide) (by decide) rfl rfl (Nat.le_of_ble_eq_true rfl) dX8_drop_2 (fun r_2 I_2 J_2 hp_2 => ?_)
  obtain ⟨rfl, rfl, hJ_2⟩ := hp_2
  refine x_istore_n (pc := 5) (lo' := [(2, _), (0, _), (1, _)]) K dX8_drop_5 rfl (by decide) rfl ?_
  refine x_iload_n (pc := 6) K 0 dX8_drop_6 rfl rfl ?_
  refine x_if_ge (pc := 7) (tgt := 12) K dX8_drop_7 (by decide) (fun c_7 => ?_) (fun c_7 => ?_)
  · skip
    have loop : ∀ q, q ≤ n → ∀ (I1 : hI), (drV I I1 (lyM I n s k) q) → h_WW Γ G 14 [(3, .int (nI q)), (0, rr G 76), (2, .int (lyM I n s k))] [] I1 J_2 := by
      refine loopU n (fun q hk ih => ?_)
      intro I1 h
      refine x_iload_n (pc := 14) K 0 dX8_drop_14 rfl rfl ?_
      refine x_aload_n (pc := 15) K 1 dX8_drop_15 rfl rfl ?_
      refine x_geti (pc := 16) (index := 65) (C := RX8) (T := TX8) (N := 36) (j0 := 0) (ref := "OldMapModel") K (by decide) sh_76 rfl i_X8 (by decide) (by decide +kernel) rfl rfl dX8_drop_16 ?_
      refine x_topie (nI n) ((congrFun (h.1 76 (by decide)) 0).trans hn) ?_
      refine x_icmp_ge (pc := 19) (tgt := 56) K dX8_drop_19 (by decide) (fun c_19 => ?_) (fun c_19 => ?_)
      · replace c_19 := cI_le (a := n) (b := q) rfl rfl (by omega) (by omega) c_19
        refine x_iload_n (pc := 56) K 2 dX8_drop_56 rfl rfl ?_
        refine x_calliS (pc := 57) (st := []) (n := 1) K (c_X8_manyOf l G _ _ _) gX8_drop_X8_manyOf (by decide +kernel) rfl (by decide) (by decide) rfl rfl (Nat.le_of_ble_eq_true rfl) dX8_drop_57 (fun r_57 I_57 J_57 hp_57 => ?_)
        obtain ⟨rfl, rfl, rfl⟩ := hp_57
        exact ret (pc := 60) dX8_drop_60 (⟨if_pos c_7, h.1, fun p hp => by rw [if_pos c_7]; exact h.2.1 p (by omega), hJ_2⟩) rfl
      · replace c_19 := cI_nle (a := n) (b := q) rfl rfl (by omega) (by omega) c_19
        refine x_aload_n (pc := 22) K 1 dX8_drop_22 rfl rfl ?_
        refine x_getr (r0 := 79) (pc := 23) (index := 17) (C := RX8) (T := TX8) (N := 36) (j0 := 3) (ref := "OldMapModel") K (by decide) sh_76 rfl i_X8 (by decide) (by decide +kernel) rfl rfl rf_76_3 dX8_drop_23 ?_
        refine x_iload_n (pc := 26) K 0 dX8_drop_26 rfl rfl ?_
        refine x_aload_n (pc := 27) K 1 dX8_drop_27 rfl rfl ?_
        refine x_getr (r0 := 79) (pc := 28) (index := 17) (C := RX8) (T := TX8) (N := 36) (j0 := 3) (ref := "OldMapModel") K (by decide) sh_76 rfl i_X8 (by decide) (by decide +kernel) rfl rfl rf_76_3 dX8_drop_28 ?_
        refine x_iload_n (pc := 31) K 0 dX8_drop_31 rfl rfl ?_
        refine y_zald (j := q) (pc := 32) K (by decide) sh_79 rfl (by omega) (by decide) dX8_drop_32 ?_
        refine x_topie (I 79 q) (h.2.2 q (Nat.le_refl q)) ?_
        refine x_if_eq (pc := 33) (tgt := 48) K dX8_drop_33 (by decide) (fun c_33 => ?_) (fun c_33 => ?_)
        · refine x_iconst (pc := 48) (v := 0) K dX8_drop_48 (by decide) ?_
          refine y_zast (j := q) (pc := 49) K (by decide) sh_79 rfl (by omega) (by decide) rfl dX8_drop_49 ?_
          refine x_iinc (pc := 50) (q0 := 0) (v := nI (q + 1)) (lo' := [(3, _), (0, _), (2, _)]) K dX8_drop_50 rfl (nI_incE rfl) (by decide) rfl ?_
          refine x_goto (pc := 53) (tgt := 14) K dX8_drop_53 (by decide) ?_
          refine x_lo (lo' := [(3, _), (0, _), (2, _)]) [0, 1, 2] rfl ?_
          exact x_loe (by rfl) (ih (by omega) _ (dr_step h (by rw [drI, if_neg (fun e => e.1 c_33)])))
        · refine x_iload_n (pc := 36) K 2 dX8_drop_36 rfl rfl ?_
          refine x_iload_n (pc := 37) K 0 dX8_drop_37 rfl rfl ?_
          refine x_ishr (pc := 38) K dX8_drop_38 ?_
          refine x_iconst (pc := 39) (v := 1) K dX8_drop_39 (by decide) ?_
          refine x_iand (pc := 40) K dX8_drop_40 ?_
          refine x_if_ne (pc := 41) (tgt := 48) K dX8_drop_41 (by decide) (fun c_41 => ?_) (fun c_41 => ?_)
          · refine x_iconst (pc := 48) (v := 0) K dX8_drop_48 (by decide) ?_
            refine y_zast (j := q) (pc := 49) K (by decide) sh_79 rfl (by omega) (by decide) rfl dX8_drop_49 ?_
            refine x_iinc (pc := 50) (q0 := 0) (v := nI (q + 1)) (lo' := [(3, _), (0, _), (2, _)]) K dX8_drop_50 rfl (nI_incE rfl) (by decide) rfl ?_
            refine x_goto (pc := 53) (tgt := 14) K dX8_drop_53 (by decide) ?_
            refine x_lo (lo' := [(3, _), (0, _), (2, _)]) [0, 1, 2] rfl ?_
            exact x_loe (by rfl) (ih (by omega) _ (dr_step h (by rw [drI, if_neg (fun e => c_41 e.2)])))
          · refine x_iconst (pc := 44) (v := 1) K dX8_drop_44 (by decide) ?_
            refine x_goto (pc := 45) (tgt := 49) K dX8_drop_45 (by decide) ?_
            refine y_zast (j := q) (pc := 49) K (by decide) sh_79 rfl (by omega) (by decide) rfl dX8_drop_49 ?_
            refine x_iinc (pc := 50) (q0 := 0) (v := nI (q + 1)) (lo' := [(3, _), (0, _), (2, _)]) K dX8_drop_50 rfl (nI_incE rfl) (by decide) rfl ?_
            refine x_goto (pc := 53) (tgt := 14) K dX8_drop_53 (by decide) ?_
            refine x_lo (lo' := [(3, _), (0, _), (2, _)]) [0, 1, 2] rfl ?_
            exact x_loe (by rfl) (ih (by omega) _ (dr_step h (by rw [drI, if_pos (And.intro c_33 c_41)])))
    refine x_iconst (pc := 12) (v := 0) K dX8_drop_12 (by decide) ?_
    refine x_istore_n (pc := 13) (lo' := [(3, _), (2, _), (0, _), (1, _)]) K dX8_drop_13 rfl (by decide) rfl ?_
    refine x_lo (lo' := [(3, _), (0, _), (2, _)]) [0, 2, 1] rfl ?_
    exact x_loe (by rfl) (loop 0 (Nat.zero_le _) I ⟨fun _ _ => rfl, fun p h => absurd h (by omega), fun _ _ => rfl⟩)
  · refine x_iload_n (pc := 10) K 0 dX8_drop_10 rfl rfl ?_
    exact ret (pc := 11) dX8_drop_11 (⟨if_neg c_7, fun _ _ => rfl, fun p _ => by rw [if_neg c_7], hJ_2⟩) rfl

set_option maxHeartbeats 1000000 in
set_option maxRecDepth 100000 in
theorem c_X8_rule (l : Launch) (G : hQ) (I : hI) (J : hJ) (w v : Int32) : h_Mi l yX8_rule wsX8_rule 1 22 G [rr G 76, .int w, .int v] I J (fun ρ I' J' => (if (0 ≤ w ∧ w ≤ 1) ∧ (0 ≤ v ∧ v ≤ (if w = 0 then 1000 else 2000)) then (if w = 0 then I 76 8 else I 76 9) else -1) = ρ ∧ (if (0 ≤ w ∧ w ≤ 1) ∧ (0 ≤ v ∧ v ≤ (if w = 0 then 1000 else 2000)) then h_up (h_up I 76 8 (if w = 0 then v else I 76 8)) 76 9 (if w = 1 then v else I 76 9) else I) = I' ∧ J = J') := by
  refine h_Mi.of (ty := .int) (cc := cX8_rule) (maxL := 4) [(0, rr G 76), (1, .int w), (2, .int v)] (by decide +kernel) rfl (Nat.le_of_ble_eq_true rfl) rfl ?_
  intro Γ K ret
  have i_X8 : ∀ w ∈ u_ws RX8 TX8 36, w ∈ wsX8_rule := by decide +kernel
  refine x_iload_n (pc := 0) K 1 dX8_rule_0 rfl rfl ?_
  refine x_iconst (pc := 1) (v := 0) K dX8_rule_1 (by decide) ?_
  refine x_iconst (pc := 2) (v := 1) K dX8_rule_2 (by decide) ?_
  refine x_calliS (pc := 3) (st := []) (n := 3) K (c_X8_in l G _ _ _ _ _) gX8_rule_X8_in (by decide +kernel) rfl (by decide) (by decide) rfl rfl (Nat.le_of_ble_eq_true rfl) dX8_rule_3 (fun r_3 I_3 J_3 hp_3 => ?_)
  obtain ⟨rfl, rfl, rfl⟩ := hp_3
  refine x_if_eq (pc := 6) (tgt := 30) K dX8_rule_6 (by decide) (fun c_6 => ?_) (fun c_6 => ?_)
  · replace c_6 := bz_0.mp c_6
    refine x_iconst (pc := 30) (v := -1) K dX8_rule_30 (by decide) ?_
    exact ret (pc := 31) dX8_rule_31 (⟨if_neg (fun h => c_6 h.1), if_neg (fun h => c_6 h.1), rfl⟩) rfl
  · replace c_6 := bz_n0.mp c_6
    refine x_iload_n (pc := 9) K 2 dX8_rule_9 rfl rfl ?_
    refine x_iconst (pc := 10) (v := 0) K dX8_rule_10 (by decide) ?_
    refine x_iload_n (pc := 11) K 1 dX8_rule_11 rfl rfl ?_
    refine x_if_ne (pc := 12) (tgt := 21) K dX8_rule_12 (by decide) (fun c_12 => ?_) (fun c_12 => ?_)
    · refine x_sipush (pc := 21) (v := 2000) K dX8_rule_21 (by decide) ?_
      refine x_calliS (pc := 24) (st := []) (n := 3) K (c_X8_in l G _ _ _ _ _) gX8_rule_X8_in (by decide +kernel) rfl (by decide) (by decide) rfl rfl (Nat.le_of_ble_eq_true rfl) dX8_rule_24 (fun r_24 I_24 J_24 hp_24 => ?_)
      obtain ⟨rfl, rfl, rfl⟩ := hp_24
      refine x_if_ne (pc := 27) (tgt := 32) K dX8_rule_27 (by decide) (fun c_27 => ?_) (fun c_27 => ?_)
      · replace c_27 := bz_n0.mp c_27
        refine x_iload_n (pc := 32) K 1 dX8_rule_32 rfl rfl ?_
        refine x_if_ne (pc := 33) (tgt := 43) K dX8_rule_33 (by decide) (fun c_33 => ?_) (fun c_33 => ?_)
        · refine x_aload_n (pc := 43) K 0 dX8_rule_43 rfl rfl ?_
          refine x_geti (pc := 44) (index := 33) (C := RX8) (T := TX8) (N := 36) (j0 := 9) (ref := "OldMapModel") K (by decide) sh_76 rfl i_X8 (by decide) (by decide +kernel) rfl rfl dX8_rule_44 ?_
          refine x_istore_n (pc := 47) (lo' := [(3, _), (0, _), (1, _), (2, _)]) K dX8_rule_47 rfl (by decide) rfl ?_
          refine x_aload_n (pc := 48) K 1 dX8_rule_48 rfl rfl ?_
          refine x_iload_n (pc := 49) K 2 dX8_rule_49 rfl rfl ?_
          refine x_if_ne (pc := 50) (tgt := 57) K dX8_rule_50 (by decide) (fun c_50 => ?_) (fun c_50 => ?_)
          · refine x_aload_n (pc := 57) K 1 dX8_rule_57 rfl rfl ?_
            refine x_geti (pc := 58) (index := 29) (C := RX8) (T := TX8) (N := 36) (j0 := 8) (ref := "OldMapModel") K (by decide) sh_76 rfl i_X8 (by decide) (by decide +kernel) rfl rfl dX8_rule_58 ?_
            refine x_puti (ty := .int) (pc := 61) (index := 29) (C := RX8) (T := TX8) (N := 36) (j0 := 8) (ref := "OldMapModel") K (by decide) sh_76 rfl i_X8 (by decide) (by decide +kernel) rfl tyX8 tyX8_ok nmX8 rfl (by decide +kernel) rfl rfl rfl dX8_rule_61 ?_
            refine x_aload_n (pc := 64) K 1 dX8_rule_64 rfl rfl ?_
            refine x_iload_n (pc := 65) K 2 dX8_rule_65 rfl rfl ?_
            refine x_iconst (pc := 66) (v := 1) K dX8_rule_66 (by decide) ?_
            refine x_icmp_ne (pc := 67) (tgt := 74) K dX8_rule_67 (by decide) (fun c_67 => ?_) (fun c_67 => ?_)
            · refine x_aload_n (pc := 74) K 1 dX8_rule_74 rfl rfl ?_
              refine x_geti (pc := 75) (index := 33) (C := RX8) (T := TX8) (N := 36) (j0 := 9) (ref := "OldMapModel") K (by decide) sh_76 rfl i_X8 (by decide) (by decide +kernel) rfl rfl dX8_rule_75 ?_
              refine x_topie (I 76 9) (by simp [h_up]) ?_
              refine x_puti (ty := .int) (pc := 78) (index := 33) (C := RX8) (T := TX8) (N := 36) (j0 := 9) (ref := "OldMapModel") K (by decide) sh_76 rfl i_X8 (by decide) (by decide +kernel) rfl tyX8 tyX8_ok nmX8 rfl (by decide +kernel) rfl rfl rfl dX8_rule_78 ?_
              refine x_iload_n (pc := 81) K 0 dX8_rule_81 rfl rfl ?_
              exact ret (pc := 82) dX8_rule_82 (⟨by rw [if_pos ⟨c_6, by rw [if_neg c_12]; exact c_27⟩, if_neg c_12], by rw [if_pos ⟨c_6, by rw [if_neg c_12]; exact c_27⟩, if_neg c_12, if_neg c_67], rfl⟩) rfl
            · refine x_iload_n (pc := 70) K 3 dX8_rule_70 rfl rfl ?_
              refine x_goto (pc := 71) (tgt := 78) K dX8_rule_71 (by decide) ?_
              refine x_puti (ty := .int) (pc := 78) (index := 33) (C := RX8) (T := TX8) (N := 36) (j0 := 9) (ref := "OldMapModel") K (by decide) sh_76 rfl i_X8 (by decide) (by decide +kernel) rfl tyX8 tyX8_ok nmX8 rfl (by decide +kernel) rfl rfl rfl dX8_rule_78 ?_
              refine x_iload_n (pc := 81) K 0 dX8_rule_81 rfl rfl ?_
              exact ret (pc := 82) dX8_rule_82 (⟨by rw [if_pos ⟨c_6, by rw [if_neg c_12]; exact c_27⟩, if_neg c_12], by rw [if_pos ⟨c_6, by rw [if_neg c_12]; exact c_27⟩, if_neg c_12, if_pos c_67], rfl⟩) rfl
          · exact absurd c_50 c_12
        · exact absurd c_33 c_12
      · replace c_27 := bz_0.mp c_27
        refine x_iconst (pc := 30) (v := -1) K dX8_rule_30 (by decide) ?_
        exact ret (pc := 31) dX8_rule_31 (⟨if_neg (fun h => c_27 (by have q := h.2; rw [if_neg c_12] at q; exact q)), if_neg (fun h => c_27 (by have q := h.2; rw [if_neg c_12] at q; exact q)), rfl⟩) rfl
    · refine x_sipush (pc := 15) (v := 1000) K dX8_rule_15 (by decide) ?_
      refine x_goto (pc := 18) (tgt := 24) K dX8_rule_18 (by decide) ?_
      refine x_calliS (pc := 24) (st := []) (n := 3) K (c_X8_in l G _ _ _ _ _) gX8_rule_X8_in (by decide +kernel) rfl (by decide) (by decide) rfl rfl (Nat.le_of_ble_eq_true rfl) dX8_rule_24 (fun r_24 I_24 J_24 hp_24 => ?_)
      obtain ⟨rfl, rfl, rfl⟩ := hp_24
      refine x_if_ne (pc := 27) (tgt := 32) K dX8_rule_27 (by decide) (fun c_27 => ?_) (fun c_27 => ?_)
      · replace c_27 := bz_n0.mp c_27
        refine x_iload_n (pc := 32) K 1 dX8_rule_32 rfl rfl ?_
        refine x_if_ne (pc := 33) (tgt := 43) K dX8_rule_33 (by decide) (fun c_33 => ?_) (fun c_33 => ?_)
        · exact absurd c_12 c_33
        · refine x_aload_n (pc := 36) K 0 dX8_rule_36 rfl rfl ?_
          refine x_geti (pc := 37) (index := 29) (C := RX8) (T := TX8) (N := 36) (j0 := 8) (ref := "OldMapModel") K (by decide) sh_76 rfl i_X8 (by decide) (by decide +kernel) rfl rfl dX8_rule_37 ?_
          refine x_goto (pc := 40) (tgt := 47) K dX8_rule_40 (by decide) ?_
          refine x_istore_n (pc := 47) (lo' := [(3, _), (0, _), (1, _), (2, _)]) K dX8_rule_47 rfl (by decide) rfl ?_
          refine x_aload_n (pc := 48) K 1 dX8_rule_48 rfl rfl ?_
          refine x_iload_n (pc := 49) K 2 dX8_rule_49 rfl rfl ?_
          refine x_if_ne (pc := 50) (tgt := 57) K dX8_rule_50 (by decide) (fun c_50 => ?_) (fun c_50 => ?_)
          · exact absurd c_12 c_50
          · refine x_iload_n (pc := 53) K 3 dX8_rule_53 rfl rfl ?_
            refine x_goto (pc := 54) (tgt := 61) K dX8_rule_54 (by decide) ?_
            refine x_puti (ty := .int) (pc := 61) (index := 29) (C := RX8) (T := TX8) (N := 36) (j0 := 8) (ref := "OldMapModel") K (by decide) sh_76 rfl i_X8 (by decide) (by decide +kernel) rfl tyX8 tyX8_ok nmX8 rfl (by decide +kernel) rfl rfl rfl dX8_rule_61 ?_
            refine x_aload_n (pc := 64) K 1 dX8_rule_64 rfl rfl ?_
            refine x_iload_n (pc := 65) K 2 dX8_rule_65 rfl rfl ?_
            refine x_iconst (pc := 66) (v := 1) K dX8_rule_66 (by decide) ?_
            refine x_icmp_ne (pc := 67) (tgt := 74) K dX8_rule_67 (by decide) (fun c_67 => ?_) (fun c_67 => ?_)
            · refine x_aload_n (pc := 74) K 1 dX8_rule_74 rfl rfl ?_
              refine x_geti (pc := 75) (index := 33) (C := RX8) (T := TX8) (N := 36) (j0 := 9) (ref := "OldMapModel") K (by decide) sh_76 rfl i_X8 (by decide) (by decide +kernel) rfl rfl dX8_rule_75 ?_
              refine x_topie (I 76 9) (by simp [h_up]) ?_
              refine x_puti (ty := .int) (pc := 78) (index := 33) (C := RX8) (T := TX8) (N := 36) (j0 := 9) (ref := "OldMapModel") K (by decide) sh_76 rfl i_X8 (by decide) (by decide +kernel) rfl tyX8 tyX8_ok nmX8 rfl (by decide +kernel) rfl rfl rfl dX8_rule_78 ?_
              refine x_iload_n (pc := 81) K 0 dX8_rule_81 rfl rfl ?_
              exact ret (pc := 82) dX8_rule_82 (⟨by rw [if_pos ⟨c_6, by rw [if_pos c_12]; exact c_27⟩, if_pos c_12], by rw [if_pos ⟨c_6, by rw [if_pos c_12]; exact c_27⟩, if_pos c_12, if_neg c_67], rfl⟩) rfl
            · refine x_iload_n (pc := 70) K 3 dX8_rule_70 rfl rfl ?_
              refine x_goto (pc := 71) (tgt := 78) K dX8_rule_71 (by decide) ?_
              refine x_puti (ty := .int) (pc := 78) (index := 33) (C := RX8) (T := TX8) (N := 36) (j0 := 9) (ref := "OldMapModel") K (by decide) sh_76 rfl i_X8 (by decide) (by decide +kernel) rfl tyX8 tyX8_ok nmX8 rfl (by decide +kernel) rfl rfl rfl dX8_rule_78 ?_
              refine x_iload_n (pc := 81) K 0 dX8_rule_81 rfl rfl ?_
              exact ret (pc := 82) dX8_rule_82 (⟨by rw [if_pos ⟨c_6, by rw [if_pos c_12]; exact c_27⟩, if_pos c_12], by rw [if_pos ⟨c_6, by rw [if_pos c_12]; exact c_27⟩, if_pos c_12, if_pos c_67], rfl⟩) rfl
      · replace c_27 := bz_0.mp c_27
        refine x_iconst (pc := 30) (v := -1) K dX8_rule_30 (by decide) ?_
        exact ret (pc := 31) dX8_rule_31 (⟨if_neg (fun h => c_27 (by have q := h.2; rw [if_pos c_12] at q; exact q)), if_neg (fun h => c_27 (by have q := h.2; rw [if_pos c_12] at q; exact q)), rfl⟩) rfl

set_option maxHeartbeats 1000000 in
set_option maxRecDepth 100000 in
theorem c_X8_point (l : Launch) (G : hQ) (I : hI) (J : hJ) (x y X Y : Int32) (n : Nat) (hn : I 76 0 = nI n) (h12 : n ≤ 12) : h_Mi l yX8_point wsX8_point 2 43 G [rr G 76, .int x, .int y, .int X, .int Y] I J (fun ρ I' J' => (if Pl x y ∧ Pl X Y then (if n < 12 then nI n else -2) else -1) = ρ ∧ (if Pl x y ∧ Pl X Y then (if n < 12 then addPM I n x y X Y else I) else I) = I' ∧ J = J') := by
  refine h_Mi.of (ty := .int) (cc := cX8_point) (maxL := 5) [(0, rr G 76), (1, .int x), (2, .int y), (3, .int X), (4, .int Y)] (by decide +kernel) rfl (Nat.le_of_ble_eq_true rfl) rfl ?_
  intro Γ K ret
  have i_X8 : ∀ w ∈ u_ws RX8 TX8 36, w ∈ wsX8_point := by decide +kernel
  refine x_iload_n (pc := 0) K 1 dX8_point_0 rfl rfl ?_
  refine x_iload_n (pc := 1) K 2 dX8_point_1 rfl rfl ?_
  refine x_calliS (pc := 2) (st := []) (n := 2) K (c_X8_isPlace l G _ _ _ _) gX8_point_X8_isPlace (by decide +kernel) rfl (by decide) (by decide) rfl rfl (Nat.le_of_ble_eq_true rfl) dX8_point_2 (fun r_2 I_2 J_2 hp_2 => ?_)
  obtain ⟨rfl, rfl, rfl⟩ := hp_2
  refine x_if_eq (pc := 5) (tgt := 17) K dX8_point_5 (by decide) (fun c_5 => ?_) (fun c_5 => ?_)
  · replace c_5 := bz_0.mp c_5
    refine x_iconst (pc := 17) (v := -1) K dX8_point_17 (by decide) ?_
    exact ret (pc := 18) dX8_point_18 (⟨if_neg (fun h => c_5 h.1), if_neg (fun h => c_5 h.1), rfl⟩) rfl
  · replace c_5 := bz_n0.mp c_5
    refine x_iload_n (pc := 8) K 3 dX8_point_8 rfl rfl ?_
    refine x_iload (pc := 9) K 4 dX8_point_9 rfl ?_
    refine x_calliS (pc := 11) (st := []) (n := 2) K (c_X8_isPlace l G _ _ _ _) gX8_point_X8_isPlace (by decide +kernel) rfl (by decide) (by decide) rfl rfl (Nat.le_of_ble_eq_true rfl) dX8_point_11 (fun r_11 I_11 J_11 hp_11 => ?_)
    obtain ⟨rfl, rfl, rfl⟩ := hp_11
    refine x_if_ne (pc := 14) (tgt := 19) K dX8_point_14 (by decide) (fun c_14 => ?_) (fun c_14 => ?_)
    · replace c_14 := bz_n0.mp c_14
      refine x_aload_n (pc := 19) K 0 dX8_point_19 rfl rfl ?_
      refine x_geti (pc := 20) (index := 65) (C := RX8) (T := TX8) (N := 36) (j0 := 0) (ref := "OldMapModel") K (by decide) sh_76 rfl i_X8 (by decide) (by decide +kernel) rfl rfl dX8_point_20 ?_
      refine x_topie (nI n) (by simp [h_up, hn]) ?_
      refine x_bipush (pc := 23) (v := 12) K dX8_point_23 (by decide) ?_
      refine x_icmp_ne (pc := 25) (tgt := 31) K dX8_point_25 (by decide) (fun c_25 => ?_) (fun c_25 => ?_)
      · replace c_25 := cI_ne (a := n) (b := 12) rfl rfl (by omega) (by omega) c_25
        refine x_aload_n (pc := 31) K 0 dX8_point_31 rfl rfl ?_
        refine x_getr (r0 := 77) (pc := 32) (index := 7) (C := RX8) (T := TX8) (N := 36) (j0 := 1) (ref := "OldMapModel") K (by decide) sh_76 rfl i_X8 (by decide) (by decide +kernel) rfl rfl rf_76_1 dX8_point_32 ?_
        refine x_iconst (pc := 35) (v := 4) K dX8_point_35 (by decide) ?_
        refine x_aload_n (pc := 36) K 0 dX8_point_36 rfl rfl ?_
        refine x_geti (pc := 37) (index := 65) (C := RX8) (T := TX8) (N := 36) (j0 := 0) (ref := "OldMapModel") K (by decide) sh_76 rfl i_X8 (by decide) (by decide +kernel) rfl rfl dX8_point_37 ?_
        refine x_topie (nI n) (by simp [h_up, hn]) ?_
        refine x_imul (pc := 40) K dX8_point_40 ?_
        refine x_iload_n (pc := 41) K 1 dX8_point_41 rfl rfl ?_
        refine y_iast (j := (4 * n)) (pc := 42) K (by decide) sh_77 (nI_mulE rfl rfl) (by omega) (by decide) dX8_point_42 ?_
        refine x_aload_n (pc := 43) K 0 dX8_point_43 rfl rfl ?_
        refine x_getr (r0 := 77) (pc := 44) (index := 7) (C := RX8) (T := TX8) (N := 36) (j0 := 1) (ref := "OldMapModel") K (by decide) sh_76 rfl i_X8 (by decide) (by decide +kernel) rfl rfl rf_76_1 dX8_point_44 ?_
        refine x_iconst (pc := 47) (v := 4) K dX8_point_47 (by decide) ?_
        refine x_aload_n (pc := 48) K 0 dX8_point_48 rfl rfl ?_
        refine x_geti (pc := 49) (index := 65) (C := RX8) (T := TX8) (N := 36) (j0 := 0) (ref := "OldMapModel") K (by decide) sh_76 rfl i_X8 (by decide) (by decide +kernel) rfl rfl dX8_point_49 ?_
        refine x_topie (nI n) (by simp [h_up, hn]) ?_
        refine x_imul (pc := 52) K dX8_point_52 ?_
        refine x_iconst (pc := 53) (v := 1) K dX8_point_53 (by decide) ?_
        refine x_iadd (pc := 54) K dX8_point_54 ?_
        refine x_iload_n (pc := 55) K 2 dX8_point_55 rfl rfl ?_
        refine y_iast (j := ((4 * n) + 1)) (pc := 56) K (by decide) sh_77 (nI_addE (nI_mulE rfl rfl) rfl) (by omega) (by decide) dX8_point_56 ?_
        refine x_aload_n (pc := 57) K 0 dX8_point_57 rfl rfl ?_
        refine x_getr (r0 := 77) (pc := 58) (index := 7) (C := RX8) (T := TX8) (N := 36) (j0 := 1) (ref := "OldMapModel") K (by decide) sh_76 rfl i_X8 (by decide) (by decide +kernel) rfl rfl rf_76_1 dX8_point_58 ?_
        refine x_iconst (pc := 61) (v := 4) K dX8_point_61 (by decide) ?_
        refine x_aload_n (pc := 62) K 0 dX8_point_62 rfl rfl ?_
        refine x_geti (pc := 63) (index := 65) (C := RX8) (T := TX8) (N := 36) (j0 := 0) (ref := "OldMapModel") K (by decide) sh_76 rfl i_X8 (by decide) (by decide +kernel) rfl rfl dX8_point_63 ?_
        refine x_topie (nI n) (by simp [h_up, hn]) ?_
        refine x_imul (pc := 66) K dX8_point_66 ?_
        refine x_iconst (pc := 67) (v := 2) K dX8_point_67 (by decide) ?_
        refine x_iadd (pc := 68) K dX8_point_68 ?_
        refine x_iload_n (pc := 69) K 3 dX8_point_69 rfl rfl ?_
        refine y_iast (j := ((4 * n) + 2)) (pc := 70) K (by decide) sh_77 (nI_addE (nI_mulE rfl rfl) rfl) (by omega) (by decide) dX8_point_70 ?_
        refine x_aload_n (pc := 71) K 0 dX8_point_71 rfl rfl ?_
        refine x_getr (r0 := 77) (pc := 72) (index := 7) (C := RX8) (T := TX8) (N := 36) (j0 := 1) (ref := "OldMapModel") K (by decide) sh_76 rfl i_X8 (by decide) (by decide +kernel) rfl rfl rf_76_1 dX8_point_72 ?_
        refine x_iconst (pc := 75) (v := 4) K dX8_point_75 (by decide) ?_
        refine x_aload_n (pc := 76) K 0 dX8_point_76 rfl rfl ?_
        refine x_geti (pc := 77) (index := 65) (C := RX8) (T := TX8) (N := 36) (j0 := 0) (ref := "OldMapModel") K (by decide) sh_76 rfl i_X8 (by decide) (by decide +kernel) rfl rfl dX8_point_77 ?_
        refine x_topie (nI n) (by simp [h_up, hn]) ?_
        refine x_imul (pc := 80) K dX8_point_80 ?_
        refine x_iconst (pc := 81) (v := 3) K dX8_point_81 (by decide) ?_
        refine x_iadd (pc := 82) K dX8_point_82 ?_
        refine x_iload (pc := 83) K 4 dX8_point_83 rfl ?_
        refine y_iast (j := ((4 * n) + 3)) (pc := 85) K (by decide) sh_77 (nI_addE (nI_mulE rfl rfl) rfl) (by omega) (by decide) dX8_point_85 ?_
        refine x_aload_n (pc := 86) K 0 dX8_point_86 rfl rfl ?_
        refine x_getr (r0 := 78) (pc := 87) (index := 13) (C := RX8) (T := TX8) (N := 36) (j0 := 2) (ref := "OldMapModel") K (by decide) sh_76 rfl i_X8 (by decide) (by decide +kernel) rfl rfl rf_76_2 dX8_point_87 ?_
        refine x_aload_n (pc := 90) K 0 dX8_point_90 rfl rfl ?_
        refine x_geti (pc := 91) (index := 65) (C := RX8) (T := TX8) (N := 36) (j0 := 0) (ref := "OldMapModel") K (by decide) sh_76 rfl i_X8 (by decide) (by decide +kernel) rfl rfl dX8_point_91 ?_
        refine x_topie (nI n) (by simp [h_up, hn]) ?_
        refine x_iconst (pc := 94) (v := 1) K dX8_point_94 (by decide) ?_
        refine y_zast (j := n) (pc := 95) K (by decide) sh_78 rfl (by omega) (by decide) rfl dX8_point_95 ?_
        refine x_aload_n (pc := 96) K 0 dX8_point_96 rfl rfl ?_
        refine x_getr (r0 := 79) (pc := 97) (index := 17) (C := RX8) (T := TX8) (N := 36) (j0 := 3) (ref := "OldMapModel") K (by decide) sh_76 rfl i_X8 (by decide) (by decide +kernel) rfl rfl rf_76_3 dX8_point_97 ?_
        refine x_aload_n (pc := 100) K 0 dX8_point_100 rfl rfl ?_
        refine x_geti (pc := 101) (index := 65) (C := RX8) (T := TX8) (N := 36) (j0 := 0) (ref := "OldMapModel") K (by decide) sh_76 rfl i_X8 (by decide) (by decide +kernel) rfl rfl dX8_point_101 ?_
        refine x_topie (nI n) (by simp [h_up, hn]) ?_
        refine x_iconst (pc := 104) (v := 1) K dX8_point_104 (by decide) ?_
        refine y_zast (j := n) (pc := 105) K (by decide) sh_79 rfl (by omega) (by decide) rfl dX8_point_105 ?_
        refine x_aload_n (pc := 106) K 0 dX8_point_106 rfl rfl ?_
        refine x_dup (pc := 107) K dX8_point_107 rfl ?_
        refine x_geti (pc := 108) (index := 65) (C := RX8) (T := TX8) (N := 36) (j0 := 0) (ref := "OldMapModel") K (by decide) sh_76 rfl i_X8 (by decide) (by decide +kernel) rfl rfl dX8_point_108 ?_
        refine x_topie (nI n) (by simp [h_up, hn]) ?_
        refine x_iconst (pc := 111) (v := 1) K dX8_point_111 (by decide) ?_
        refine x_iadd (pc := 112) K dX8_point_112 ?_
        refine x_puti (ty := .int) (pc := 113) (index := 65) (C := RX8) (T := TX8) (N := 36) (j0 := 0) (ref := "OldMapModel") K (by decide) sh_76 rfl i_X8 (by decide) (by decide +kernel) rfl tyX8 tyX8_ok nmX8 rfl (by decide +kernel) rfl rfl rfl dX8_point_113 ?_
        refine x_aload_n (pc := 116) K 0 dX8_point_116 rfl rfl ?_
        refine x_geti (pc := 117) (index := 65) (C := RX8) (T := TX8) (N := 36) (j0 := 0) (ref := "OldMapModel") K (by decide) sh_76 rfl i_X8 (by decide) (by decide +kernel) rfl rfl dX8_point_117 ?_
        refine x_topie (nI (n + 1)) (by simp [h_up, nI_1]) ?_
        refine x_iconst (pc := 120) (v := 1) K dX8_point_120 (by decide) ?_
        refine x_isub (pc := 121) K dX8_point_121 ?_
        refine x_topie (nI n) (by rw [nI_pred]) ?_
        exact ret (pc := 122) dX8_point_122 (⟨by rw [if_pos ⟨c_5, c_14⟩, if_pos (show n < 12 by omega)], by rw [if_pos ⟨c_5, c_14⟩, if_pos (show n < 12 by omega)]; rfl, rfl⟩) rfl
      · replace c_25 := cI_eq (a := n) (b := 12) rfl rfl (by omega) (by omega) c_25
        refine x_bipush (pc := 28) (v := -2) K dX8_point_28 (by decide) ?_
        exact ret (pc := 30) dX8_point_30 (⟨by rw [if_pos ⟨c_5, c_14⟩, if_neg (by omega)], by rw [if_pos ⟨c_5, c_14⟩, if_neg (by omega)], rfl⟩) rfl
    · replace c_14 := bz_0.mp c_14
      refine x_iconst (pc := 17) (v := -1) K dX8_point_17 (by decide) ?_
      exact ret (pc := 18) dX8_point_18 (⟨if_neg (fun h => c_14 h.2), if_neg (fun h => c_14 h.2), rfl⟩) rfl

