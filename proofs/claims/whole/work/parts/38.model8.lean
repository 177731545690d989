/-! the reference's face: many, kept -/
theorem cp_0 {I : hI} {a b : Nat} : h_cp I a b 0 = I := by funext c j; simp [h_cp]
theorem cp_s {I : hI} {a b k : Nat} : h_up (h_cp I a b k) b k (I a k) = h_cp I a b (k + 1) := by
  funext c j
  simp only [h_up, h_cp]
  by_cases h1 : c = b
  · subst h1
    by_cases h2 : j = k
    · subst h2; simp
    · by_cases h3 : j < k
      · have h4 : j < k + 1 := by omega
        simp [h2, h3, h4]
      · have h4 : ¬ j < k + 1 := by omega
        simp [h2, h3, h4]
  · simp [h1]
def kpK (I : hI) : hI := h_cp (h_cp (h_cp (h_up (h_up (h_up (h_up (h_up I 76 10 1) 83 0 (I 76 0)) 83 1 (I 76 4)) 83 2 (I 81 0)) 83 3 (I 81 1)) 77 84 48) 80 86 30) 82 87 36
def ksM (I : hI) (p : Nat) : Int32 := (if I 78 p = 0 then 0 else 1) + (if I 79 p = 0 then 0 else 2)
def bkK (I : hI) : hI := h_cp (h_cp (h_cp (h_up (h_up (h_up (h_up I 76 0 (I 83 0)) 76 4 (I 83 1)) 81 0 (I 83 2)) 81 1 (I 83 3)) 84 77 48) 86 80 30) 87 82 36
def bsM (I : hI) (p : Nat) : Int32 := if I 85 p - I 85 p / 2 * 2 = 1 then 1 else 0
def biM (I : hI) (p : Nat) : Int32 := if I 85 p ≤ 1 then 0 else 1
abbrev kpV (I I1 : hI) (k : Nat) : Prop := (∀ c, c ≠ 85 → I1 c = kpK I c) ∧ ∀ p, p < k → I1 85 p = ksM I p
theorem kp_step {I I1 : hI} {k : Nat} {v : Int32} (h : kpV I I1 k) (hv : v = ksM I k) : kpV I (h_up I1 85 k v) (k + 1) := by
  refine ⟨fun c hc => by rw [h_up_ne hc, h.1 c hc], fun p hp => ?_⟩
  by_cases e : p = k
  · subst e; simp [h_up, hv]
  · simp only [h_up, e, and_false, if_false]; exact h.2 p (by omega)
abbrev bkV (I I1 : hI) (k : Nat) : Prop := (∀ c, c ≠ 78 → c ≠ 79 → I1 c = bkK I c) ∧ (∀ p, p < k → I1 78 p = bsM I p) ∧ ∀ p, p < k → I1 79 p = biM I p
theorem bk_step {I I1 : hI} {k : Nat} {v w : Int32} (h : bkV I I1 k) (hv : v = bsM I k) (hw : w = biM I k) : bkV I (h_up (h_up I1 78 k v) 79 k w) (k + 1) := by
  refine ⟨fun c h1 h2 => by rw [h_up_ne h2, h_up_ne h1, h.1 c h1 h2], fun p hp => ?_, fun p hp => ?_⟩
  · rw [h_up_ne (by decide)]
    by_cases e : p = k
    · subst e; simp [h_up, hv]
    · simp only [h_up, e, and_false, if_false]; exact h.2.1 p (by omega)
  · by_cases e : p = k
    · subst e; simp [h_up, hw]
    · have : h_up (h_up I1 78 k v) 79 k w 79 p = I1 79 p := by simp [h_up, e]
      rw [this]; exact h.2.2 p (by omega)
set_option maxHeartbeats 1000000 in
set_option maxRecDepth 100000 in
theorem c_X8_inState (l : Launch) (G : hQ) (I : hI) (J : hJ) (z : Int32) (nt : Nat) (ht : I 76 4 = nI nt) (h10 : nt ≤ 10) (hA : ∀ t, t < nt → TOkM I t) : h_Mi l yX8_inState wsX8_inState 5 123 G [rr G 76, .int z] I J (fun ρ I' J' => sumI (fun t => if stM I t = z then 1 else 0) nt = ρ ∧ I = I' ∧ J = J') := by
  refine h_Mi.of (ty := .int) (cc := cX8_inState) (maxL := 4) [(0, rr G 76), (1, .int z)] (by decide +kernel) rfl (Nat.le_of_ble_eq_true rfl) rfl ?_
  intro Γ K ret
  have i_X8 : ∀ w ∈ u_ws RX8 TX8 36, w ∈ wsX8_inState := by decide +kernel
  have loop : ∀ k, k ≤ nt → h_WW Γ G 4 [(3, .int (nI k)), (2, .int (sumI (fun t => if stM I t = z then 1 else 0) k)), (0, rr G 76), (1, .int z)] [] I J := by
    refine loopU nt (fun k hk ih => ?_)
    refine x_iload_n (pc := 4) K 0 dX8_inState_4 rfl rfl ?_
    refine x_aload_n (pc := 5) K 2 dX8_inState_5 rfl rfl ?_
    refine x_geti (pc := 6) (index := 183) (C := RX8) (T := TX8) (N := 36) (j0 := 4) (ref := "OldMapModel") K (by decide) sh_76 rfl i_X8 (by decide) (by decide +kernel) rfl rfl dX8_inState_6 ?_
    refine x_topie (nI nt) ht ?_
    refine x_icmp_ge (pc := 9) (tgt := 35) K dX8_inState_9 (by decide) (fun c_9 => ?_) (fun c_9 => ?_)
    · replace c_9 := cI_le (a := nt) (b := k) rfl rfl (by omega) (by omega) c_9
      refine x_iload_n (pc := 35) K 1 dX8_inState_35 rfl rfl ?_
      exact ret (pc := 36) dX8_inState_36 (⟨by rw [show nt = k by omega], rfl, rfl⟩) rfl
    · replace c_9 := cI_nle (a := nt) (b := k) rfl rfl (by omega) (by omega) c_9
      refine x_iload_n (pc := 12) K 1 dX8_inState_12 rfl rfl ?_
      refine x_aload_n (pc := 13) K 2 dX8_inState_13 rfl rfl ?_
      refine x_iload_n (pc := 14) K 0 dX8_inState_14 rfl rfl ?_
      refine x_calliV (pc := 15) (st := [_]) (n := 1) K (by decide) sh_76 rfl (c_X8_stateOf l G _ _ k (hA k (by omega))) gX8_inState_X8_stateOf (by decide +kernel) rfl (by decide) (by decide) rfl rfl (Nat.le_of_ble_eq_true rfl) dX8_inState_15 (fun r_15 I_15 J_15 hp_15 => ?_)
      obtain ⟨rfl, rfl, rfl⟩ := hp_15
      refine x_iload_n (pc := 18) K 3 dX8_inState_18 rfl rfl ?_
      refine x_icmp_ne (pc := 19) (tgt := 26) K dX8_inState_19 (by decide) (fun c_19 => ?_) (fun c_19 => ?_)
      · refine x_iconst (pc := 26) (v := 0) K dX8_inState_26 (by decide) ?_
        refine x_iadd (pc := 27) K dX8_inState_27 ?_
        refine x_istore_n (pc := 28) (lo' := [(2, _), (3, _), (0, _), (1, _)]) K dX8_inState_28 rfl (by decide) rfl ?_
        refine x_iinc (pc := 29) (q0 := 1) (v := nI (k + 1)) (lo' := [(3, _), (2, _), (0, _), (1, _)]) K dX8_inState_29 rfl (nI_incE rfl) (by decide) rfl ?_
        refine x_goto (pc := 32) (tgt := 4) K dX8_inState_32 (by decide) ?_
        refine x_lo (lo' := [(3, _), (2, _), (0, _), (1, _)]) [0, 1, 2, 3] rfl ?_
        exact x_loe (by simp [sumI, c_19]) (ih (by omega))
      · refine x_iconst (pc := 22) (v := 1) K dX8_inState_22 (by decide) ?_
        refine x_goto (pc := 23) (tgt := 27) K dX8_inState_23 (by decide) ?_
        refine x_iadd (pc := 27) K dX8_inState_27 ?_
        refine x_istore_n (pc := 28) (lo' := [(2, _), (3, _), (0, _), (1, _)]) K dX8_inState_28 rfl (by decide) rfl ?_
        refine x_iinc (pc := 29) (q0 := 1) (v := nI (k + 1)) (lo' := [(3, _), (2, _), (0, _), (1, _)]) K dX8_inState_29 rfl (nI_incE rfl) (by decide) rfl ?_
        refine x_goto (pc := 32) (tgt := 4) K dX8_inState_32 (by decide) ?_
        refine x_lo (lo' := [(3, _), (2, _), (0, _), (1, _)]) [0, 1, 2, 3] rfl ?_
        exact x_loe (by simp [sumI, c_19]) (ih (by omega))
  refine x_iconst (pc := 0) (v := 0) K dX8_inState_0 (by decide) ?_
  refine x_istore_n (pc := 1) (lo' := [(2, _), (0, _), (1, _)]) K dX8_inState_1 rfl (by decide) rfl ?_
  refine x_iconst (pc := 2) (v := 0) K dX8_inState_2 (by decide) ?_
  refine x_istore_n (pc := 3) (lo' := [(3, _), (2, _), (0, _), (1, _)]) K dX8_inState_3 rfl (by decide) rfl ?_
  refine x_lo (lo' := [(3, _), (2, _), (0, _), (1, _)]) [0, 1, 2, 3] rfl ?_
  exact x_loe (by rfl) (loop 0 (Nat.zero_le _))

set_option maxHeartbeats 1000000 in
set_option maxRecDepth 100000 in
theorem c_X8_meetings (l : Launch) (G : hQ) (I : hI) (J : hJ) (mp : Nat) (hm : mp < 2) (nt : Nat) (ht : I 76 4 = nI nt) (h10 : nt ≤ 10) (hA : ∀ t, t < nt → TOkM I t) : h_Mi l yX8_meetings wsX8_meetings 5 133 G [rr G 76, .int (nI mp)] I J (fun ρ I' J' => sumI (fun t => sumI (fun u => if ¬ fltM I t ∧ ¬ fltM I u ∧ metM I t u mp then 1 else 0) t) nt = ρ ∧ I = I' ∧ J = J') := by
  refine h_Mi.of (ty := .int) (cc := cX8_meetings) (maxL := 5) [(0, rr G 76), (1, .int (nI mp))] (by decide +kernel) rfl (Nat.le_of_ble_eq_true rfl) rfl ?_
  intro Γ K ret
  have i_X8 : ∀ w ∈ u_ws RX8 TX8 36, w ∈ wsX8_meetings := by decide +kernel
  have loop : ∀ t, t ≤ nt → h_WW Γ G 4 [(3, .int (nI t)), (2, .int (sumI (fun t => sumI (fun u => if ¬ fltM I t ∧ ¬ fltM I u ∧ metM I t u mp then 1 else 0) t) t)), (0, rr G 76), (1, .int (nI mp))] [] I J := by
    refine loopU nt (fun t hk ih => ?_)
    refine x_iload_n (pc := 4) K 0 dX8_meetings_4 rfl rfl ?_
    refine x_aload_n (pc := 5) K 2 dX8_meetings_5 rfl rfl ?_
    refine x_geti (pc := 6) (index := 183) (C := RX8) (T := TX8) (N := 36) (j0 := 4) (ref := "OldMapModel") K (by decide) sh_76 rfl i_X8 (by decide) (by decide +kernel) rfl rfl dX8_meetings_6 ?_
    refine x_topie (nI nt) ht ?_
    refine x_icmp_ge (pc := 9) (tgt := 69) K dX8_meetings_9 (by decide) (fun c_9 => ?_) (fun c_9 => ?_)
    · replace c_9 := cI_le (a := nt) (b := t) rfl rfl (by omega) (by omega) c_9
      refine x_iload_n (pc := 69) K 1 dX8_meetings_69 rfl rfl ?_
      exact ret (pc := 70) dX8_meetings_70 (⟨by rw [show nt = t by omega], rfl, rfl⟩) rfl
    · replace c_9 := cI_nle (a := nt) (b := t) rfl rfl (by omega) (by omega) c_9
      have post : h_WW Γ G 63 [(4, .int (nI t)), (2, .int (sumI (fun t => sumI (fun u => if ¬ fltM I t ∧ ¬ fltM I u ∧ metM I t u mp then 1 else 0) t) t + sumI (fun u => if ¬ fltM I t ∧ ¬ fltM I u ∧ metM I t u mp then 1 else 0) t)), (3, .int (nI t)), (0, rr G 76), (1, .int (nI mp))] [] I J := by
        refine x_iinc (pc := 63) (q0 := 2) (v := nI (t + 1)) (lo' := [(3, _), (4, _), (2, _), (0, _), (1, _)]) K dX8_meetings_63 rfl (nI_incE rfl) (by decide) rfl ?_
        refine x_goto (pc := 66) (tgt := 4) K dX8_meetings_66 (by decide) ?_
        refine x_lo (lo' := [(3, _), (2, _), (0, _), (1, _)]) [0, 2, 3, 4] rfl ?_
        exact x_loe (by simp [sumI]) (ih (by omega))
      have inner : ∀ u, u ≤ t → h_WW Γ G 15 [(4, .int (nI u)), (2, .int (sumI (fun t => sumI (fun u => if ¬ fltM I t ∧ ¬ fltM I u ∧ metM I t u mp then 1 else 0) t) t + sumI (fun u => if ¬ fltM I t ∧ ¬ fltM I u ∧ metM I t u mp then 1 else 0) u)), (3, .int (nI t)), (0, rr G 76), (1, .int (nI mp))] [] I J := by
        refine loopU t (fun u hk ih => ?_)
        refine x_iload (pc := 15) K 0 dX8_meetings_15 rfl ?_
        refine x_iload_n (pc := 17) K 2 dX8_meetings_17 rfl rfl ?_
        refine x_icmp_ge (pc := 18) (tgt := 63) K dX8_meetings_18 (by decide) (fun c_18 => ?_) (fun c_18 => ?_)
        · replace c_18 := cI_le (a := t) (b := u) rfl rfl (by omega) (by omega) c_18
          have hd : u = t := by omega
          subst hd
          exact post
        · replace c_18 := cI_nle (a := t) (b := u) rfl rfl (by omega) (by omega) c_18
          refine x_iload_n (pc := 21) K 1 dX8_meetings_21 rfl rfl ?_
          refine x_aload_n (pc := 22) K 3 dX8_meetings_22 rfl rfl ?_
          refine x_iload_n (pc := 23) K 2 dX8_meetings_23 rfl rfl ?_
          refine x_calliV (pc := 24) (st := [_]) (n := 1) K (by decide) sh_76 rfl (c_X8_isFlat l G _ _ t (hA t (by omega))) gX8_meetings_X8_isFlat (by decide +kernel) rfl (by decide) (by decide) rfl rfl (Nat.le_of_ble_eq_true rfl) dX8_meetings_24 (fun r_24 I_24 J_24 hp_24 => ?_)
          obtain ⟨rfl, rfl, rfl⟩ := hp_24
          refine x_if_ne (pc := 27) (tgt := 54) K dX8_meetings_27 (by decide) (fun c_27 => ?_) (fun c_27 => ?_)
          · replace c_27 := bz_n0.mp c_27
            refine x_iconst (pc := 54) (v := 0) K dX8_meetings_54 (by decide) ?_
            refine x_iadd (pc := 55) K dX8_meetings_55 ?_
            refine x_istore_n (pc := 56) (lo' := [(2, _), (4, _), (3, _), (0, _), (1, _)]) K dX8_meetings_56 rfl (by decide) rfl ?_
            refine x_iinc (pc := 57) (q0 := 1) (v := nI (u + 1)) (lo' := [(4, _), (2, _), (3, _), (0, _), (1, _)]) K dX8_meetings_57 rfl (nI_incE rfl) (by decide) rfl ?_
            refine x_goto (pc := 60) (tgt := 15) K dX8_meetings_60 (by decide) ?_
            refine x_lo (lo' := [(4, _), (2, _), (3, _), (0, _), (1, _)]) [0, 1, 2, 3, 4] rfl ?_
            exact x_loe (by simp only [sumI]; rw [if_neg (fun h => h.1 c_27), Int32.add_assoc]) (ih (by omega))
          · replace c_27 := bz_0.mp c_27
            refine x_aload_n (pc := 30) K 3 dX8_meetings_30 rfl rfl ?_
            refine x_iload (pc := 31) K 0 dX8_meetings_31 rfl ?_
            refine x_calliV (pc := 33) (st := [_]) (n := 1) K (by decide) sh_76 rfl (c_X8_isFlat l G _ _ u (hA u (by omega))) gX8_meetings_X8_isFlat (by decide +kernel) rfl (by decide) (by decide) rfl rfl (Nat.le_of_ble_eq_true rfl) dX8_meetings_33 (fun r_33 I_33 J_33 hp_33 => ?_)
            obtain ⟨rfl, rfl, rfl⟩ := hp_33
            refine x_if_ne (pc := 36) (tgt := 54) K dX8_meetings_36 (by decide) (fun c_36 => ?_) (fun c_36 => ?_)
            · replace c_36 := bz_n0.mp c_36
              refine x_iconst (pc := 54) (v := 0) K dX8_meetings_54 (by decide) ?_
              refine x_iadd (pc := 55) K dX8_meetings_55 ?_
              refine x_istore_n (pc := 56) (lo' := [(2, _), (4, _), (3, _), (0, _), (1, _)]) K dX8_meetings_56 rfl (by decide) rfl ?_
              refine x_iinc (pc := 57) (q0 := 1) (v := nI (u + 1)) (lo' := [(4, _), (2, _), (3, _), (0, _), (1, _)]) K dX8_meetings_57 rfl (nI_incE rfl) (by decide) rfl ?_
              refine x_goto (pc := 60) (tgt := 15) K dX8_meetings_60 (by decide) ?_
              refine x_lo (lo' := [(4, _), (2, _), (3, _), (0, _), (1, _)]) [0, 1, 2, 3, 4] rfl ?_
              exact x_loe (by simp only [sumI]; rw [if_neg (fun h => h.2.1 c_36), Int32.add_assoc]) (ih (by omega))
            · replace c_36 := bz_0.mp c_36
              refine x_aload_n (pc := 39) K 3 dX8_meetings_39 rfl rfl ?_
              refine x_iload_n (pc := 40) K 2 dX8_meetings_40 rfl rfl ?_
              refine x_iload (pc := 41) K 0 dX8_meetings_41 rfl ?_
              refine x_iload_n (pc := 43) K 4 dX8_meetings_43 rfl rfl ?_
              refine x_calliV (pc := 44) (st := [_]) (n := 3) K (by decide) sh_76 rfl (c_X8_doMeet l G _ _ t u mp (hA t (by omega)) (hA u (by omega)) (by omega)) gX8_meetings_X8_doMeet (by decide +kernel) rfl (by decide) (by decide) rfl rfl (Nat.le_of_ble_eq_true rfl) dX8_meetings_44 (fun r_44 I_44 J_44 hp_44 => ?_)
              obtain ⟨rfl, rfl, rfl⟩ := hp_44
              refine x_if_eq (pc := 47) (tgt := 54) K dX8_meetings_47 (by decide) (fun c_47 => ?_) (fun c_47 => ?_)
              · replace c_47 := bz_0.mp c_47
                refine x_iconst (pc := 54) (v := 0) K dX8_meetings_54 (by decide) ?_
                refine x_iadd (pc := 55) K dX8_meetings_55 ?_
                refine x_istore_n (pc := 56) (lo' := [(2, _), (4, _), (3, _), (0, _), (1, _)]) K dX8_meetings_56 rfl (by decide) rfl ?_
                refine x_iinc (pc := 57) (q0 := 1) (v := nI (u + 1)) (lo' := [(4, _), (2, _), (3, _), (0, _), (1, _)]) K dX8_meetings_57 rfl (nI_incE rfl) (by decide) rfl ?_
                refine x_goto (pc := 60) (tgt := 15) K dX8_meetings_60 (by decide) ?_
                refine x_lo (lo' := [(4, _), (2, _), (3, _), (0, _), (1, _)]) [0, 1, 2, 3, 4] rfl ?_
                exact x_loe (by simp only [sumI]; rw [if_neg (fun h => c_47 h.2.2), Int32.add_assoc]) (ih (by omega))
              · replace c_47 := bz_n0.mp c_47
                refine x_iconst (pc := 50) (v := 1) K dX8_meetings_50 (by decide) ?_
                refine x_goto (pc := 51) (tgt := 55) K dX8_meetings_51 (by decide) ?_
                refine x_iadd (pc := 55) K dX8_meetings_55 ?_
                refine x_istore_n (pc := 56) (lo' := [(2, _), (4, _), (3, _), (0, _), (1, _)]) K dX8_meetings_56 rfl (by decide) rfl ?_
                refine x_iinc (pc := 57) (q0 := 1) (v := nI (u + 1)) (lo' := [(4, _), (2, _), (3, _), (0, _), (1, _)]) K dX8_meetings_57 rfl (nI_incE rfl) (by decide) rfl ?_
                refine x_goto (pc := 60) (tgt := 15) K dX8_meetings_60 (by decide) ?_
                refine x_lo (lo' := [(4, _), (2, _), (3, _), (0, _), (1, _)]) [0, 1, 2, 3, 4] rfl ?_
                exact x_loe (by simp only [sumI]; rw [if_pos (And.intro c_27 (And.intro c_36 c_47)), Int32.add_assoc]) (ih (by omega))
      refine x_iconst (pc := 12) (v := 0) K dX8_meetings_12 (by decide) ?_
      refine x_istore (pc := 13) (lo' := [(4, _), (3, _), (2, _), (0, _), (1, _)]) K dX8_meetings_13 (by decide) rfl ?_
      refine x_lo (lo' := [(4, _), (2, _), (3, _), (0, _), (1, _)]) [0, 2, 1, 3, 4] rfl ?_
      exact x_loe (by simp [sumI, nI_0]) (inner 0 (Nat.zero_le _))
  refine x_iconst (pc := 0) (v := 0) K dX8_meetings_0 (by decide) ?_
  refine x_istore_n (pc := 1) (lo' := [(2, _), (0, _), (1, _)]) K dX8_meetings_1 rfl (by decide) rfl ?_
  refine x_iconst (pc := 2) (v := 0) K dX8_meetings_2 (by decide) ?_
  refine x_istore_n (pc := 3) (lo' := [(3, _), (2, _), (0, _), (1, _)]) K dX8_meetings_3 rfl (by decide) rfl ?_
  refine x_lo (lo' := [(3, _), (2, _), (0, _), (1, _)]) [0, 1, 2, 3] rfl ?_
  exact x_loe (by rfl) (loop 0 (Nat.zero_le _))

def M_many (I : hI) (n nt : Nat) (w : Int32) : Int32 := if w = 0 then I 76 0 else if w = 1 then mof (cM I n) else if w = 2 then I 76 4 else if w = 3 then sumI (fun t => if stM I t = 1 then 1 else 0) nt else if w = 4 then sumI (fun t => if stM I t = 2 then 1 else 0) nt else if w = 5 then I 81 0 else if w = 6 then I 81 1 else if w = 7 then sumI (fun t => sumI (fun u => if ¬ fltM I t ∧ ¬ fltM I u ∧ metM I t u 0 then 1 else 0) t) nt else if w = 8 then sumI (fun t => sumI (fun u => if ¬ fltM I t ∧ ¬ fltM I u ∧ metM I t u 1 then 1 else 0) t) nt else -1
set_option maxHeartbeats 1000000 in
set_option maxRecDepth 100000 in
theorem c_X8_many (l : Launch) (G : hQ) (I : hI) (J : hJ) (w : Int32) (n : Nat) (hn : I 76 0 = nI n) (h12 : n ≤ 12) (nt : Nat) (ht : I 76 4 = nI nt) (h10 : nt ≤ 10) (hA : ∀ t, t < nt → TOkM I t) : h_Mi l yX8_many wsX8_many 6 157 G [rr G 76, .int w] I J (fun ρ I' J' => M_many I n nt w = ρ ∧ I = I' ∧ J = J') := by
  refine h_Mi.of (ty := .int) (cc := cX8_many) (maxL := 2) [(0, rr G 76), (1, .int w)] (by decide +kernel) rfl (Nat.le_of_ble_eq_true rfl) rfl ?_
  intro Γ K ret
  have i_X8 : ∀ w ∈ u_ws RX8 TX8 36, w ∈ wsX8_many := by decide +kernel
  refine x_iload_n (pc := 0) K 1 dX8_many_0 rfl rfl ?_
  by_cases hsw : w.toInt < 0 ∨ 8 < w.toInt
  · refine x_tableOut (pc := 1) (tgt := 108) K dX8_many_1 hsw (by decide) ?_
    refine x_iconst (pc := 108) (v := -1) K dX8_many_108 (by decide) ?_
    exact ret (pc := 109) dX8_many_109 (⟨by unfold M_many; repeat (rw [if_neg (by rintro rfl; revert hsw; decide)]), rfl, rfl⟩) rfl
  · have hsw2 : w = 0 ∨ w = 1 ∨ w = 2 ∨ w = 3 ∨ w = 4 ∨ w = 5 ∨ w = 6 ∨ w = 7 ∨ w = 8 := by
      simp only [← Int32.toInt_inj]
      simp
      omega
    rcases hsw2 with rfl | rfl | rfl | rfl | rfl | rfl | rfl | rfl | rfl
    · refine x_tableIn (pc := 1) (tgt := 52) (off := 51) K dX8_many_1 (by decide) (by decide) (by decide) (by decide) ?_
      refine x_aload_n (pc := 52) K 0 dX8_many_52 rfl rfl ?_
      refine x_geti (pc := 53) (index := 65) (C := RX8) (T := TX8) (N := 36) (j0 := 0) (ref := "OldMapModel") K (by decide) sh_76 rfl i_X8 (by decide) (by decide +kernel) rfl rfl dX8_many_53 ?_
      exact ret (pc := 56) dX8_many_56 (⟨by simp [M_many], rfl, rfl⟩) rfl
    · refine x_tableIn (pc := 1) (tgt := 57) (off := 56) K dX8_many_1 (by decide) (by decide) (by decide) (by decide) ?_
      refine x_aload_n (pc := 57) K 0 dX8_many_57 rfl rfl ?_
      refine x_calliV (pc := 58) (st := []) (n := 0) K (by decide) sh_76 rfl (c_X8_counting l G _ _ n hn h12) gX8_many_X8_counting (by decide +kernel) rfl (by decide) (by decide) rfl rfl (Nat.le_of_ble_eq_true rfl) dX8_many_58 (fun r_58 I_58 J_58 hp_58 => ?_)
      obtain ⟨rfl, rfl, rfl⟩ := hp_58
      refine x_calliS (pc := 61) (st := []) (n := 1) K (c_X8_manyOf l G _ _ _) gX8_many_X8_manyOf (by decide +kernel) rfl (by decide) (by decide) rfl rfl (Nat.le_of_ble_eq_true rfl) dX8_many_61 (fun r_61 I_61 J_61 hp_61 => ?_)
      obtain ⟨rfl, rfl, rfl⟩ := hp_61
      exact ret (pc := 64) dX8_many_64 (⟨by simp [M_many], rfl, rfl⟩) rfl
    · refine x_tableIn (pc := 1) (tgt := 65) (off := 64) K dX8_many_1 (by decide) (by decide) (by decide) (by decide) ?_
      refine x_aload_n (pc := 65) K 0 dX8_many_65 rfl rfl ?_
      refine x_geti (pc := 66) (index := 183) (C := RX8) (T := TX8) (N := 36) (j0 := 4) (ref := "OldMapModel") K (by decide) sh_76 rfl i_X8 (by decide) (by decide +kernel) rfl rfl dX8_many_66 ?_
      exact ret (pc := 69) dX8_many_69 (⟨by simp [M_many], rfl, rfl⟩) rfl
    · refine x_tableIn (pc := 1) (tgt := 70) (off := 69) K dX8_many_1 (by decide) (by decide) (by decide) (by decide) ?_
      refine x_aload_n (pc := 70) K 0 dX8_many_70 rfl rfl ?_
      refine x_iconst (pc := 71) (v := 1) K dX8_many_71 (by decide) ?_
      refine x_calliV (pc := 72) (st := []) (n := 1) K (by decide) sh_76 rfl (c_X8_inState l G _ _ _ nt ht h10 hA) gX8_many_X8_inState (by decide +kernel) rfl (by decide) (by decide) rfl rfl (Nat.le_of_ble_eq_true rfl) dX8_many_72 (fun r_72 I_72 J_72 hp_72 => ?_)
      obtain ⟨rfl, rfl, rfl⟩ := hp_72
      exact ret (pc := 75) dX8_many_75 (⟨by simp [M_many], rfl, rfl⟩) rfl
    · refine x_tableIn (pc := 1) (tgt := 76) (off := 75) K dX8_many_1 (by decide) (by decide) (by decide) (by decide) ?_
      refine x_aload_n (pc := 76) K 0 dX8_many_76 rfl rfl ?_
      refine x_iconst (pc := 77) (v := 2) K dX8_many_77 (by decide) ?_
      refine x_calliV (pc := 78) (st := []) (n := 1) K (by decide) sh_76 rfl (c_X8_inState l G _ _ _ nt ht h10 hA) gX8_many_X8_inState (by decide +kernel) rfl (by decide) (by decide) rfl rfl (Nat.le_of_ble_eq_true rfl) dX8_many_78 (fun r_78 I_78 J_78 hp_78 => ?_)
      obtain ⟨rfl, rfl, rfl⟩ := hp_78
      exact ret (pc := 81) dX8_many_81 (⟨by simp [M_many], rfl, rfl⟩) rfl
    · refine x_tableIn (pc := 1) (tgt := 82) (off := 81) K dX8_many_1 (by decide) (by decide) (by decide) (by decide) ?_
      refine x_aload_n (pc := 82) K 0 dX8_many_82 rfl rfl ?_
      refine x_getr (r0 := 81) (pc := 83) (index := 23) (C := RX8) (T := TX8) (N := 36) (j0 := 6) (ref := "OldMapModel") K (by decide) sh_76 rfl i_X8 (by decide) (by decide +kernel) rfl rfl rf_76_6 dX8_many_83 ?_
      refine x_iconst (pc := 86) (v := 0) K dX8_many_86 (by decide) ?_
      refine y_iald (j := 0) (pc := 87) K (by decide) sh_81 rfl (by omega) (by decide) dX8_many_87 ?_
      exact ret (pc := 88) dX8_many_88 (⟨by simp [M_many], rfl, rfl⟩) rfl
    · refine x_tableIn (pc := 1) (tgt := 89) (off := 88) K dX8_many_1 (by decide) (by decide) (by decide) (by decide) ?_
      refine x_aload_n (pc := 89) K 0 dX8_many_89 rfl rfl ?_
      refine x_getr (r0 := 81) (pc := 90) (index := 23) (C := RX8) (T := TX8) (N := 36) (j0 := 6) (ref := "OldMapModel") K (by decide) sh_76 rfl i_X8 (by decide) (by decide +kernel) rfl rfl rf_76_6 dX8_many_90 ?_
      refine x_iconst (pc := 93) (v := 1) K dX8_many_93 (by decide) ?_
      refine y_iald (j := 1) (pc := 94) K (by decide) sh_81 rfl (by omega) (by decide) dX8_many_94 ?_
      exact ret (pc := 95) dX8_many_95 (⟨by simp [M_many], rfl, rfl⟩) rfl
    · refine x_tableIn (pc := 1) (tgt := 96) (off := 95) K dX8_many_1 (by decide) (by decide) (by decide) (by decide) ?_
      refine x_aload_n (pc := 96) K 0 dX8_many_96 rfl rfl ?_
      refine x_iconst (pc := 97) (v := 0) K dX8_many_97 (by decide) ?_
      refine x_calliV (pc := 98) (st := []) (n := 1) K (by decide) sh_76 rfl (c_X8_meetings l G _ _ 0 (by omega) nt ht h10 hA) gX8_many_X8_meetings (by decide +kernel) rfl (by decide) (by decide) rfl rfl (Nat.le_of_ble_eq_true rfl) dX8_many_98 (fun r_98 I_98 J_98 hp_98 => ?_)
      obtain ⟨rfl, rfl, rfl⟩ := hp_98
      exact ret (pc := 101) dX8_many_101 (⟨by simp [M_many], rfl, rfl⟩) rfl
    · refine x_tableIn (pc := 1) (tgt := 102) (off := 101) K dX8_many_1 (by decide) (by decide) (by decide) (by decide) ?_
      refine x_aload_n (pc := 102) K 0 dX8_many_102 rfl rfl ?_
      refine x_iconst (pc := 103) (v := 1) K dX8_many_103 (by decide) ?_
      refine x_calliV (pc := 104) (st := []) (n := 1) K (by decide) sh_76 rfl (c_X8_meetings l G _ _ 1 (by omega) nt ht h10 hA) gX8_many_X8_meetings (by decide +kernel) rfl (by decide) (by decide) rfl rfl (Nat.le_of_ble_eq_true rfl) dX8_many_104 (fun r_104 I_104 J_104 hp_104 => ?_)
      obtain ⟨rfl, rfl, rfl⟩ := hp_104
      exact ret (pc := 107) dX8_many_107 (⟨by simp [M_many], rfl, rfl⟩) rfl

set_option maxHeartbeats 1000000 in
set_option maxRecDepth 100000 in
theorem c_X8_copy77 (l : Launch) (G : hQ) (I : hI) (J : hJ) : h_Mv l yX8_copy wsX8_copy 0 0 G [rr G 77, rr G 84] I J (fun I' J' => h_cp I 77 84 48 = I' ∧ J = J') := by
  refine h_Mv.of (cc := cX8_copy) (maxL := 3) [(0, rr G 77), (1, rr G 84)] (by decide +kernel) rfl (Nat.le_of_ble_eq_true rfl) rfl ?_
  intro Γ K ret
  have loop : ∀ k, k ≤ 48 → h_WW Γ G 2 [(2, .int (nI k)), (0, rr G 77), (1, rr G 84)] [] (h_cp I 77 84 k) J := by
    refine loopU 48 (fun k hk ih => ?_)
    refine x_iload_n (pc := 2) K 0 dX8_copy_2 rfl rfl ?_
    refine x_aload_n (pc := 3) K 1 dX8_copy_3 rfl rfl ?_
    refine x_alen (v := 48) (pc := 4) K (by decide) sh_77 rfl (by decide) rfl dX8_copy_4 ?_
    refine x_icmp_ge (pc := 5) (tgt := 20) K dX8_copy_5 (by decide) (fun c_5 => ?_) (fun c_5 => ?_)
    · replace c_5 := cI_le (a := 48) (b := k) rfl rfl (by omega) (by omega) c_5
      exact ret (pc := 20) dX8_copy_20 (⟨by rw [show 48 = k by omega], rfl⟩)
    · replace c_5 := cI_nle (a := 48) (b := k) rfl rfl (by omega) (by omega) c_5
      refine x_aload_n (pc := 8) K 2 dX8_copy_8 rfl rfl ?_
      refine x_iload_n (pc := 9) K 0 dX8_copy_9 rfl rfl ?_
      refine x_aload_n (pc := 10) K 1 dX8_copy_10 rfl rfl ?_
      refine x_iload_n (pc := 11) K 0 dX8_copy_11 rfl rfl ?_
      refine y_iald (j := k) (pc := 12) K (by decide) sh_77 rfl (by omega) (by decide) dX8_copy_12 ?_
      refine x_topie (I 77 k) (by simp [h_cp]) ?_
      refine y_iast (j := k) (pc := 13) K (by decide) sh_84 rfl (by omega) (by decide) dX8_copy_13 ?_
      refine x_eqI cp_s rfl ?_
      refine x_iinc (pc := 14) (q0 := 0) (v := nI (k + 1)) (lo' := [(2, _), (0, _), (1, _)]) K dX8_copy_14 rfl (nI_incE rfl) (by decide) rfl ?_
      refine x_goto (pc := 17) (tgt := 2) K dX8_copy_17 (by decide) ?_
      refine x_lo (lo' := [(2, _), (0, _), (1, _)]) [0, 1, 2] rfl ?_
      exact x_loe (by rfl) (ih (by omega))
  refine x_iconst (pc := 0) (v := 0) K dX8_copy_0 (by decide) ?_
  refine x_istore_n (pc := 1) (lo' := [(2, _), (0, _), (1, _)]) K dX8_copy_1 rfl (by decide) rfl ?_
  refine x_eqI (cp_0 (a := 77) (b := 84)).symm rfl ?_
  refine x_lo (lo' := [(2, _), (0, _), (1, _)]) [0, 1, 2] rfl ?_
  exact x_loe (by rfl) (loop 0 (Nat.zero_le _))

set_option maxHeartbeats 1000000 in
set_option maxRecDepth 100000 in
theorem c_X8_copy80 (l : Launch) (G : hQ) (I : hI) (J : hJ) : h_Mv l yX8_copy wsX8_copy 0 0 G [rr G 80, rr G 86] I J (fun I' J' => h_cp I 80 86 30 = I' ∧ J = J') := by
  refine h_Mv.of (cc := cX8_copy) (maxL := 3) [(0, rr G 80), (1, rr G 86)] (by decide +kernel) rfl (Nat.le_of_ble_eq_true rfl) rfl ?_
  intro Γ K ret
  have loop : ∀ k, k ≤ 30 → h_WW Γ G 2 [(2, .int (nI k)), (0, rr G 80), (1, rr G 86)] [] (h_cp I 80 86 k) J := by
    refine loopU 30 (fun k hk ih => ?_)
    refine x_iload_n (pc := 2) K 0 dX8_copy_2 rfl rfl ?_
    refine x_aload_n (pc := 3) K 1 dX8_copy_3 rfl rfl ?_
    refine x_alen (v := 30) (pc := 4) K (by decide) sh_80 rfl (by decide) rfl dX8_copy_4 ?_
    refine x_icmp_ge (pc := 5) (tgt := 20) K dX8_copy_5 (by decide) (fun c_5 => ?_) (fun c_5 => ?_)
    · replace c_5 := cI_le (a := 30) (b := k) rfl rfl (by omega) (by omega) c_5
      exact ret (pc := 20) dX8_copy_20 (⟨by rw [show 30 = k by omega], rfl⟩)
    · replace c_5 := cI_nle (a := 30) (b := k) rfl rfl (by omega) (by omega) c_5
      refine x_aload_n (pc := 8) K 2 dX8_copy_8 rfl rfl ?_
      refine x_iload_n (pc := 9) K 0 dX8_copy_9 rfl rfl ?_
      refine x_aload_n (pc := 10) K 1 dX8_copy_10 rfl rfl ?_
      refine x_iload_n (pc := 11) K 0 dX8_copy_11 rfl rfl ?_
      refine y_iald (j := k) (pc := 12) K (by decide) sh_80 rfl (by omega) (by decide) dX8_copy_12 ?_
      refine x_topie (I 80 k) (by simp [h_cp]) ?_
      refine y_iast (j := k) (pc := 13) K (by decide) sh_86 rfl (by omega) (by decide) dX8_copy_13 ?_
      refine x_eqI cp_s rfl ?_
      refine x_iinc (pc := 14) (q0 := 0) (v := nI (k + 1)) (lo' := [(2, _), (0, _), (1, _)]) K dX8_copy_14 rfl (nI_incE rfl) (by decide) rfl ?_
      refine x_goto (pc := 17) (tgt := 2) K dX8_copy_17 (by decide) ?_
      refine x_lo (lo' := [(2, _), (0, _), (1, _)]) [0, 1, 2] rfl ?_
      exact x_loe (by rfl) (ih (by omega))
  refine x_iconst (pc := 0) (v := 0) K dX8_copy_0 (by decide) ?_
  refine x_istore_n (pc := 1) (lo' := [(2, _), (0, _), (1, _)]) K dX8_copy_1 rfl (by decide) rfl ?_
  refine x_eqI (cp_0 (a := 80) (b := 86)).symm rfl ?_
  refine x_lo (lo' := [(2, _), (0, _), (1, _)]) [0, 1, 2] rfl ?_
  exact x_loe (by rfl) (loop 0 (Nat.zero_le _))

set_option maxHeartbeats 1000000 in
set_option maxRecDepth 100000 in
theorem c_X8_copy82 (l : Launch) (G : hQ) (I : hI) (J : hJ) : h_Mv l yX8_copy wsX8_copy 0 0 G [rr G 82, rr G 87] I J (fun I' J' => h_cp I 82 87 36 = I' ∧ J = J') := by
  refine h_Mv.of (cc := cX8_copy) (maxL := 3) [(0, rr G 82), (1, rr G 87)] (by decide +kernel) rfl (Nat.le_of_ble_eq_true rfl) rfl ?_
  intro Γ K ret
  have loop : ∀ k, k ≤ 36 → h_WW Γ G 2 [(2, .int (nI k)), (0, rr G 82), (1, rr G 87)] [] (h_cp I 82 87 k) J := by
    refine loopU 36 (fun k hk ih => ?_)
    refine x_iload_n (pc := 2) K 0 dX8_copy_2 rfl rfl ?_
    refine x_aload_n (pc := 3) K 1 dX8_copy_3 rfl rfl ?_
    refine x_alen (v := 36) (pc := 4) K (by decide) sh_82 rfl (by decide) rfl dX8_copy_4 ?_
    refine x_icmp_ge (pc := 5) (tgt := 20) K dX8_copy_5 (by decide) (fun c_5 => ?_) (fun c_5 => ?_)
    · replace c_5 := cI_le (a := 36) (b := k) rfl rfl (by omega) (by omega) c_5
      exact ret (pc := 20) dX8_copy_20 (⟨by rw [show 36 = k by omega], rfl⟩)
    · replace c_5 := cI_nle (a := 36) (b := k) rfl rfl (by omega) (by omega) c_5
      refine x_aload_n (pc := 8) K 2 dX8_copy_8 rfl rfl ?_
      refine x_iload_n (pc := 9) K 0 dX8_copy_9 rfl rfl ?_
      refine x_aload_n (pc := 10) K 1 dX8_copy_10 rfl rfl ?_
      refine x_iload_n (pc := 11) K 0 dX8_copy_11 rfl rfl ?_
      refine y_iald (j := k) (pc := 12) K (by decide) sh_82 rfl (by omega) (by decide) dX8_copy_12 ?_
      refine x_topie (I 82 k) (by simp [h_cp]) ?_
      refine y_iast (j := k) (pc := 13) K (by decide) sh_87 rfl (by omega) (by decide) dX8_copy_13 ?_
      refine x_eqI cp_s rfl ?_
      refine x_iinc (pc := 14) (q0 := 0) (v := nI (k + 1)) (lo' := [(2, _), (0, _), (1, _)]) K dX8_copy_14 rfl (nI_incE rfl) (by decide) rfl ?_
      refine x_goto (pc := 17) (tgt := 2) K dX8_copy_17 (by decide) ?_
      refine x_lo (lo' := [(2, _), (0, _), (1, _)]) [0, 1, 2] rfl ?_
      exact x_loe (by rfl) (ih (by omega))
  refine x_iconst (pc := 0) (v := 0) K dX8_copy_0 (by decide) ?_
  refine x_istore_n (pc := 1) (lo' := [(2, _), (0, _), (1, _)]) K dX8_copy_1 rfl (by decide) rfl ?_
  refine x_eqI (cp_0 (a := 82) (b := 87)).symm rfl ?_
  refine x_lo (lo' := [(2, _), (0, _), (1, _)]) [0, 1, 2] rfl ?_
  exact x_loe (by rfl) (loop 0 (Nat.zero_le _))

set_option maxHeartbeats 1000000 in
set_option maxRecDepth 100000 in
theorem c_X8_copy84 (l : Launch) (G : hQ) (I : hI) (J : hJ) : h_Mv l yX8_copy wsX8_copy 0 0 G [rr G 84, rr G 77] I J (fun I' J' => h_cp I 84 77 48 = I' ∧ J = J') := by
  refine h_Mv.of (cc := cX8_copy) (maxL := 3) [(0, rr G 84), (1, rr G 77)] (by decide +kernel) rfl (Nat.le_of_ble_eq_true rfl) rfl ?_
  intro Γ K ret
  have loop : ∀ k, k ≤ 48 → h_WW Γ G 2 [(2, .int (nI k)), (0, rr G 84), (1, rr G 77)] [] (h_cp I 84 77 k) J := by
    refine loopU 48 (fun k hk ih => ?_)
    refine x_iload_n (pc := 2) K 0 dX8_copy_2 rfl rfl ?_
    refine x_aload_n (pc := 3) K 1 dX8_copy_3 rfl rfl ?_
    refine x_alen (v := 48) (pc := 4) K (by decide) sh_84 rfl (by decide) rfl dX8_copy_4 ?_
    refine x_icmp_ge (pc := 5) (tgt := 20) K dX8_copy_5 (by decide) (fun c_5 => ?_) (fun c_5 => ?_)
    · replace c_5 := cI_le (a := 48) (b := k) rfl rfl (by omega) (by omega) c_5
      exact ret (pc := 20) dX8_copy_20 (⟨by rw [show 48 = k by omega], rfl⟩)
    · replace c_5 := cI_nle (a := 48) (b := k) rfl rfl (by omega) (by omega) c_5
      refine x_aload_n (pc := 8) K 2 dX8_copy_8 rfl rfl ?_
      refine x_iload_n (pc := 9) K 0 dX8_copy_9 rfl rfl ?_
      refine x_aload_n (pc := 10) K 1 dX8_copy_10 rfl rfl ?_
      refine x_iload_n (pc := 11) K 0 dX8_copy_11 rfl rfl ?_
      refine y_iald (j := k) (pc := 12) K (by decide) sh_84 rfl (by omega) (by decide) dX8_copy_12 ?_
      refine x_topie (I 84 k) (by simp [h_cp]) ?_
      refine y_iast (j := k) (pc := 13) K (by decide) sh_77 rfl (by omega) (by decide) dX8_copy_13 ?_
      refine x_eqI cp_s rfl ?_
      refine x_iinc (pc := 14) (q0 := 0) (v := nI (k + 1)) (lo' := [(2, _), (0, _), (1, _)]) K dX8_copy_14 rfl (nI_incE rfl) (by decide) rfl ?_
      refine x_goto (pc := 17) (tgt := 2) K dX8_copy_17 (by decide) ?_
      refine x_lo (lo' := [(2, _), (0, _), (1, _)]) [0, 1, 2] rfl ?_
      exact x_loe (by rfl) (ih (by omega))
  refine x_iconst (pc := 0) (v := 0) K dX8_copy_0 (by decide) ?_
  refine x_istore_n (pc := 1) (lo' := [(2, _), (0, _), (1, _)]) K dX8_copy_1 rfl (by decide) rfl ?_
  refine x_eqI (cp_0 (a := 84) (b := 77)).symm rfl ?_
  refine x_lo (lo' := [(2, _), (0, _), (1, _)]) [0, 1, 2] rfl ?_
  exact x_loe (by rfl) (loop 0 (Nat.zero_le _))

set_option maxHeartbeats 1000000 in
set_option maxRecDepth 100000 in
theorem c_X8_copy86 (l : Launch) (G : hQ) (I : hI) (J : hJ) : h_Mv l yX8_copy wsX8_copy 0 0 G [rr G 86, rr G 80] I J (fun I' J' => h_cp I 86 80 30 = I' ∧ J = J') := by
  refine h_Mv.of (cc := cX8_copy) (maxL := 3) [(0, rr G 86), (1, rr G 80)] (by decide +kernel) rfl (Nat.le_of_ble_eq_true rfl) rfl ?_
  intro Γ K ret
  have loop : ∀ k, k ≤ 30 → h_WW Γ G 2 [(2, .int (nI k)), (0, rr G 86), (1, rr G 80)] [] (h_cp I 86 80 k) J := by
    refine loopU 30 (fun k hk ih => ?_)
    refine x_iload_n (pc := 2) K 0 dX8_copy_2 rfl rfl ?_
    refine x_aload_n (pc := 3) K 1 dX8_copy_3 rfl rfl ?_
    refine x_alen (v := 30) (pc := 4) K (by decide) sh_86 rfl (by decide) rfl dX8_copy_4 ?_
    refine x_icmp_ge (pc := 5) (tgt := 20) K dX8_copy_5 (by decide) (fun c_5 => ?_) (fun c_5 => ?_)
    · replace c_5 := cI_le (a := 30) (b := k) rfl rfl (by omega) (by omega) c_5
      exact ret (pc := 20) dX8_copy_20 (⟨by rw [show 30 = k by omega], rfl⟩)
    · replace c_5 := cI_nle (a := 30) (b := k) rfl rfl (by omega) (by omega) c_5
      refine x_aload_n (pc := 8) K 2 dX8_copy_8 rfl rfl ?_
      refine x_iload_n (pc := 9) K 0 dX8_copy_9 rfl rfl ?_
      refine x_aload_n (pc := 10) K 1 dX8_copy_10 rfl rfl ?_
      refine x_iload_n (pc := 11) K 0 dX8_copy_11 rfl rfl ?_
      refine y_iald (j := k) (pc := 12) K (by decide) sh_86 rfl (by omega) (by decide) dX8_copy_12 ?_
      refine x_topie (I 86 k) (by simp [h_cp]) ?_
      refine y_iast (j := k) (pc := 13) K (by decide) sh_80 rfl (by omega) (by decide) dX8_copy_13 ?_
      refine x_eqI cp_s rfl ?_
      refine x_iinc (pc := 14) (q0 := 0) (v := nI (k + 1)) (lo' := [(2, _), (0, _), (1, _)]) K dX8_copy_14 rfl (nI_incE rfl) (by decide) rfl ?_
      refine x_goto (pc := 17) (tgt := 2) K dX8_copy_17 (by decide) ?_
      refine x_lo (lo' := [(2, _), (0, _), (1, _)]) [0, 1, 2] rfl ?_
      exact x_loe (by rfl) (ih (by omega))
  refine x_iconst (pc := 0) (v := 0) K dX8_copy_0 (by decide) ?_
  refine x_istore_n (pc := 1) (lo' := [(2, _), (0, _), (1, _)]) K dX8_copy_1 rfl (by decide) rfl ?_
  refine x_eqI (cp_0 (a := 86) (b := 80)).symm rfl ?_
  refine x_lo (lo' := [(2, _), (0, _), (1, _)]) [0, 1, 2] rfl ?_
  exact x_loe (by rfl) (loop 0 (Nat.zero_le _))

set_option maxHeartbeats 1000000 in
set_option maxRecDepth 100000 in
theorem c_X8_copy87 (l : Launch) (G : hQ) (I : hI) (J : hJ) : h_Mv l yX8_copy wsX8_copy 0 0 G [rr G 87, rr G 82] I J (fun I' J' => h_cp I 87 82 36 = I' ∧ J = J') := by
  refine h_Mv.of (cc := cX8_copy) (maxL := 3) [(0, rr G 87), (1, rr G 82)] (by decide +kernel) rfl (Nat.le_of_ble_eq_true rfl) rfl ?_
  intro Γ K ret
  have loop : ∀ k, k ≤ 36 → h_WW Γ G 2 [(2, .int (nI k)), (0, rr G 87), (1, rr G 82)] [] (h_cp I 87 82 k) J := by
    refine loopU 36 (fun k hk ih => ?_)
    refine x_iload_n (pc := 2) K 0 dX8_copy_2 rfl rfl ?_
    refine x_aload_n (pc := 3) K 1 dX8_copy_3 rfl rfl ?_
    refine x_alen (v := 36) (pc := 4) K (by decide) sh_87 rfl (by decide) rfl dX8_copy_4 ?_
    refine x_icmp_ge (pc := 5) (tgt := 20) K dX8_copy_5 (by decide) (fun c_5 => ?_) (fun c_5 => ?_)
    · replace c_5 := cI_le (a := 36) (b := k) rfl rfl (by omega) (by omega) c_5
      exact ret (pc := 20) dX8_copy_20 (⟨by rw [show 36 = k by omega], rfl⟩)
    · replace c_5 := cI_nle (a := 36) (b := k) rfl rfl (by omega) (by omega) c_5
      refine x_aload_n (pc := 8) K 2 dX8_copy_8 rfl rfl ?_
      refine x_iload_n (pc := 9) K 0 dX8_copy_9 rfl rfl ?_
      refine x_aload_n (pc := 10) K 1 dX8_copy_10 rfl rfl ?_
      refine x_iload_n (pc := 11) K 0 dX8_copy_11 rfl rfl ?_
      refine y_iald (j := k) (pc := 12) K (by decide) sh_87 rfl (by omega) (by decide) dX8_copy_12 ?_
      refine x_topie (I 87 k) (by simp [h_cp]) ?_
      refine y_iast (j := k) (pc := 13) K (by decide) sh_82 rfl (by omega) (by decide) dX8_copy_13 ?_
      refine x_eqI cp_s rfl ?_
      refine x_iinc (pc := 14) (q0 := 0) (v := nI (k + 1)) (lo' := [(2, _), (0, _), (1, _)]) K dX8_copy_14 rfl (nI_incE rfl) (by decide) rfl ?_
      refine x_goto (pc := 17) (tgt := 2) K dX8_copy_17 (by decide) ?_
      refine x_lo (lo' := [(2, _), (0, _), (1, _)]) [0, 1, 2] rfl ?_
      exact x_loe (by rfl) (ih (by omega))
  refine x_iconst (pc := 0) (v := 0) K dX8_copy_0 (by decide) ?_
  refine x_istore_n (pc := 1) (lo' := [(2, _), (0, _), (1, _)]) K dX8_copy_1 rfl (by decide) rfl ?_
  refine x_eqI (cp_0 (a := 87) (b := 82)).symm rfl ?_
  refine x_lo (lo' := [(2, _), (0, _), (1, _)]) [0, 1, 2] rfl ?_
  exact x_loe (by rfl) (loop 0 (Nat.zero_le _))

set_option maxHeartbeats 1000000 in
set_option maxRecDepth 100000 in
theorem c_X8_keep (l : Launch) (G : hQ) (I : hI) (J : hJ) : h_Mi l yX8_keep wsX8_keep 1 22 G [rr G 76] I J (fun ρ I' J' => 1 = ρ ∧ (∀ c, c ≠ 85 → I' c = kpK I c) ∧ (∀ p, p < 12 → I' 85 p = ksM I p) ∧ J = J') := by
  refine h_Mi.of (ty := .int) (cc := cX8_keep) (maxL := 2) [(0, rr G 76)] (by decide +kernel) rfl (Nat.le_of_ble_eq_true rfl) rfl ?_
  intro Γ K ret
  have i_X8 : ∀ w ∈ u_ws RX8 TX8 36, w ∈ wsX8_keep := by decide +kernel
  have loop : ∀ k, k ≤ 12 → ∀ (I1 : hI), (kpV I I1 k) → h_WW Γ G 84 [(1, .int (nI k)), (0, rr G 76)] [] I1 J := by
    refine loopU 12 (fun k hk ih => ?_)
    intro I1 h
    refine x_iload_n (pc := 84) K 0 dX8_keep_84 rfl rfl ?_
    refine x_bipush (pc := 85) (v := 12) K dX8_keep_85 (by decide) ?_
    refine x_icmp_ge (pc := 87) (tgt := 131) K dX8_keep_87 (by decide) (fun c_87 => ?_) (fun c_87 => ?_)
    · replace c_87 := cI_le (a := 12) (b := k) rfl rfl (by omega) (by omega) c_87
      refine x_iconst (pc := 131) (v := 1) K dX8_keep_131 (by decide) ?_
      exact ret (pc := 132) dX8_keep_132 (⟨rfl, h.1, fun p hp => h.2 p (by omega), rfl⟩) rfl
    · replace c_87 := cI_nle (a := 12) (b := k) rfl rfl (by omega) (by omega) c_87
      refine x_aload_n (pc := 90) K 1 dX8_keep_90 rfl rfl ?_
      refine x_getr (r0 := 85) (pc := 91) (index := 42) (C := RX8) (T := TX8) (N := 36) (j0 := 13) (ref := "OldMapModel") K (by decide) sh_76 rfl i_X8 (by decide) (by decide +kernel) rfl rfl rf_76_13 dX8_keep_91 ?_
      refine x_iload_n (pc := 94) K 0 dX8_keep_94 rfl rfl ?_
      refine x_aload_n (pc := 95) K 1 dX8_keep_95 rfl rfl ?_
      refine x_getr (r0 := 78) (pc := 96) (index := 13) (C := RX8) (T := TX8) (N := 36) (j0 := 2) (ref := "OldMapModel") K (by decide) sh_76 rfl i_X8 (by decide) (by decide +kernel) rfl rfl rf_76_2 dX8_keep_96 ?_
      refine x_iload_n (pc := 99) K 0 dX8_keep_99 rfl rfl ?_
      refine y_zald (j := k) (pc := 100) K (by decide) sh_78 rfl (by omega) (by decide) dX8_keep_100 ?_
      refine x_topie (I 78 k) (by rw [h.1 78 (by decide)]; simp [kpK, h_up, h_cp]) ?_
      refine x_if_eq (pc := 101) (tgt := 108) K dX8_keep_101 (by decide) (fun c_101 => ?_) (fun c_101 => ?_)
      · refine x_iconst (pc := 108) (v := 0) K dX8_keep_108 (by decide) ?_
        refine x_aload_n (pc := 109) K 1 dX8_keep_109 rfl rfl ?_
        refine x_getr (r0 := 79) (pc := 110) (index := 17) (C := RX8) (T := TX8) (N := 36) (j0 := 3) (ref := "OldMapModel") K (by decide) sh_76 rfl i_X8 (by decide) (by decide +kernel) rfl rfl rf_76_3 dX8_keep_110 ?_
        refine x_iload_n (pc := 113) K 0 dX8_keep_113 rfl rfl ?_
        refine y_zald (j := k) (pc := 114) K (by decide) sh_79 rfl (by omega) (by decide) dX8_keep_114 ?_
        refine x_topie (I 79 k) (by rw [h.1 79 (by decide)]; simp [kpK, h_up, h_cp]) ?_
        refine x_if_eq (pc := 115) (tgt := 122) K dX8_keep_115 (by decide) (fun c_115 => ?_) (fun c_115 => ?_)
        · refine x_iconst (pc := 122) (v := 0) K dX8_keep_122 (by decide) ?_
          refine x_iadd (pc := 123) K dX8_keep_123 ?_
          refine x_topie (ksM I k) (by rw [ksM, if_pos c_101, if_pos c_115]) ?_
          refine y_iast (j := k) (pc := 124) K (by decide) sh_85 rfl (by omega) (by decide) dX8_keep_124 ?_
          refine x_iinc (pc := 125) (q0 := 0) (v := nI (k + 1)) (lo' := [(1, _), (0, _)]) K dX8_keep_125 rfl (nI_incE rfl) (by decide) rfl ?_
          refine x_goto (pc := 128) (tgt := 84) K dX8_keep_128 (by decide) ?_
          refine x_lo (lo' := [(1, _), (0, _)]) [0, 1] rfl ?_
          exact x_loe (by rfl) (ih (by omega) _ (kp_step h rfl))
        · refine x_iconst (pc := 118) (v := 2) K dX8_keep_118 (by decide) ?_
          refine x_goto (pc := 119) (tgt := 123) K dX8_keep_119 (by decide) ?_
          refine x_iadd (pc := 123) K dX8_keep_123 ?_
          refine x_topie (ksM I k) (by rw [ksM, if_pos c_101, if_neg c_115]) ?_
          refine y_iast (j := k) (pc := 124) K (by decide) sh_85 rfl (by omega) (by decide) dX8_keep_124 ?_
          refine x_iinc (pc := 125) (q0 := 0) (v := nI (k + 1)) (lo' := [(1, _), (0, _)]) K dX8_keep_125 rfl (nI_incE rfl) (by decide) rfl ?_
          refine x_goto (pc := 128) (tgt := 84) K dX8_keep_128 (by decide) ?_
          refine x_lo (lo' := [(1, _), (0, _)]) [0, 1] rfl ?_
          exact x_loe (by rfl) (ih (by omega) _ (kp_step h rfl))
      · refine x_iconst (pc := 104) (v := 1) K dX8_keep_104 (by decide) ?_
        refine x_goto (pc := 105) (tgt := 109) K dX8_keep_105 (by decide) ?_
        refine x_aload_n (pc := 109) K 1 dX8_keep_109 rfl rfl ?_
        refine x_getr (r0 := 79) (pc := 110) (index := 17) (C := RX8) (T := TX8) (N := 36) (j0 := 3) (ref := "OldMapModel") K (by decide) sh_76 rfl i_X8 (by decide) (by decide +kernel) rfl rfl rf_76_3 dX8_keep_110 ?_
        refine x_iload_n (pc := 113) K 0 dX8_keep_113 rfl rfl ?_
        refine y_zald (j := k) (pc := 114) K (by decide) sh_79 rfl (by omega) (by decide) dX8_keep_114 ?_
        refine x_topie (I 79 k) (by rw [h.1 79 (by decide)]; simp [kpK, h_up, h_cp]) ?_
        refine x_if_eq (pc := 115) (tgt := 122) K dX8_keep_115 (by decide) (fun c_115 => ?_) (fun c_115 => ?_)
        · refine x_iconst (pc := 122) (v := 0) K dX8_keep_122 (by decide) ?_
          refine x_iadd (pc := 123) K dX8_keep_123 ?_
          refine x_topie (ksM I k) (by rw [ksM, if_neg c_101, if_pos c_115]) ?_
          refine y_iast (j := k) (pc := 124) K (by decide) sh_85 rfl (by omega) (by decide) dX8_keep_124 ?_
          refine x_iinc (pc := 125) (q0 := 0) (v := nI (k + 1)) (lo' := [(1, _), (0, _)]) K dX8_keep_125 rfl (nI_incE rfl) (by decide) rfl ?_
          refine x_goto (pc := 128) (tgt := 84) K dX8_keep_128 (by decide) ?_
          refine x_lo (lo' := [(1, _), (0, _)]) [0, 1] rfl ?_
          exact x_loe (by rfl) (ih (by omega) _ (kp_step h rfl))
        · refine x_iconst (pc := 118) (v := 2) K dX8_keep_118 (by decide) ?_
          refine x_goto (pc := 119) (tgt := 123) K dX8_keep_119 (by decide) ?_
          refine x_iadd (pc := 123) K dX8_keep_123 ?_
          refine x_topie (ksM I k) (by rw [ksM, if_neg c_101, if_neg c_115]) ?_
          refine y_iast (j := k) (pc := 124) K (by decide) sh_85 rfl (by omega) (by decide) dX8_keep_124 ?_
          refine x_iinc (pc := 125) (q0 := 0) (v := nI (k + 1)) (lo' := [(1, _), (0, _)]) K dX8_keep_125 rfl (nI_incE rfl) (by decide) rfl ?_
          refine x_goto (pc := 128) (tgt := 84) K dX8_keep_128 (by decide) ?_
          refine x_lo (lo' := [(1, _), (0, _)]) [0, 1] rfl ?_
          exact x_loe (by rfl) (ih (by omega) _ (kp_step h rfl))
  refine x_aload_n (pc := 0) K 0 dX8_keep_0 rfl rfl ?_
  refine x_iconst (pc := 1) (v := 1) K dX8_keep_1 (by decide) ?_
  refine x_puti (ty := .boolean) (pc := 2) (index := 248) (C := RX8) (T := TX8) (N := 36) (j0 := 10) (ref := "OldMapModel") K (by decide) sh_76 rfl i_X8 (by decide) (by decide +kernel) rfl tyX8 tyX8_ok nmX8 rfl (by decide +kernel) rfl rfl rfl dX8_keep_2 ?_
  refine x_aload_n (pc := 5) K 0 dX8_keep_5 rfl rfl ?_
  refine x_getr (r0 := 83) (pc := 6) (index := 36) (C := RX8) (T := TX8) (N := 36) (j0 := 11) (ref := "OldMapModel") K (by decide) sh_76 rfl i_X8 (by decide) (by decide +kernel) rfl rfl rf_76_11 dX8_keep_6 ?_
  refine x_iconst (pc := 9) (v := 0) K dX8_keep_9 (by decide) ?_
  refine x_aload_n (pc := 10) K 0 dX8_keep_10 rfl rfl ?_
  refine x_geti (pc := 11) (index := 65) (C := RX8) (T := TX8) (N := 36) (j0 := 0) (ref := "OldMapModel") K (by decide) sh_76 rfl i_X8 (by decide) (by decide +kernel) rfl rfl dX8_keep_11 ?_
  refine x_topie (I 76 0) (by simp [h_up]) ?_
  refine y_iast (j := 0) (pc := 14) K (by decide) sh_83 rfl (by omega) (by decide) dX8_keep_14 ?_
  refine x_aload_n (pc := 15) K 0 dX8_keep_15 rfl rfl ?_
  refine x_getr (r0 := 83) (pc := 16) (index := 36) (C := RX8) (T := TX8) (N := 36) (j0 := 11) (ref := "OldMapModel") K (by decide) sh_76 rfl i_X8 (by decide) (by decide +kernel) rfl rfl rf_76_11 dX8_keep_16 ?_
  refine x_iconst (pc := 19) (v := 1) K dX8_keep_19 (by decide) ?_
  refine x_aload_n (pc := 20) K 0 dX8_keep_20 rfl rfl ?_
  refine x_geti (pc := 21) (index := 183) (C := RX8) (T := TX8) (N := 36) (j0 := 4) (ref := "OldMapModel") K (by decide) sh_76 rfl i_X8 (by decide) (by decide +kernel) rfl rfl dX8_keep_21 ?_
  refine x_topie (I 76 4) (by simp [h_up]) ?_
  refine y_iast (j := 1) (pc := 24) K (by decide) sh_83 rfl (by omega) (by decide) dX8_keep_24 ?_
  refine x_aload_n (pc := 25) K 0 dX8_keep_25 rfl rfl ?_
  refine x_getr (r0 := 83) (pc := 26) (index := 36) (C := RX8) (T := TX8) (N := 36) (j0 := 11) (ref := "OldMapModel") K (by decide) sh_76 rfl i_X8 (by decide) (by decide +kernel) rfl rfl rf_76_11 dX8_keep_26 ?_
  refine x_iconst (pc := 29) (v := 2) K dX8_keep_29 (by decide) ?_
  refine x_aload_n (pc := 30) K 0 dX8_keep_30 rfl rfl ?_
  refine x_getr (r0 := 81) (pc := 31) (index := 23) (C := RX8) (T := TX8) (N := 36) (j0 := 6) (ref := "OldMapModel") K (by decide) sh_76 rfl i_X8 (by decide) (by decide +kernel) rfl rfl rf_76_6 dX8_keep_31 ?_
  refine x_iconst (pc := 34) (v := 0) K dX8_keep_34 (by decide) ?_
  refine y_iald (j := 0) (pc := 35) K (by decide) sh_81 rfl (by omega) (by decide) dX8_keep_35 ?_
  refine x_topie (I 81 0) (by simp [h_up]) ?_
  refine y_iast (j := 2) (pc := 36) K (by decide) sh_83 rfl (by omega) (by decide) dX8_keep_36 ?_
  refine x_aload_n (pc := 37) K 0 dX8_keep_37 rfl rfl ?_
  refine x_getr (r0 := 83) (pc := 38) (index := 36) (C := RX8) (T := TX8) (N := 36) (j0 := 11) (ref := "OldMapModel") K (by decide) sh_76 rfl i_X8 (by decide) (by decide +kernel) rfl rfl rf_76_11 dX8_keep_38 ?_
  refine x_iconst (pc := 41) (v := 3) K dX8_keep_41 (by decide) ?_
  refine x_aload_n (pc := 42) K 0 dX8_keep_42 rfl rfl ?_
  refine x_getr (r0 := 81) (pc := 43) (index := 23) (C := RX8) (T := TX8) (N := 36) (j0 := 6) (ref := "OldMapModel") K (by decide) sh_76 rfl i_X8 (by decide) (by decide +kernel) rfl rfl rf_76_6 dX8_keep_43 ?_
  refine x_iconst (pc := 46) (v := 1) K dX8_keep_46 (by decide) ?_
  refine y_iald (j := 1) (pc := 47) K (by decide) sh_81 rfl (by omega) (by decide) dX8_keep_47 ?_
  refine x_topie (I 81 1) (by simp [h_up]) ?_
  refine y_iast (j := 3) (pc := 48) K (by decide) sh_83 rfl (by omega) (by decide) dX8_keep_48 ?_
  refine x_aload_n (pc := 49) K 0 dX8_keep_49 rfl rfl ?_
  refine x_getr (r0 := 77) (pc := 50) (index := 7) (C := RX8) (T := TX8) (N := 36) (j0 := 1) (ref := "OldMapModel") K (by decide) sh_76 rfl i_X8 (by decide) (by decide +kernel) rfl rfl rf_76_1 dX8_keep_50 ?_
  refine x_aload_n (pc := 53) K 0 dX8_keep_53 rfl rfl ?_
  refine x_getr (r0 := 84) (pc := 54) (index := 39) (C := RX8) (T := TX8) (N := 36) (j0 := 12) (ref := "OldMapModel") K (by decide) sh_76 rfl i_X8 (by decide) (by decide +kernel) rfl rfl rf_76_12 dX8_keep_54 ?_
  refine x_callvS (pc := 57) (st := []) (n := 2) K (c_X8_copy77 l G _ _) gX8_keep_X8_copy (by decide +kernel) rfl (by decide) (by decide) rfl rfl (Nat.le_of_ble_eq_true rfl) dX8_keep_57 (fun I_57 J_57 hp_57 => ?_)
  obtain ⟨rfl, rfl⟩ := hp_57
  refine x_aload_n (pc := 60) K 0 dX8_keep_60 rfl rfl ?_
  refine x_getr (r0 := 80) (pc := 61) (index := 20) (C := RX8) (T := TX8) (N := 36) (j0 := 5) (ref := "OldMapModel") K (by decide) sh_76 rfl i_X8 (by decide) (by decide +kernel) rfl rfl rf_76_5 dX8_keep_61 ?_
  refine x_aload_n (pc := 64) K 0 dX8_keep_64 rfl rfl ?_
  refine x_getr (r0 := 86) (pc := 65) (index := 45) (C := RX8) (T := TX8) (N := 36) (j0 := 14) (ref := "OldMapModel") K (by decide) sh_76 rfl i_X8 (by decide) (by decide +kernel) rfl rfl rf_76_14 dX8_keep_65 ?_
  refine x_callvS (pc := 68) (st := []) (n := 2) K (c_X8_copy80 l G _ _) gX8_keep_X8_copy (by decide +kernel) rfl (by decide) (by decide) rfl rfl (Nat.le_of_ble_eq_true rfl) dX8_keep_68 (fun I_68 J_68 hp_68 => ?_)
  obtain ⟨rfl, rfl⟩ := hp_68
  refine x_aload_n (pc := 71) K 0 dX8_keep_71 rfl rfl ?_
  refine x_getr (r0 := 82) (pc := 72) (index := 26) (C := RX8) (T := TX8) (N := 36) (j0 := 7) (ref := "OldMapModel") K (by decide) sh_76 rfl i_X8 (by decide) (by decide +kernel) rfl rfl rf_76_7 dX8_keep_72 ?_
  refine x_aload_n (pc := 75) K 0 dX8_keep_75 rfl rfl ?_
  refine x_getr (r0 := 87) (pc := 76) (index := 48) (C := RX8) (T := TX8) (N := 36) (j0 := 15) (ref := "OldMapModel") K (by decide) sh_76 rfl i_X8 (by decide) (by decide +kernel) rfl rfl rf_76_15 dX8_keep_76 ?_
  refine x_callvS (pc := 79) (st := []) (n := 2) K (c_X8_copy82 l G _ _) gX8_keep_X8_copy (by decide +kernel) rfl (by decide) (by decide) rfl rfl (Nat.le_of_ble_eq_true rfl) dX8_keep_79 (fun I_79 J_79 hp_79 => ?_)
  obtain ⟨rfl, rfl⟩ := hp_79
  refine x_iconst (pc := 82) (v := 0) K dX8_keep_82 (by decide) ?_
  refine x_istore_n (pc := 83) (lo' := [(1, _), (0, _)]) K dX8_keep_83 rfl (by decide) rfl ?_
  refine x_eqI (I' := kpK I) (J' := J) rfl rfl ?_
  refine x_lo (lo' := [(1, _), (0, _)]) [0, 1] rfl ?_
  exact x_loe (by rfl) (loop 0 (Nat.zero_le _) _ ⟨fun _ _ => rfl, fun p h => absurd h (by omega)⟩)

set_option maxHeartbeats 1000000 in
set_option maxRecDepth 100000 in
theorem c_X8_back (l : Launch) (G : hQ) (I : hI) (J : hJ) : h_Mi l yX8_back wsX8_back 1 22 G [rr G 76] I J (fun ρ I' J' => (if I 76 10 = 0 then -5 else 1) = ρ ∧ (∀ c, c ≠ 78 → c ≠ 79 → I' c = (if I 76 10 = 0 then I else bkK I) c) ∧ (∀ p, p < 12 → I' 78 p = if I 76 10 = 0 then I 78 p else bsM I p) ∧ (∀ p, p < 12 → I' 79 p = if I 76 10 = 0 then I 79 p else biM I p) ∧ J = J') := by
  refine h_Mi.of (ty := .int) (cc := cX8_back) (maxL := 2) [(0, rr G 76)] (by decide +kernel) rfl (Nat.le_of_ble_eq_true rfl) rfl ?_
  intro Γ K ret
  have i_X8 : ∀ w ∈ u_ws RX8 TX8 36, w ∈ wsX8_back := by decide +kernel
  refine x_aload_n (pc := 0) K 0 dX8_back_0 rfl rfl ?_
  refine x_geti (pc := 1) (index := 248) (C := RX8) (T := TX8) (N := 36) (j0 := 10) (ref := "OldMapModel") K (by decide) sh_76 rfl i_X8 (by decide) (by decide +kernel) rfl rfl dX8_back_1 ?_
  refine x_if_ne (pc := 4) (tgt := 10) K dX8_back_4 (by decide) (fun c_4 => ?_) (fun c_4 => ?_)
  · skip
    have loop : ∀ k, k ≤ 12 → ∀ (I1 : hI), (bkV I I1 k) → h_WW Γ G 89 [(1, .int (nI k)), (0, rr G 76)] [] I1 J := by
      refine loopU 12 (fun k hk ih => ?_)
      intro I1 h
      refine x_iload_n (pc := 89) K 0 dX8_back_89 rfl rfl ?_
      refine x_bipush (pc := 90) (v := 12) K dX8_back_90 (by decide) ?_
      refine x_icmp_ge (pc := 92) (tgt := 145) K dX8_back_92 (by decide) (fun c_92 => ?_) (fun c_92 => ?_)
      · replace c_92 := cI_le (a := 12) (b := k) rfl rfl (by omega) (by omega) c_92
        refine x_iconst (pc := 145) (v := 1) K dX8_back_145 (by decide) ?_
        exact ret (pc := 146) dX8_back_146 (⟨if_neg c_4, fun c h1 h2 => by rw [if_neg c_4]; exact h.1 c h1 h2, fun p hp => by rw [if_neg c_4]; exact h.2.1 p (by omega), fun p hp => by rw [if_neg c_4]; exact h.2.2 p (by omega), rfl⟩) rfl
      · replace c_92 := cI_nle (a := 12) (b := k) rfl rfl (by omega) (by omega) c_92
        refine x_aload_n (pc := 95) K 1 dX8_back_95 rfl rfl ?_
        refine x_getr (r0 := 78) (pc := 96) (index := 13) (C := RX8) (T := TX8) (N := 36) (j0 := 2) (ref := "OldMapModel") K (by decide) sh_76 rfl i_X8 (by decide) (by decide +kernel) rfl rfl rf_76_2 dX8_back_96 ?_
        refine x_iload_n (pc := 99) K 0 dX8_back_99 rfl rfl ?_
        refine x_aload_n (pc := 100) K 1 dX8_back_100 rfl rfl ?_
        refine x_getr (r0 := 85) (pc := 101) (index := 42) (C := RX8) (T := TX8) (N := 36) (j0 := 13) (ref := "OldMapModel") K (by decide) sh_76 rfl i_X8 (by decide) (by decide +kernel) rfl rfl rf_76_13 dX8_back_101 ?_
        refine x_iload_n (pc := 104) K 0 dX8_back_104 rfl rfl ?_
        refine y_iald (j := k) (pc := 105) K (by decide) sh_85 rfl (by omega) (by decide) dX8_back_105 ?_
        refine x_topie (I 85 k) (by simp only [h_up_ne (show (85 : Nat) ≠ 78 by decide), h.1 85 (by decide) (by decide)]; simp [bkK, h_up, h_cp]) ?_
        refine x_iconst (pc := 106) (v := 2) K dX8_back_106 (by decide) ?_
        refine x_irem (pc := 107) K dX8_back_107 (by decide) ?_
        refine x_iconst (pc := 108) (v := 1) K dX8_back_108 (by decide) ?_
        refine x_icmp_ne (pc := 109) (tgt := 116) K dX8_back_109 (by decide) (fun c_109 => ?_) (fun c_109 => ?_)
        · refine x_iconst (pc := 116) (v := 0) K dX8_back_116 (by decide) ?_
          refine x_topie (bsM I k) (by rw [bsM, if_neg c_109]) ?_
          refine y_zast (j := k) (pc := 117) K (by decide) sh_78 rfl (by omega) (by decide) (by unfold bsM; split <;> rfl) dX8_back_117 ?_
          refine x_aload_n (pc := 118) K 1 dX8_back_118 rfl rfl ?_
          refine x_getr (r0 := 79) (pc := 119) (index := 17) (C := RX8) (T := TX8) (N := 36) (j0 := 3) (ref := "OldMapModel") K (by decide) sh_76 rfl i_X8 (by decide) (by decide +kernel) rfl rfl rf_76_3 dX8_back_119 ?_
          refine x_iload_n (pc := 122) K 0 dX8_back_122 rfl rfl ?_
          refine x_aload_n (pc := 123) K 1 dX8_back_123 rfl rfl ?_
          refine x_getr (r0 := 85) (pc := 124) (index := 42) (C := RX8) (T := TX8) (N := 36) (j0 := 13) (ref := "OldMapModel") K (by decide) sh_76 rfl i_X8 (by decide) (by decide +kernel) rfl rfl rf_76_13 dX8_back_124 ?_
          refine x_iload_n (pc := 127) K 0 dX8_back_127 rfl rfl ?_
          refine y_iald (j := k) (pc := 128) K (by decide) sh_85 rfl (by omega) (by decide) dX8_back_128 ?_
          refine x_topie (I 85 k) (by simp only [h_up_ne (show (85 : Nat) ≠ 78 by decide), h.1 85 (by decide) (by decide)]; simp [bkK, h_up, h_cp]) ?_
          refine x_iconst (pc := 129) (v := 1) K dX8_back_129 (by decide) ?_
          refine x_icmp_le (pc := 130) (tgt := 137) K dX8_back_130 (by decide) (fun c_130 => ?_) (fun c_130 => ?_)
          · refine x_iconst (pc := 137) (v := 0) K dX8_back_137 (by decide) ?_
            refine x_topie (biM I k) (by rw [biM, if_pos c_130]) ?_
            refine y_zast (j := k) (pc := 138) K (by decide) sh_79 rfl (by omega) (by decide) (by unfold biM; split <;> rfl) dX8_back_138 ?_
            refine x_iinc (pc := 139) (q0 := 0) (v := nI (k + 1)) (lo' := [(1, _), (0, _)]) K dX8_back_139 rfl (nI_incE rfl) (by decide) rfl ?_
            refine x_goto (pc := 142) (tgt := 89) K dX8_back_142 (by decide) ?_
            refine x_lo (lo' := [(1, _), (0, _)]) [0, 1] rfl ?_
            exact x_loe (by rfl) (ih (by omega) _ (bk_step h rfl rfl))
          · refine x_iconst (pc := 133) (v := 1) K dX8_back_133 (by decide) ?_
            refine x_goto (pc := 134) (tgt := 138) K dX8_back_134 (by decide) ?_
            refine x_topie (biM I k) (by rw [biM, if_neg c_130]) ?_
            refine y_zast (j := k) (pc := 138) K (by decide) sh_79 rfl (by omega) (by decide) (by unfold biM; split <;> rfl) dX8_back_138 ?_
            refine x_iinc (pc := 139) (q0 := 0) (v := nI (k + 1)) (lo' := [(1, _), (0, _)]) K dX8_back_139 rfl (nI_incE rfl) (by decide) rfl ?_
            refine x_goto (pc := 142) (tgt := 89) K dX8_back_142 (by decide) ?_
            refine x_lo (lo' := [(1, _), (0, _)]) [0, 1] rfl ?_
            exact x_loe (by rfl) (ih (by omega) _ (bk_step h rfl rfl))
        · refine x_iconst (pc := 112) (v := 1) K dX8_back_112 (by decide) ?_
          refine x_goto (pc := 113) (tgt := 117) K dX8_back_113 (by decide) ?_
          refine x_topie (bsM I k) (by rw [bsM, if_pos c_109]) ?_
          refine y_zast (j := k) (pc := 117) K (by decide) sh_78 rfl (by omega) (by decide) (by unfold bsM; split <;> rfl) dX8_back_117 ?_
          refine x_aload_n (pc := 118) K 1 dX8_back_118 rfl rfl ?_
          refine x_getr (r0 := 79) (pc := 119) (index := 17) (C := RX8) (T := TX8) (N := 36) (j0 := 3) (ref := "OldMapModel") K (by decide) sh_76 rfl i_X8 (by decide) (by decide +kernel) rfl rfl rf_76_3 dX8_back_119 ?_
          refine x_iload_n (pc := 122) K 0 dX8_back_122 rfl rfl ?_
          refine x_aload_n (pc := 123) K 1 dX8_back_123 rfl rfl ?_
          refine x_getr (r0 := 85) (pc := 124) (index := 42) (C := RX8) (T := TX8) (N := 36) (j0 := 13) (ref := "OldMapModel") K (by decide) sh_76 rfl i_X8 (by decide) (by decide +kernel) rfl rfl rf_76_13 dX8_back_124 ?_
          refine x_iload_n (pc := 127) K 0 dX8_back_127 rfl rfl ?_
          refine y_iald (j := k) (pc := 128) K (by decide) sh_85 rfl (by omega) (by decide) dX8_back_128 ?_
          refine x_topie (I 85 k) (by simp only [h_up_ne (show (85 : Nat) ≠ 78 by decide), h.1 85 (by decide) (by decide)]; simp [bkK, h_up, h_cp]) ?_
          refine x_iconst (pc := 129) (v := 1) K dX8_back_129 (by decide) ?_
          refine x_icmp_le (pc := 130) (tgt := 137) K dX8_back_130 (by decide) (fun c_130 => ?_) (fun c_130 => ?_)
          · refine x_iconst (pc := 137) (v := 0) K dX8_back_137 (by decide) ?_
            refine x_topie (biM I k) (by rw [biM, if_pos c_130]) ?_
            refine y_zast (j := k) (pc := 138) K (by decide) sh_79 rfl (by omega) (by decide) (by unfold biM; split <;> rfl) dX8_back_138 ?_
            refine x_iinc (pc := 139) (q0 := 0) (v := nI (k + 1)) (lo' := [(1, _), (0, _)]) K dX8_back_139 rfl (nI_incE rfl) (by decide) rfl ?_
            refine x_goto (pc := 142) (tgt := 89) K dX8_back_142 (by decide) ?_
            refine x_lo (lo' := [(1, _), (0, _)]) [0, 1] rfl ?_
            exact x_loe (by rfl) (ih (by omega) _ (bk_step h rfl rfl))
          · refine x_iconst (pc := 133) (v := 1) K dX8_back_133 (by decide) ?_
            refine x_goto (pc := 134) (tgt := 138) K dX8_back_134 (by decide) ?_
            refine x_topie (biM I k) (by rw [biM, if_neg c_130]) ?_
            refine y_zast (j := k) (pc := 138) K (by decide) sh_79 rfl (by omega) (by decide) (by unfold biM; split <;> rfl) dX8_back_138 ?_
            refine x_iinc (pc := 139) (q0 := 0) (v := nI (k + 1)) (lo' := [(1, _), (0, _)]) K dX8_back_139 rfl (nI_incE rfl) (by decide) rfl ?_
            refine x_goto (pc := 142) (tgt := 89) K dX8_back_142 (by decide) ?_
            refine x_lo (lo' := [(1, _), (0, _)]) [0, 1] rfl ?_
            exact x_loe (by rfl) (ih (by omega) _ (bk_step h rfl rfl))
    refine x_aload_n (pc := 10) K 0 dX8_back_10 rfl rfl ?_
    refine x_aload_n (pc := 11) K 0 dX8_back_11 rfl rfl ?_
    refine x_getr (r0 := 83) (pc := 12) (index := 36) (C := RX8) (T := TX8) (N := 36) (j0 := 11) (ref := "OldMapModel") K (by decide) sh_76 rfl i_X8 (by decide) (by decide +kernel) rfl rfl rf_76_11 dX8_back_12 ?_
    refine x_iconst (pc := 15) (v := 0) K dX8_back_15 (by decide) ?_
    refine y_iald (j := 0) (pc := 16) K (by decide) sh_83 rfl (by omega) (by decide) dX8_back_16 ?_
    refine x_topie (I 83 0) (by simp [h_up]) ?_
    refine x_puti (ty := .int) (pc := 17) (index := 65) (C := RX8) (T := TX8) (N := 36) (j0 := 0) (ref := "OldMapModel") K (by decide) sh_76 rfl i_X8 (by decide) (by decide +kernel) rfl tyX8 tyX8_ok nmX8 rfl (by decide +kernel) rfl rfl rfl dX8_back_17 ?_
    refine x_aload_n (pc := 20) K 0 dX8_back_20 rfl rfl ?_
    refine x_aload_n (pc := 21) K 0 dX8_back_21 rfl rfl ?_
    refine x_getr (r0 := 83) (pc := 22) (index := 36) (C := RX8) (T := TX8) (N := 36) (j0 := 11) (ref := "OldMapModel") K (by decide) sh_76 rfl i_X8 (by decide) (by decide +kernel) rfl rfl rf_76_11 dX8_back_22 ?_
    refine x_iconst (pc := 25) (v := 1) K dX8_back_25 (by decide) ?_
    refine y_iald (j := 1) (pc := 26) K (by decide) sh_83 rfl (by omega) (by decide) dX8_back_26 ?_
    refine x_topie (I 83 1) (by simp [h_up]) ?_
    refine x_puti (ty := .int) (pc := 27) (index := 183) (C := RX8) (T := TX8) (N := 36) (j0 := 4) (ref := "OldMapModel") K (by decide) sh_76 rfl i_X8 (by decide) (by decide +kernel) rfl tyX8 tyX8_ok nmX8 rfl (by decide +kernel) rfl rfl rfl dX8_back_27 ?_
    refine x_aload_n (pc := 30) K 0 dX8_back_30 rfl rfl ?_
    refine x_getr (r0 := 81) (pc := 31) (index := 23) (C := RX8) (T := TX8) (N := 36) (j0 := 6) (ref := "OldMapModel") K (by decide) sh_76 rfl i_X8 (by decide) (by decide +kernel) rfl rfl rf_76_6 dX8_back_31 ?_
    refine x_iconst (pc := 34) (v := 0) K dX8_back_34 (by decide) ?_
    refine x_aload_n (pc := 35) K 0 dX8_back_35 rfl rfl ?_
    refine x_getr (r0 := 83) (pc := 36) (index := 36) (C := RX8) (T := TX8) (N := 36) (j0 := 11) (ref := "OldMapModel") K (by decide) sh_76 rfl i_X8 (by decide) (by decide +kernel) rfl rfl rf_76_11 dX8_back_36 ?_
    refine x_iconst (pc := 39) (v := 2) K dX8_back_39 (by decide) ?_
    refine y_iald (j := 2) (pc := 40) K (by decide) sh_83 rfl (by omega) (by decide) dX8_back_40 ?_
    refine x_topie (I 83 2) (by simp [h_up]) ?_
    refine y_iast (j := 0) (pc := 41) K (by decide) sh_81 rfl (by omega) (by decide) dX8_back_41 ?_
    refine x_aload_n (pc := 42) K 0 dX8_back_42 rfl rfl ?_
    refine x_getr (r0 := 81) (pc := 43) (index := 23) (C := RX8) (T := TX8) (N := 36) (j0 := 6) (ref := "OldMapModel") K (by decide) sh_76 rfl i_X8 (by decide) (by decide +kernel) rfl rfl rf_76_6 dX8_back_43 ?_
    refine x_iconst (pc := 46) (v := 1) K dX8_back_46 (by decide) ?_
    refine x_aload_n (pc := 47) K 0 dX8_back_47 rfl rfl ?_
    refine x_getr (r0 := 83) (pc := 48) (index := 36) (C := RX8) (T := TX8) (N := 36) (j0 := 11) (ref := "OldMapModel") K (by decide) sh_76 rfl i_X8 (by decide) (by decide +kernel) rfl rfl rf_76_11 dX8_back_48 ?_
    refine x_iconst (pc := 51) (v := 3) K dX8_back_51 (by decide) ?_
    refine y_iald (j := 3) (pc := 52) K (by decide) sh_83 rfl (by omega) (by decide) dX8_back_52 ?_
    refine x_topie (I 83 3) (by simp [h_up]) ?_
    refine y_iast (j := 1) (pc := 53) K (by decide) sh_81 rfl (by omega) (by decide) dX8_back_53 ?_
    refine x_aload_n (pc := 54) K 0 dX8_back_54 rfl rfl ?_
    refine x_getr (r0 := 84) (pc := 55) (index := 39) (C := RX8) (T := TX8) (N := 36) (j0 := 12) (ref := "OldMapModel") K (by decide) sh_76 rfl i_X8 (by decide) (by decide +kernel) rfl rfl rf_76_12 dX8_back_55 ?_
    refine x_aload_n (pc := 58) K 0 dX8_back_58 rfl rfl ?_
    refine x_getr (r0 := 77) (pc := 59) (index := 7) (C := RX8) (T := TX8) (N := 36) (j0 := 1) (ref := "OldMapModel") K (by decide) sh_76 rfl i_X8 (by decide) (by decide +kernel) rfl rfl rf_76_1 dX8_back_59 ?_
    refine x_callvS (pc := 62) (st := []) (n := 2) K (c_X8_copy84 l G _ _) gX8_back_X8_copy (by decide +kernel) rfl (by decide) (by decide) rfl rfl (Nat.le_of_ble_eq_true rfl) dX8_back_62 (fun I_62 J_62 hp_62 => ?_)
    obtain ⟨rfl, rfl⟩ := hp_62
    refine x_aload_n (pc := 65) K 0 dX8_back_65 rfl rfl ?_
    refine x_getr (r0 := 86) (pc := 66) (index := 45) (C := RX8) (T := TX8) (N := 36) (j0 := 14) (ref := "OldMapModel") K (by decide) sh_76 rfl i_X8 (by decide) (by decide +kernel) rfl rfl rf_76_14 dX8_back_66 ?_
    refine x_aload_n (pc := 69) K 0 dX8_back_69 rfl rfl ?_
    refine x_getr (r0 := 80) (pc := 70) (index := 20) (C := RX8) (T := TX8) (N := 36) (j0 := 5) (ref := "OldMapModel") K (by decide) sh_76 rfl i_X8 (by decide) (by decide +kernel) rfl rfl rf_76_5 dX8_back_70 ?_
    refine x_callvS (pc := 73) (st := []) (n := 2) K (c_X8_copy86 l G _ _) gX8_back_X8_copy (by decide +kernel) rfl (by decide) (by decide) rfl rfl (Nat.le_of_ble_eq_true rfl) dX8_back_73 (fun I_73 J_73 hp_73 => ?_)
    obtain ⟨rfl, rfl⟩ := hp_73
    refine x_aload_n (pc := 76) K 0 dX8_back_76 rfl rfl ?_
    refine x_getr (r0 := 87) (pc := 77) (index := 48) (C := RX8) (T := TX8) (N := 36) (j0 := 15) (ref := "OldMapModel") K (by decide) sh_76 rfl i_X8 (by decide) (by decide +kernel) rfl rfl rf_76_15 dX8_back_77 ?_
    refine x_aload_n (pc := 80) K 0 dX8_back_80 rfl rfl ?_
    refine x_getr (r0 := 82) (pc := 81) (index := 26) (C := RX8) (T := TX8) (N := 36) (j0 := 7) (ref := "OldMapModel") K (by decide) sh_76 rfl i_X8 (by decide) (by decide +kernel) rfl rfl rf_76_7 dX8_back_81 ?_
    refine x_callvS (pc := 84) (st := []) (n := 2) K (c_X8_copy87 l G _ _) gX8_back_X8_copy (by decide +kernel) rfl (by decide) (by decide) rfl rfl (Nat.le_of_ble_eq_true rfl) dX8_back_84 (fun I_84 J_84 hp_84 => ?_)
    obtain ⟨rfl, rfl⟩ := hp_84
    refine x_iconst (pc := 87) (v := 0) K dX8_back_87 (by decide) ?_
    refine x_istore_n (pc := 88) (lo' := [(1, _), (0, _)]) K dX8_back_88 rfl (by decide) rfl ?_
    refine x_eqI (I' := bkK I) (J' := J) rfl rfl ?_
    refine x_lo (lo' := [(1, _), (0, _)]) [0, 1] rfl ?_
    exact x_loe (by rfl) (loop 0 (Nat.zero_le _) _ ⟨fun _ _ _ => rfl, fun p h => absurd h (by omega), fun p h => absurd h (by omega)⟩)
  · refine x_bipush (pc := 7) (v := -5) K dX8_back_7 (by decide) ?_
    exact ret (pc := 9) dX8_back_9 (⟨if_pos c_4, fun c _ _ => by rw [if_pos c_4], fun p _ => by rw [if_pos c_4], fun p _ => by rw [if_pos c_4], rfl⟩) rfl

