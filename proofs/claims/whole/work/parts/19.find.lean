/-! give and find -/
def FBh (I : hI) (nn k u : Nat) : Int32 := fbG (I (61 + k)) (I (68 + (k + 1))) (I (68 + k)) u nn
def usH (I : hI) (nn k : Nat) : Nat := usG (FBh I nn) k
def gvH (I : hI) (nn k : Nat) : Int32 := FBh I nn k (usH I nn k)
theorem fbG_in {ap nx ls : Nat → Int32} {s nn : Nat} : fbG ap nx ls s nn = -5 ∨ ∃ g, g < nn ∧ fbG ap nx ls s nn = nI g := by
  unfold fbG
  rcases fstI_in (P := fun o => fre ap s o ∧ ap o + nx (orB s o) = ls s) nn 0 with h | ⟨g, h1, h2, h3, h4⟩
  · exact Or.inl h
  · exact Or.inr ⟨g, by omega, h4⟩
theorem usH_lt {I : hI} {nn no : Nat} (h6 : nn ≤ 6) : ∀ k, usH I nn k < 2 ^ nn := fun k => usG_lt (no := k) h6 (fun _ _ _ => fbG_in) k (Nat.le_refl k)
theorem usH_s0 {I : hI} {nn k : Nat} (h : gvH I nn k = -5) : usH I nn (k + 1) = usH I nn k := by
  show (if gvH I nn k = -5 then usH I nn k else _) = _
  rw [if_pos h]
theorem usH_s1 {I : hI} {nn k g : Nat} (hg : g < 2 ^ 31) (h : ¬ gvH I nn k = -5) (e : gvH I nn k = nI g) : usH I nn (k + 1) = orB (usH I nn k) g := by
  show (if gvH I nn k = -5 then usH I nn k else orB (usH I nn k) (gvH I nn k).toNatClampNeg) = _
  rw [if_neg h, e, nI_clamp hg]
abbrev gvI (I I1 : hI) (nn k : Nat) : Prop := (∀ c, c ≠ 59 → c ≠ 75 → I1 c = I c) ∧ I1 59 6 = nI (usH I nn k) ∧ ∀ o, o < k → I1 75 o = gvH I nn o
theorem gv_stepA {I I1 : hI} {nn k : Nat} (h : gvI I I1 nn k) (hv : gvH I nn k = -5) : gvI I (h_up I1 75 k (gvH I nn k)) nn (k + 1) := by
  refine ⟨fun c h1 h2 => by rw [h_up_ne h2, h.1 c h1 h2], by rw [h_up_ne (by decide), usH_s0 hv]; exact h.2.1, fun o ho => ?_⟩
  by_cases e : o = k
  · subst e; simp [h_up]
  · simp only [h_up, e, and_false, if_false]
    exact h.2.2 o (by omega)
theorem gv_stepB {I I1 : hI} {nn k g : Nat} (h : gvI I I1 nn k) (hg : g < 2 ^ 31) (hv : ¬ gvH I nn k = -5) (e : gvH I nn k = nI g) : gvI I (h_up (h_up I1 75 k (gvH I nn k)) 59 6 (nI (orB (usH I nn k) g))) nn (k + 1) := by
  refine ⟨fun c h1 h2 => by rw [h_up_ne h1, h_up_ne h2, h.1 c h1 h2], by rw [usH_s1 hg hv e]; simp [h_up], fun o ho => ?_⟩
  rw [h_up_ne (by decide)]
  by_cases e : o = k
  · subst e; simp [h_up]
  · simp only [h_up, e, and_false, if_false]
    exact h.2.2 o (by omega)
set_option maxHeartbeats 1000000 in
set_option maxRecDepth 100000 in
theorem c_X1_give (l : Launch) (G : hQ) (I : hI) (J : hJ) (no : Nat) (ho : I 20 0 = nI no) (h60 : no ≤ 6) (nn : Nat) (hn : I 24 0 = nI nn) (h6 : nn ≤ 6) : h_Mv l yX1_give wsX1_give 2 45 G [rr G 59] I J (fun I' J' => J = J' ∧ (∀ c, c ≠ 59 → c ≠ 75 → I' c = I c) ∧ (∀ o, o < no → I' 75 o = gvH I nn o) ∧ I' 59 6 = nI (usH I nn no)) := by
  refine h_Mv.of (cc := cX1_give) (maxL := 2) [(0, rr G 59)] (by decide +kernel) rfl (Nat.le_of_ble_eq_true rfl) rfl ?_
  intro Γ K ret
  have i_X1 : ∀ w ∈ u_ws RX1 TX1 7, w ∈ wsX1_give := by decide +kernel
  have i_X4 : ∀ w ∈ u_ws RX4 TX4 4, w ∈ wsX1_give := by decide +kernel
  have loop : ∀ k, k ≤ no → ∀ (I1 : hI), (gvI I I1 nn k) → h_WW Γ G 7 [(1, .int (nI k)), (0, rr G 59)] [] I1 J := by
    refine loopU no (fun k hk ih => ?_)
    intro I1 h
    have hu64 := usH_lt (I := I) (no := no) h6 k
    have hp64 := pow_le nn h6
    refine x_iload_n (pc := 7) K 0 dX1_give_7 rfl rfl ?_
    refine x_aload_n (pc := 8) K 1 dX1_give_8 rfl rfl ?_
    refine x_getr (r0 := 20) (pc := 9) (index := 27) (C := RX1) (T := TX1) (N := 7) (j0 := 0) (ref := "OldMap$Match") K (by decide) sh_59 rfl i_X1 (by decide) (by decide +kernel) rfl rfl rf_59_0 dX1_give_9 ?_
    refine x_getiN (pc := 12) (index := 38) (C := RX4) (T := TX4) (N := 4) (j0 := 0) (host := "OldMap") (ref := "OldMap$Things") K (by decide) sh_20 rfl i_X4 (by decide) (by decide +kernel) rfl rfl dX1_give_12 ?_
    refine x_topie (nI no) ((congrFun (h.1 20 (by omega) (by omega)) 0).trans ho) ?_
    refine x_icmp_ge (pc := 15) (tgt := 63) K dX1_give_15 (by decide) (fun c_15 => ?_) (fun c_15 => ?_)
    · replace c_15 := cI_le (a := no) (b := k) rfl rfl (by omega) (by omega) c_15
      exact ret (pc := 63) dX1_give_63 (⟨rfl, h.1, fun o ho2 => h.2.2 o (by omega), by rw [show no = k by omega]; exact h.2.1⟩)
    · replace c_15 := cI_nle (a := no) (b := k) rfl rfl (by omega) (by omega) c_15
      refine x_aload_n (pc := 18) K 1 dX1_give_18 rfl rfl ?_
      refine x_getr (r0 := 75) (pc := 19) (index := 19) (C := RX1) (T := TX1) (N := 7) (j0 := 5) (ref := "OldMap$Match") K (by decide) sh_59 rfl i_X1 (by decide) (by decide +kernel) rfl rfl rf_59_5 dX1_give_19 ?_
      refine x_iload_n (pc := 22) K 0 dX1_give_22 rfl rfl ?_
      refine x_aload_n (pc := 23) K 1 dX1_give_23 rfl rfl ?_
      refine x_iload_n (pc := 24) K 0 dX1_give_24 rfl rfl ?_
      refine x_calliV (pc := 25) (st := [_, _]) (n := 1) K (by decide) sh_59 rfl (c_X1_firstBest l G _ _ k (usH I nn k) (by omega) h.2.1 (by omega) nn ((congrFun (h.1 24 (by omega) (by omega)) 0).trans hn) h6) gX1_give_X1_firstBest (by decide +kernel) rfl (by decide) (by decide) rfl rfl (Nat.le_of_ble_eq_true rfl) dX1_give_25 (fun r_25 I_25 J_25 hp_25 => ?_)
      obtain ⟨rfl, rfl, rfl⟩ := hp_25
      refine x_topie (gvH I nn k) (by rw [h.1 _ (by omega) (by omega), h.1 _ (by omega) (by omega), h.1 _ (by omega) (by omega)]; rfl) ?_
      refine y_iast (j := k) (pc := 28) K (by decide) sh_75 rfl (by omega) (by decide) dX1_give_28 ?_
      refine x_aload_n (pc := 29) K 1 dX1_give_29 rfl rfl ?_
      refine x_getr (r0 := 75) (pc := 30) (index := 19) (C := RX1) (T := TX1) (N := 7) (j0 := 5) (ref := "OldMap$Match") K (by decide) sh_59 rfl i_X1 (by decide) (by decide +kernel) rfl rfl rf_59_5 dX1_give_30 ?_
      refine x_iload_n (pc := 33) K 0 dX1_give_33 rfl rfl ?_
      refine y_iald (j := k) (pc := 34) K (by decide) sh_75 rfl (by omega) (by decide) dX1_give_34 ?_
      refine x_topie (gvH I nn k) (by simp [h_up]) ?_
      refine x_bipush (pc := 35) (v := -5) K dX1_give_35 (by decide) ?_
      refine x_icmp_eq (pc := 37) (tgt := 57) K dX1_give_37 (by decide) (fun c_37 => ?_) (fun c_37 => ?_)
      · refine x_iinc (pc := 57) (q0 := 0) (v := nI (k + 1)) (lo' := [(1, _), (0, _)]) K dX1_give_57 rfl (nI_incE rfl) (by decide) rfl ?_
        refine x_goto (pc := 60) (tgt := 7) K dX1_give_60 (by decide) ?_
        refine x_lo (lo' := [(1, _), (0, _)]) [0, 1] rfl ?_
        exact x_loe (by rfl) (ih (by omega) _ (gv_stepA h c_37))
      · obtain ⟨g, hg, eg⟩ : ∃ g, g < nn ∧ gvH I nn k = nI g := (fbG_in).resolve_left c_37
        refine x_aload_n (pc := 40) K 1 dX1_give_40 rfl rfl ?_
        refine x_dup (pc := 41) K dX1_give_41 rfl ?_
        refine x_geti (pc := 42) (index := 23) (C := RX1) (T := TX1) (N := 7) (j0 := 6) (ref := "OldMap$Match") K (by decide) sh_59 rfl i_X1 (by decide) (by decide +kernel) rfl rfl dX1_give_42 ?_
        refine x_topie (nI (usH I nn k)) (by rw [h_up_ne (by decide)]; exact h.2.1) ?_
        refine x_iconst (pc := 45) (v := 1) K dX1_give_45 (by decide) ?_
        refine x_aload_n (pc := 46) K 1 dX1_give_46 rfl rfl ?_
        refine x_getr (r0 := 75) (pc := 47) (index := 19) (C := RX1) (T := TX1) (N := 7) (j0 := 5) (ref := "OldMap$Match") K (by decide) sh_59 rfl i_X1 (by decide) (by decide +kernel) rfl rfl rf_59_5 dX1_give_47 ?_
        refine x_iload_n (pc := 50) K 0 dX1_give_50 rfl rfl ?_
        refine y_iald (j := k) (pc := 51) K (by decide) sh_75 rfl (by omega) (by decide) dX1_give_51 ?_
        refine x_topie (gvH I nn k) (by simp [h_up]) ?_
        refine x_topie (nI g) eg ?_
        refine x_ishl (pc := 52) K dX1_give_52 ?_
        refine x_ior (pc := 53) K dX1_give_53 ?_
        refine x_topie (nI (orB (usH I nn k) g)) (orB_ok _ (by omega) g (by omega)).1 ?_
        refine x_puti (ty := .int) (pc := 54) (index := 23) (C := RX1) (T := TX1) (N := 7) (j0 := 6) (ref := "OldMap$Match") K (by decide) sh_59 rfl i_X1 (by decide) (by decide +kernel) rfl tyX1 tyX1_ok nmX1 rfl (by decide +kernel) rfl rfl rfl dX1_give_54 ?_
        refine x_iinc (pc := 57) (q0 := 0) (v := nI (k + 1)) (lo' := [(1, _), (0, _)]) K dX1_give_57 rfl (nI_incE rfl) (by decide) rfl ?_
        refine x_goto (pc := 60) (tgt := 7) K dX1_give_60 (by decide) ?_
        refine x_lo (lo' := [(1, _), (0, _)]) [0, 1] rfl ?_
        exact x_loe (by rfl) (ih (by omega) _ (gv_stepB h (by omega) c_37 eg))
  refine x_aload_n (pc := 0) K 0 dX1_give_0 rfl rfl ?_
  refine x_iconst (pc := 1) (v := 0) K dX1_give_1 (by decide) ?_
  refine x_puti (ty := .int) (pc := 2) (index := 23) (C := RX1) (T := TX1) (N := 7) (j0 := 6) (ref := "OldMap$Match") K (by decide) sh_59 rfl i_X1 (by decide) (by decide +kernel) rfl tyX1 tyX1_ok nmX1 rfl (by decide +kernel) rfl rfl rfl dX1_give_2 ?_
  refine x_iconst (pc := 5) (v := 0) K dX1_give_5 (by decide) ?_
  refine x_istore_n (pc := 6) (lo' := [(1, _), (0, _)]) K dX1_give_6 rfl (by decide) rfl ?_
  refine x_lo (lo' := [(1, _), (0, _)]) [0, 1] rfl ?_
  exact x_loe (by rfl) (loop 0 (Nat.zero_le _) _ ⟨fun c h1 _ => h_up_ne h1, by simp [h_up, usH, usG]; rfl, fun o h => absurd h (by omega)⟩)

def FBp (AP : Nat → Nat → Int32) (no nn : Nat) (lost : Int32) (k u : Nat) : Int32 := fbG (AP k) (lsT AP no nn lost (no - (k + 1))) (lsT AP no nn lost (no - k)) u nn
def usP (AP : Nat → Nat → Int32) (no nn : Nat) (lost : Int32) (k : Nat) : Nat := usG (FBp AP no nn lost) k
def gvP (AP : Nat → Nat → Int32) (no nn : Nat) (lost : Int32) (k : Nat) : Int32 := FBp AP no nn lost k (usP AP no nn lost k)
/-- what `find` leaves: the least cost, what each old one is given, which new ones are used -/
def MtI (I' : hI) (AP : Nat → Nat → Int32) (no nn : Nat) (lost : Int32) : Prop := I' (68 + 0) 0 = lsT AP no nn lost no 0 ∧ (∀ o, o < no → I' 75 o = gvP AP no nn lost o) ∧ I' 59 6 = nI (usP AP no nn lost no) ∧ usP AP no nn lost no < 64
theorem find_fin {I I1 I2 I3 : hI} {J : hJ} {no nn : Nat} {lost : Int32} (h6 : nn ≤ 6) (h60 : no ≤ 6) (hA1 : ∀ c, ¬ (61 ≤ c ∧ c ≤ 66) → I1 c = I c) (hA2 : ∀ o, o < no → ∀ j, j < nn → I1 (61 + o) j = apH I J o j)
    (hL1 : ∀ c, ¬ (68 ≤ c ∧ c ≤ 74) → I2 c = I1 c) (hL2 : ∀ o, o ≤ no → ∀ s, s < 2 ^ nn → I2 (68 + o) s = lsR I1 no nn lost (no - o) s) (hG1 : ∀ c, c ≠ 59 → c ≠ 75 → I3 c = I2 c) (hG2 : ∀ o, o < no → I3 75 o = gvH I2 nn o) (hG3 : I3 59 6 = nI (usH I2 nn no)) :
    (∀ c, ¬ (59 ≤ c ∧ c ≤ 75) → I3 c = I c) ∧ MtI I3 (apH I J) no nn lost := by
  have hap : ∀ o j, o < no → j < nn → (fun o => I1 (61 + o)) o j = apH I J o j := fun o j h1 h2 => hA2 o h1 j h2
  have hls : ∀ o, o ≤ no → ∀ s, s < 2 ^ nn → I2 (68 + o) s = lsT (apH I J) no nn lost (no - o) s := fun o h1 s hs => by rw [hL2 o h1 s hs]; exact lsT_c h6 hap _ (by omega) s hs
  have hfb : ∀ k, k < no → ∀ s, s < 2 ^ nn → FBh I2 nn k s = FBp (apH I J) no nn lost k s := fun k hk s hs =>
    fbG_c h6 (fun j hj => by rw [hL1 _ (by omega)]; exact hap k j hk hj) (fun s hs => hls (k + 1) (by omega) s hs) (fun s hs => hls k (by omega) s hs) hs
  have hlt : ∀ k, k ≤ no → usG (FBh I2 nn) k < 2 ^ nn := fun k _ => usH_lt (no := no) h6 k
  have hus : ∀ k, k ≤ no → usH I2 nn k = usP (apH I J) no nn lost k := fun k hk => usG_c hfb hlt k hk
  refine ⟨fun c hc => by rw [hG1 c (by omega) (by omega), hL1 c (by omega), hA1 c (by omega)], ?_, fun o ho => ?_, by rw [hG3, hus no (Nat.le_refl no)], ?_⟩
  · rw [hG1 _ (by decide) (by decide), hls 0 (Nat.zero_le _) 0 (Nat.pow_pos (by decide)), Nat.sub_zero]
  · rw [hG2 o ho]
    unfold gvH gvP
    rw [hfb o ho (usH I2 nn o) (hlt o (by omega)), hus o (by omega)]
  · rw [← hus no (Nat.le_refl no)]
    exact Nat.lt_of_lt_of_le (hlt no (Nat.le_refl no)) (pow_le nn h6)
theorem apH_c {I I1 : hI} {J : hJ} {o j : Nat} (h : ∀ c, ¬ (61 ≤ c ∧ c ≤ 66) → I1 c = I c) : apH I1 J o j = apH I J o j := by
  unfold apH
  rw [h 21 (by omega), h 22 (by omega), h 23 (by omega), h 25 (by omega), h 26 (by omega), h 27 (by omega)]
theorem find_st {I I1 I2 : hI} {J : hJ} {k nn : Nat} (hk : k < 6) (h1 : ∀ c, ¬ (61 ≤ c ∧ c ≤ 66) → I1 c = I c) (h2 : ∀ o, o < k → ∀ j, j < nn → I1 (61 + o) j = apH I J o j) (m1 : ∀ c, c ≠ 61 + k → I2 c = I1 c) (m2 : ∀ j, j < nn → I2 (61 + k) j = apH I1 J k j) : (∀ c, ¬ (61 ≤ c ∧ c ≤ 66) → I2 c = I c) ∧ ∀ o, o < k + 1 → ∀ j, j < nn → I2 (61 + o) j = apH I J o j := by
  refine ⟨fun c hc => by rw [m1 c (by omega), h1 c hc], fun o ho j hj => ?_⟩
  by_cases e : o = k
  · subst e; rw [m2 j hj, apH_c h1]
  · rw [m1 _ (by omega)]; exact h2 o (by omega) j hj
set_option maxHeartbeats 1000000 in
set_option maxRecDepth 100000 in
theorem c_X1_find (l : Launch) (G : hQ) (I : hI) (J : hJ) (lost : Int32) (no : Nat) (ho : I 20 0 = nI no) (h60 : no ≤ 6) (nn : Nat) (hn : I 24 0 = nI nn) (h6 : nn ≤ 6) (hz6 : ¬ J 56 3 ≤ 0 → ¬ 2 * J 56 3 = 0) (hz7 : ¬ J 57 3 ≤ 0 → ¬ 2 * J 57 3 = 0) : h_Mv l yX1_find wsX1_find 3 77 G [rr G 59, .int lost] I J (fun I' J' => J = J' ∧ (∀ c, ¬ (59 ≤ c ∧ c ≤ 75) → I' c = I c) ∧ MtI I' (apH I J) no nn lost) := by
  refine h_Mv.of (cc := cX1_find) (maxL := 3) [(0, rr G 59), (1, .int lost)] (by decide +kernel) rfl (Nat.le_of_ble_eq_true rfl) rfl ?_
  intro Γ K ret
  have i_X1 : ∀ w ∈ u_ws RX1 TX1 7, w ∈ wsX1_find := by decide +kernel
  have i_X4 : ∀ w ∈ u_ws RX4 TX4 4, w ∈ wsX1_find := by decide +kernel
  have loop : ∀ k, k ≤ no → ∀ (I1 : hI), ((∀ c, ¬ (61 ≤ c ∧ c ≤ 66) → I1 c = I c)) → (∀ o, o < k → ∀ j, j < nn → I1 (61 + o) j = apH I J o j) → h_WW Γ G 2 [(2, .int (nI k)), (0, rr G 59), (1, .int lost)] [] I1 J := by
    refine loopU no (fun k hk ih => ?_)
    intro I1 hA1 hA2
    refine x_iload_n (pc := 2) K 0 dX1_find_2 rfl rfl ?_
    refine x_aload_n (pc := 3) K 1 dX1_find_3 rfl rfl ?_
    refine x_getr (r0 := 20) (pc := 4) (index := 27) (C := RX1) (T := TX1) (N := 7) (j0 := 0) (ref := "OldMap$Match") K (by decide) sh_59 rfl i_X1 (by decide) (by decide +kernel) rfl rfl rf_59_0 dX1_find_4 ?_
    refine x_getiN (pc := 7) (index := 38) (C := RX4) (T := TX4) (N := 4) (j0 := 0) (host := "OldMap") (ref := "OldMap$Things") K (by decide) sh_20 rfl i_X4 (by decide) (by decide +kernel) rfl rfl dX1_find_7 ?_
    refine x_topie (nI no) ((congrFun (hA1 20 (by omega)) 0).trans ho) ?_
    refine x_icmp_ge (pc := 10) (tgt := 24) K dX1_find_10 (by decide) (fun c_10 => ?_) (fun c_10 => ?_)
    · replace c_10 := cI_le (a := no) (b := k) rfl rfl (by omega) (by omega) c_10
      refine x_aload_n (pc := 24) K 1 dX1_find_24 rfl rfl ?_
      refine x_iload_n (pc := 25) K 2 dX1_find_25 rfl rfl ?_
      refine x_callvV (pc := 26) (st := []) (n := 1) K (by decide) sh_59 rfl (c_X1_fillLeast l G _ _ _ no ((congrFun (hA1 20 (by omega)) 0).trans ho) h60 nn ((congrFun (hA1 24 (by omega)) 0).trans hn) h6) gX1_find_X1_fillLeast (by decide +kernel) rfl (by decide) (by decide) rfl rfl (Nat.le_of_ble_eq_true rfl) dX1_find_26 (fun I_26 J_26 hp_26 => ?_)
      obtain ⟨rfl, hL1, hL2⟩ := hp_26
      refine x_aload_n (pc := 29) K 1 dX1_find_29 rfl rfl ?_
      refine x_callvV (pc := 30) (st := []) (n := 0) K (by decide) sh_59 rfl (c_X1_give l G _ _ no ((congrFun (hL1 20 (by omega)) 0).trans ((congrFun (hA1 20 (by omega)) 0).trans ho)) h60 nn ((congrFun (hL1 24 (by omega)) 0).trans ((congrFun (hA1 24 (by omega)) 0).trans hn)) h6) gX1_find_X1_give (by decide +kernel) rfl (by decide) (by decide) rfl rfl (Nat.le_of_ble_eq_true rfl) dX1_find_30 (fun I_30 J_30 hp_30 => ?_)
      obtain ⟨rfl, hG1, hG2, hG3⟩ := hp_30
      exact ret (pc := 33) dX1_find_33 (⟨rfl, find_fin h6 h60 hA1 (fun o ho2 => hA2 o (by omega)) hL1 hL2 hG1 hG2 hG3⟩)
    · replace c_10 := cI_nle (a := no) (b := k) rfl rfl (by omega) (by omega) c_10
      refine x_aload_n (pc := 13) K 1 dX1_find_13 rfl rfl ?_
      refine x_iload_n (pc := 14) K 0 dX1_find_14 rfl rfl ?_
      refine x_callvV (pc := 15) (st := []) (n := 1) K (by decide) sh_59 rfl (c_X1_measure l G _ _ k (by omega) hz6 hz7 nn ((congrFun (hA1 24 (by omega)) 0).trans hn) h6) gX1_find_X1_measure (by decide +kernel) rfl (by decide) (by decide) rfl rfl (Nat.le_of_ble_eq_true rfl) dX1_find_15 (fun I_15 J_15 hp_15 => ?_)
      obtain ⟨rfl, hM1, hM2⟩ := hp_15
      refine x_iinc (pc := 18) (q0 := 0) (v := nI (k + 1)) (lo' := [(2, _), (0, _), (1, _)]) K dX1_find_18 rfl (nI_incE rfl) (by decide) rfl ?_
      refine x_goto (pc := 21) (tgt := 2) K dX1_find_21 (by decide) ?_
      refine x_lo (lo' := [(2, _), (0, _), (1, _)]) [0, 1, 2] rfl ?_
      exact x_loe (by rfl) (ih (by omega) _ (find_st (by omega) hA1 hA2 hM1 hM2).1 (find_st (by omega) hA1 hA2 hM1 hM2).2)
  refine x_iconst (pc := 0) (v := 0) K dX1_find_0 (by decide) ?_
  refine x_istore_n (pc := 1) (lo' := [(2, _), (0, _), (1, _)]) K dX1_find_1 rfl (by decide) rfl ?_
  refine x_lo (lo' := [(2, _), (0, _), (1, _)]) [0, 1, 2] rfl ?_
  exact x_loe (by rfl) (loop 0 (Nat.zero_le _) I (fun _ _ => rfl) (fun o h => absurd h (by omega)))

