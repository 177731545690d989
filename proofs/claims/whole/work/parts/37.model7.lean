/-! the reference's face: triangles, things -/
abbrev coM (I : hI) (t u mp k i : Nat) : Prop := (¬ rdM I t mp ≤ 0 ∧ sdM I t k mp (crM I u i mp 0) (crM I u i mp 1) ≤ 0) ∨ (rdM I t mp ≤ 0 ∧ 0 ≤ sdM I t k mp (crM I u i mp 0) (crM I u i mp 1))
def alM (I : hI) (t u mp k : Nat) : Nat → Int32
  | 0 => 1
  | i + 1 => if ¬ alM I t u mp k i = 0 ∧ coM I t u mp k i then 1 else 0
abbrev prtM (I : hI) (t u mp : Nat) : Prop := ¬ alM I t u mp 0 3 = 0 ∨ ¬ alM I t u mp 1 3 = 0 ∨ ¬ alM I t u mp 2 3 = 0
abbrev metM (I : hI) (t u mp : Nat) : Prop := ¬ prtM I t u mp ∧ ¬ prtM I u t mp
theorem prt_y {I : hI} {t u mp k : Nat} (hk : k < 3) (h : ¬ alM I t u mp k 3 = 0) : prtM I t u mp := by
  rcases (show k = 0 ∨ k = 1 ∨ k = 2 by omega) with rfl | rfl | rfl
  · exact Or.inl h
  · exact Or.inr (Or.inl h)
  · exact Or.inr (Or.inr h)
theorem prt_n {I : hI} {t u mp k : Nat} (hk : 3 ≤ k) (h : ∀ j, j < k → alM I t u mp j 3 = 0) : ¬ prtM I t u mp := by
  intro q
  rcases q with q | q | q
  · exact q (h 0 (by omega))
  · exact q (h 1 (by omega))
  · exact q (h 2 (by omega))
set_option maxHeartbeats 1000000 in
set_option maxRecDepth 100000 in
theorem c_X8_parts (l : Launch) (G : hQ) (I : hI) (J : hJ) (t u mp : Nat) (hT : TOkM I t) (hU : TOkM I u) (hm : mp < 2) : h_Mi l yX8_parts wsX8_parts 3 81 G [rr G 76, .int (nI t), .int (nI u), .int (nI mp)] I J (fun ρ I' J' => bz (prtM I t u mp) = ρ ∧ I = I' ∧ J = J') := by
  refine h_Mi.of (ty := .boolean) (cc := cX8_parts) (maxL := 10) [(0, rr G 76), (1, .int (nI t)), (2, .int (nI u)), (3, .int (nI mp))] (by decide +kernel) rfl (Nat.le_of_ble_eq_true rfl) rfl ?_
  intro Γ K ret
  refine x_aload_n (pc := 0) K 0 dX8_parts_0 rfl rfl ?_
  refine x_iload_n (pc := 1) K 1 dX8_parts_1 rfl rfl ?_
  refine x_iload_n (pc := 2) K 3 dX8_parts_2 rfl rfl ?_
  refine x_calllV (pc := 3) (st := []) (n := 2) K (by decide) sh_76 rfl (c_X8_round l G _ _ t mp hT (by omega)) gX8_parts_X8_round (by decide +kernel) rfl (by decide) (by decide) rfl rfl (Nat.le_of_ble_eq_true rfl) dX8_parts_3 (fun r_3 I_3 J_3 hp_3 => ?_)
  obtain ⟨rfl, rfl, rfl⟩ := hp_3
  refine x_lconst (pc := 6) (v := 0) K dX8_parts_6 (by decide) ?_
  refine x_lcmp (pc := 7) K dX8_parts_7 ?_
  refine x_if_le (pc := 8) (tgt := 15) K dX8_parts_8 (by decide) (fun c_8 => ?_) (fun c_8 => ?_)
  · replace c_8 := (lg_cmp_le _ _).mp c_8
    have outer : ∀ k, k ≤ 3 → (∀ j, j < k → alM I t u mp j 3 = 0) → h_WW Γ G 21 [(5, .int (nI k)), (4, .int 0), (0, rr G 76), (1, .int (nI t)), (2, .int (nI u)), (3, .int (nI mp))] [] I J := by
      refine loopU 3 (fun k hk ihO => ?_)
      intro hO
      refine x_iload (pc := 21) K 0 dX8_parts_21 rfl ?_
      refine x_iconst (pc := 23) (v := 3) K dX8_parts_23 (by decide) ?_
      refine x_icmp_ge (pc := 24) (tgt := 120) K dX8_parts_24 (by decide) (fun c_24 => ?_) (fun c_24 => ?_)
      · replace c_24 := cI_le (a := 3) (b := k) rfl rfl (by omega) (by omega) c_24
        refine x_iconst (pc := 120) (v := 0) K dX8_parts_120 (by decide) ?_
        exact ret (pc := 121) dX8_parts_121 (⟨bz_0.mpr (prt_n (by omega) hO), rfl, rfl⟩) rfl
      · replace c_24 := cI_nle (a := 3) (b := k) rfl rfl (by omega) (by omega) c_24
        have inner : ∀ i, i ≤ 3 → h_WW Γ G 33 [(7, .int (nI i)), (6, .int (alM I t u mp k i)), (5, .int (nI k)), (4, .int 0), (0, rr G 76), (1, .int (nI t)), (2, .int (nI u)), (3, .int (nI mp))] [] I J := by
          refine loopU 3 (fun i hk ih => ?_)
          refine x_iload (pc := 33) K 0 dX8_parts_33 rfl ?_
          refine x_iconst (pc := 35) (v := 3) K dX8_parts_35 (by decide) ?_
          refine x_icmp_ge (pc := 36) (tgt := 107) K dX8_parts_36 (by decide) (fun c_36 => ?_) (fun c_36 => ?_)
          · replace c_36 := cI_le (a := 3) (b := i) rfl rfl (by omega) (by omega) c_36
            refine x_iload (pc := 107) K 1 dX8_parts_107 rfl ?_
            refine x_if_eq (pc := 109) (tgt := 114) K dX8_parts_109 (by decide) (fun c_109 => ?_) (fun c_109 => ?_)
            · refine x_iinc (pc := 114) (q0 := 2) (v := nI (k + 1)) (lo' := [(5, _), (7, _), (6, _), (4, _), (0, _), (1, _), (2, _), (3, _)]) K dX8_parts_114 rfl (nI_incE rfl) (by decide) rfl ?_
              refine x_goto (pc := 117) (tgt := 21) K dX8_parts_117 (by decide) ?_
              refine x_lo (lo' := [(5, _), (4, _), (0, _), (1, _), (2, _), (3, _)]) [0, 3, 4, 5, 6, 7] rfl ?_
              have hi3 : i = 3 := by omega
              subst hi3
              exact ihO (by omega) (fun j hj => by
                by_cases e : j = k
                · subst e; exact c_109
                · exact hO j (by omega))
            · refine x_iconst (pc := 112) (v := 1) K dX8_parts_112 (by decide) ?_
              exact ret (pc := 113) dX8_parts_113 (⟨bz_1.mpr (prt_y (by omega) (by rw [show 3 = i by omega]; exact c_109)), rfl, rfl⟩) rfl
          · replace c_36 := cI_nle (a := 3) (b := i) rfl rfl (by omega) (by omega) c_36
            refine x_aload_n (pc := 39) K 4 dX8_parts_39 rfl rfl ?_
            refine x_iload_n (pc := 40) K 5 dX8_parts_40 rfl rfl ?_
            refine x_iload (pc := 41) K 2 dX8_parts_41 rfl ?_
            refine x_iload_n (pc := 43) K 7 dX8_parts_43 rfl rfl ?_
            refine x_aload_n (pc := 44) K 4 dX8_parts_44 rfl rfl ?_
            refine x_iload_n (pc := 45) K 6 dX8_parts_45 rfl rfl ?_
            refine x_iload (pc := 46) K 0 dX8_parts_46 rfl ?_
            refine x_iload_n (pc := 48) K 7 dX8_parts_48 rfl rfl ?_
            refine x_iconst (pc := 49) (v := 0) K dX8_parts_49 (by decide) ?_
            refine x_calllV (pc := 50) (st := [_, _, _, _]) (n := 4) K (by decide) sh_76 rfl (c_X8_corner l G _ _ u i mp 0 hU (by omega) (by omega) (by omega)) gX8_parts_X8_corner (by decide +kernel) rfl (by decide) (by decide) rfl rfl (Nat.le_of_ble_eq_true rfl) dX8_parts_50 (fun r_50 I_50 J_50 hp_50 => ?_)
            obtain ⟨rfl, rfl, rfl⟩ := hp_50
            refine x_aload_n (pc := 53) K 4 dX8_parts_53 rfl rfl ?_
            refine x_iload_n (pc := 54) K 6 dX8_parts_54 rfl rfl ?_
            refine x_iload (pc := 55) K 0 dX8_parts_55 rfl ?_
            refine x_iload_n (pc := 57) K 7 dX8_parts_57 rfl rfl ?_
            refine x_iconst (pc := 58) (v := 1) K dX8_parts_58 (by decide) ?_
            refine x_calllV (pc := 59) (st := [_, _, _, _, _]) (n := 4) K (by decide) sh_76 rfl (c_X8_corner l G _ _ u i mp 1 hU (by omega) (by omega) (by omega)) gX8_parts_X8_corner (by decide +kernel) rfl (by decide) (by decide) rfl rfl (Nat.le_of_ble_eq_true rfl) dX8_parts_59 (fun r_59 I_59 J_59 hp_59 => ?_)
            obtain ⟨rfl, rfl, rfl⟩ := hp_59
            refine x_calllV (pc := 62) (st := []) (n := 5) K (by decide) sh_76 rfl (c_X8_side l G _ _ t k mp _ _ hT (by omega) (by omega)) gX8_parts_X8_side (by decide +kernel) rfl (by decide) (by decide) rfl rfl (Nat.le_of_ble_eq_true rfl) dX8_parts_62 (fun r_62 I_62 J_62 hp_62 => ?_)
            obtain ⟨rfl, rfl, rfl⟩ := hp_62
            refine x_lstore (pc := 65) (lo' := [(8, _), (7, _), (6, _), (5, _), (4, _), (0, _), (1, _), (2, _), (3, _)]) K dX8_parts_65 (by decide) rfl ?_
            refine x_iload (pc := 67) K 2 dX8_parts_67 rfl ?_
            refine x_if_eq (pc := 69) (tgt := 98) K dX8_parts_69 (by decide) (fun c_69 => ?_) (fun c_69 => ?_)
            · refine x_iconst (pc := 98) (v := 0) K dX8_parts_98 (by decide) ?_
              refine x_istore (pc := 99) (lo' := [(6, _), (8, _), (7, _), (5, _), (4, _), (0, _), (1, _), (2, _), (3, _)]) K dX8_parts_99 (by decide) rfl ?_
              refine x_iinc (pc := 101) (q0 := 2) (v := nI (i + 1)) (lo' := [(7, _), (6, _), (8, _), (5, _), (4, _), (0, _), (1, _), (2, _), (3, _)]) K dX8_parts_101 rfl (nI_incE rfl) (by decide) rfl ?_
              refine x_goto (pc := 104) (tgt := 33) K dX8_parts_104 (by decide) ?_
              refine x_lo (lo' := [(7, _), (6, _), (5, _), (4, _), (0, _), (1, _), (2, _), (3, _)]) [0, 1, 3, 4, 5, 6, 7, 8] rfl ?_
              exact x_loe (by simp only [alM]; rw [if_neg (fun h => h.1 c_69)]) (ih (by omega))
            · refine x_iload (pc := 72) K 4 dX8_parts_72 rfl ?_
              refine x_if_eq (pc := 74) (tgt := 87) K dX8_parts_74 (by decide) (fun c_74 => ?_) (fun c_74 => ?_)
              · replace c_74 := cI_eq (a := 0) (b := 0) rfl rfl (by omega) (by omega) c_74
                refine x_lload (pc := 87) K 0 dX8_parts_87 rfl ?_
                refine x_lconst (pc := 89) (v := 0) K dX8_parts_89 (by decide) ?_
                refine x_lcmp (pc := 90) K dX8_parts_90 ?_
                refine x_if_lt (pc := 91) (tgt := 98) K dX8_parts_91 (by decide) (fun c_91 => ?_) (fun c_91 => ?_)
                · replace c_91 := (lg_cmp_lt _ _).mp c_91
                  refine x_iconst (pc := 98) (v := 0) K dX8_parts_98 (by decide) ?_
                  refine x_istore (pc := 99) (lo' := [(6, _), (8, _), (7, _), (5, _), (4, _), (0, _), (1, _), (2, _), (3, _)]) K dX8_parts_99 (by decide) rfl ?_
                  refine x_iinc (pc := 101) (q0 := 2) (v := nI (i + 1)) (lo' := [(7, _), (6, _), (8, _), (5, _), (4, _), (0, _), (1, _), (2, _), (3, _)]) K dX8_parts_101 rfl (nI_incE rfl) (by decide) rfl ?_
                  refine x_goto (pc := 104) (tgt := 33) K dX8_parts_104 (by decide) ?_
                  refine x_lo (lo' := [(7, _), (6, _), (5, _), (4, _), (0, _), (1, _), (2, _), (3, _)]) [0, 1, 3, 4, 5, 6, 7, 8] rfl ?_
                  exact x_loe (by simp only [alM]; rw [if_neg (fun h => h.2.elim (fun q => q.1 c_8) (fun q => absurd q.2 (Int64.not_le.mpr c_91)))]) (ih (by omega))
                · replace c_91 := mt (lg_cmp_lt _ _).mpr c_91
                  refine x_iconst (pc := 94) (v := 1) K dX8_parts_94 (by decide) ?_
                  refine x_goto (pc := 95) (tgt := 99) K dX8_parts_95 (by decide) ?_
                  refine x_istore (pc := 99) (lo' := [(6, _), (8, _), (7, _), (5, _), (4, _), (0, _), (1, _), (2, _), (3, _)]) K dX8_parts_99 (by decide) rfl ?_
                  refine x_iinc (pc := 101) (q0 := 2) (v := nI (i + 1)) (lo' := [(7, _), (6, _), (8, _), (5, _), (4, _), (0, _), (1, _), (2, _), (3, _)]) K dX8_parts_101 rfl (nI_incE rfl) (by decide) rfl ?_
                  refine x_goto (pc := 104) (tgt := 33) K dX8_parts_104 (by decide) ?_
                  refine x_lo (lo' := [(7, _), (6, _), (5, _), (4, _), (0, _), (1, _), (2, _), (3, _)]) [0, 1, 3, 4, 5, 6, 7, 8] rfl ?_
                  exact x_loe (by simp only [alM]; rw [if_pos (And.intro c_69 (Or.inr (And.intro c_8 (Int64.not_lt.mp c_91))))]) (ih (by omega))
              · replace c_74 := cI_ne (a := 0) (b := 0) rfl rfl (by omega) (by omega) c_74
                omega
        refine x_iconst (pc := 27) (v := 1) K dX8_parts_27 (by decide) ?_
        refine x_istore (pc := 28) (lo' := [(6, _), (5, _), (4, _), (0, _), (1, _), (2, _), (3, _)]) K dX8_parts_28 (by decide) rfl ?_
        refine x_iconst (pc := 30) (v := 0) K dX8_parts_30 (by decide) ?_
        refine x_istore (pc := 31) (lo' := [(7, _), (6, _), (5, _), (4, _), (0, _), (1, _), (2, _), (3, _)]) K dX8_parts_31 (by decide) rfl ?_
        refine x_lo (lo' := [(7, _), (6, _), (5, _), (4, _), (0, _), (1, _), (2, _), (3, _)]) [0, 1, 2, 3, 4, 5, 6, 7] rfl ?_
        exact x_loe (by rfl) (inner 0 (Nat.zero_le _))
    refine x_iconst (pc := 15) (v := 0) K dX8_parts_15 (by decide) ?_
    refine x_istore (pc := 16) (lo' := [(4, _), (0, _), (1, _), (2, _), (3, _)]) K dX8_parts_16 (by decide) rfl ?_
    refine x_iconst (pc := 18) (v := 0) K dX8_parts_18 (by decide) ?_
    refine x_istore (pc := 19) (lo' := [(5, _), (4, _), (0, _), (1, _), (2, _), (3, _)]) K dX8_parts_19 (by decide) rfl ?_
    refine x_lo (lo' := [(5, _), (4, _), (0, _), (1, _), (2, _), (3, _)]) [0, 1, 2, 3, 4, 5] rfl ?_
    exact x_loe (by rfl) (outer 0 (Nat.zero_le _) (fun j h => absurd h (by omega)))
  · replace c_8 := mt (lg_cmp_le _ _).mpr c_8
    have outer : ∀ k, k ≤ 3 → (∀ j, j < k → alM I t u mp j 3 = 0) → h_WW Γ G 21 [(5, .int (nI k)), (4, .int 1), (0, rr G 76), (1, .int (nI t)), (2, .int (nI u)), (3, .int (nI mp))] [] I J := by
      refine loopU 3 (fun k hk ihO => ?_)
      intro hO
      refine x_iload (pc := 21) K 0 dX8_parts_21 rfl ?_
      refine x_iconst (pc := 23) (v := 3) K dX8_parts_23 (by decide) ?_
      refine x_icmp_ge (pc := 24) (tgt := 120) K dX8_parts_24 (by decide) (fun c_24 => ?_) (fun c_24 => ?_)
      · replace c_24 := cI_le (a := 3) (b := k) rfl rfl (by omega) (by omega) c_24
        refine x_iconst (pc := 120) (v := 0) K dX8_parts_120 (by decide) ?_
        exact ret (pc := 121) dX8_parts_121 (⟨bz_0.mpr (prt_n (by omega) hO), rfl, rfl⟩) rfl
      · replace c_24 := cI_nle (a := 3) (b := k) rfl rfl (by omega) (by omega) c_24
        have inner : ∀ i, i ≤ 3 → h_WW Γ G 33 [(7, .int (nI i)), (6, .int (alM I t u mp k i)), (5, .int (nI k)), (4, .int 1), (0, rr G 76), (1, .int (nI t)), (2, .int (nI u)), (3, .int (nI mp))] [] I J := by
          refine loopU 3 (fun i hk ih => ?_)
          refine x_iload (pc := 33) K 0 dX8_parts_33 rfl ?_
          refine x_iconst (pc := 35) (v := 3) K dX8_parts_35 (by decide) ?_
          refine x_icmp_ge (pc := 36) (tgt := 107) K dX8_parts_36 (by decide) (fun c_36 => ?_) (fun c_36 => ?_)
          · replace c_36 := cI_le (a := 3) (b := i) rfl rfl (by omega) (by omega) c_36
            refine x_iload (pc := 107) K 1 dX8_parts_107 rfl ?_
            refine x_if_eq (pc := 109) (tgt := 114) K dX8_parts_109 (by decide) (fun c_109 => ?_) (fun c_109 => ?_)
            · refine x_iinc (pc := 114) (q0 := 2) (v := nI (k + 1)) (lo' := [(5, _), (7, _), (6, _), (4, _), (0, _), (1, _), (2, _), (3, _)]) K dX8_parts_114 rfl (nI_incE rfl) (by decide) rfl ?_
              refine x_goto (pc := 117) (tgt := 21) K dX8_parts_117 (by decide) ?_
              refine x_lo (lo' := [(5, _), (4, _), (0, _), (1, _), (2, _), (3, _)]) [0, 3, 4, 5, 6, 7] rfl ?_
              have hi3 : i = 3 := by omega
              subst hi3
              exact ihO (by omega) (fun j hj => by
                by_cases e : j = k
                · subst e; exact c_109
                · exact hO j (by omega))
            · refine x_iconst (pc := 112) (v := 1) K dX8_parts_112 (by decide) ?_
              exact ret (pc := 113) dX8_parts_113 (⟨bz_1.mpr (prt_y (by omega) (by rw [show 3 = i by omega]; exact c_109)), rfl, rfl⟩) rfl
          · replace c_36 := cI_nle (a := 3) (b := i) rfl rfl (by omega) (by omega) c_36
            refine x_aload_n (pc := 39) K 4 dX8_parts_39 rfl rfl ?_
            refine x_iload_n (pc := 40) K 5 dX8_parts_40 rfl rfl ?_
            refine x_iload (pc := 41) K 2 dX8_parts_41 rfl ?_
            refine x_iload_n (pc := 43) K 7 dX8_parts_43 rfl rfl ?_
            refine x_aload_n (pc := 44) K 4 dX8_parts_44 rfl rfl ?_
            refine x_iload_n (pc := 45) K 6 dX8_parts_45 rfl rfl ?_
            refine x_iload (pc := 46) K 0 dX8_parts_46 rfl ?_
            refine x_iload_n (pc := 48) K 7 dX8_parts_48 rfl rfl ?_
            refine x_iconst (pc := 49) (v := 0) K dX8_parts_49 (by decide) ?_
            refine x_calllV (pc := 50) (st := [_, _, _, _]) (n := 4) K (by decide) sh_76 rfl (c_X8_corner l G _ _ u i mp 0 hU (by omega) (by omega) (by omega)) gX8_parts_X8_corner (by decide +kernel) rfl (by decide) (by decide) rfl rfl (Nat.le_of_ble_eq_true rfl) dX8_parts_50 (fun r_50 I_50 J_50 hp_50 => ?_)
            obtain ⟨rfl, rfl, rfl⟩ := hp_50
            refine x_aload_n (pc := 53) K 4 dX8_parts_53 rfl rfl ?_
            refine x_iload_n (pc := 54) K 6 dX8_parts_54 rfl rfl ?_
            refine x_iload (pc := 55) K 0 dX8_parts_55 rfl ?_
            refine x_iload_n (pc := 57) K 7 dX8_parts_57 rfl rfl ?_
            refine x_iconst (pc := 58) (v := 1) K dX8_parts_58 (by decide) ?_
            refine x_calllV (pc := 59) (st := [_, _, _, _, _]) (n := 4) K (by decide) sh_76 rfl (c_X8_corner l G _ _ u i mp 1 hU (by omega) (by omega) (by omega)) gX8_parts_X8_corner (by decide +kernel) rfl (by decide) (by decide) rfl rfl (Nat.le_of_ble_eq_true rfl) dX8_parts_59 (fun r_59 I_59 J_59 hp_59 => ?_)
            obtain ⟨rfl, rfl, rfl⟩ := hp_59
            refine x_calllV (pc := 62) (st := []) (n := 5) K (by decide) sh_76 rfl (c_X8_side l G _ _ t k mp _ _ hT (by omega) (by omega)) gX8_parts_X8_side (by decide +kernel) rfl (by decide) (by decide) rfl rfl (Nat.le_of_ble_eq_true rfl) dX8_parts_62 (fun r_62 I_62 J_62 hp_62 => ?_)
            obtain ⟨rfl, rfl, rfl⟩ := hp_62
            refine x_lstore (pc := 65) (lo' := [(8, _), (7, _), (6, _), (5, _), (4, _), (0, _), (1, _), (2, _), (3, _)]) K dX8_parts_65 (by decide) rfl ?_
            refine x_iload (pc := 67) K 2 dX8_parts_67 rfl ?_
            refine x_if_eq (pc := 69) (tgt := 98) K dX8_parts_69 (by decide) (fun c_69 => ?_) (fun c_69 => ?_)
            · refine x_iconst (pc := 98) (v := 0) K dX8_parts_98 (by decide) ?_
              refine x_istore (pc := 99) (lo' := [(6, _), (8, _), (7, _), (5, _), (4, _), (0, _), (1, _), (2, _), (3, _)]) K dX8_parts_99 (by decide) rfl ?_
              refine x_iinc (pc := 101) (q0 := 2) (v := nI (i + 1)) (lo' := [(7, _), (6, _), (8, _), (5, _), (4, _), (0, _), (1, _), (2, _), (3, _)]) K dX8_parts_101 rfl (nI_incE rfl) (by decide) rfl ?_
              refine x_goto (pc := 104) (tgt := 33) K dX8_parts_104 (by decide) ?_
              refine x_lo (lo' := [(7, _), (6, _), (5, _), (4, _), (0, _), (1, _), (2, _), (3, _)]) [0, 1, 3, 4, 5, 6, 7, 8] rfl ?_
              exact x_loe (by simp only [alM]; rw [if_neg (fun h => h.1 c_69)]) (ih (by omega))
            · refine x_iload (pc := 72) K 4 dX8_parts_72 rfl ?_
              refine x_if_eq (pc := 74) (tgt := 87) K dX8_parts_74 (by decide) (fun c_74 => ?_) (fun c_74 => ?_)
              · replace c_74 := cI_eq (a := 1) (b := 0) rfl rfl (by omega) (by omega) c_74
                omega
              · replace c_74 := cI_ne (a := 1) (b := 0) rfl rfl (by omega) (by omega) c_74
                refine x_lload (pc := 77) K 0 dX8_parts_77 rfl ?_
                refine x_lconst (pc := 79) (v := 0) K dX8_parts_79 (by decide) ?_
                refine x_lcmp (pc := 80) K dX8_parts_80 ?_
                refine x_if_gt (pc := 81) (tgt := 98) K dX8_parts_81 (by decide) (fun c_81 => ?_) (fun c_81 => ?_)
                · replace c_81 := (lg_cmp_gt _ _).mp c_81
                  refine x_iconst (pc := 98) (v := 0) K dX8_parts_98 (by decide) ?_
                  refine x_istore (pc := 99) (lo' := [(6, _), (8, _), (7, _), (5, _), (4, _), (0, _), (1, _), (2, _), (3, _)]) K dX8_parts_99 (by decide) rfl ?_
                  refine x_iinc (pc := 101) (q0 := 2) (v := nI (i + 1)) (lo' := [(7, _), (6, _), (8, _), (5, _), (4, _), (0, _), (1, _), (2, _), (3, _)]) K dX8_parts_101 rfl (nI_incE rfl) (by decide) rfl ?_
                  refine x_goto (pc := 104) (tgt := 33) K dX8_parts_104 (by decide) ?_
                  refine x_lo (lo' := [(7, _), (6, _), (5, _), (4, _), (0, _), (1, _), (2, _), (3, _)]) [0, 1, 3, 4, 5, 6, 7, 8] rfl ?_
                  exact x_loe (by simp only [alM]; rw [if_neg (fun h => h.2.elim (fun q => absurd q.2 (Int64.not_le.mpr c_81)) (fun q => c_8 q.1))]) (ih (by omega))
                · replace c_81 := mt (lg_cmp_gt _ _).mpr c_81
                  refine x_goto (pc := 84) (tgt := 94) K dX8_parts_84 (by decide) ?_
                  refine x_iconst (pc := 94) (v := 1) K dX8_parts_94 (by decide) ?_
                  refine x_goto (pc := 95) (tgt := 99) K dX8_parts_95 (by decide) ?_
                  refine x_istore (pc := 99) (lo' := [(6, _), (8, _), (7, _), (5, _), (4, _), (0, _), (1, _), (2, _), (3, _)]) K dX8_parts_99 (by decide) rfl ?_
                  refine x_iinc (pc := 101) (q0 := 2) (v := nI (i + 1)) (lo' := [(7, _), (6, _), (8, _), (5, _), (4, _), (0, _), (1, _), (2, _), (3, _)]) K dX8_parts_101 rfl (nI_incE rfl) (by decide) rfl ?_
                  refine x_goto (pc := 104) (tgt := 33) K dX8_parts_104 (by decide) ?_
                  refine x_lo (lo' := [(7, _), (6, _), (5, _), (4, _), (0, _), (1, _), (2, _), (3, _)]) [0, 1, 3, 4, 5, 6, 7, 8] rfl ?_
                  exact x_loe (by simp only [alM]; rw [if_pos (And.intro c_69 (Or.inl (And.intro c_8 (Int64.not_lt.mp c_81))))]) (ih (by omega))
        refine x_iconst (pc := 27) (v := 1) K dX8_parts_27 (by decide) ?_
        refine x_istore (pc := 28) (lo' := [(6, _), (5, _), (4, _), (0, _), (1, _), (2, _), (3, _)]) K dX8_parts_28 (by decide) rfl ?_
        refine x_iconst (pc := 30) (v := 0) K dX8_parts_30 (by decide) ?_
        refine x_istore (pc := 31) (lo' := [(7, _), (6, _), (5, _), (4, _), (0, _), (1, _), (2, _), (3, _)]) K dX8_parts_31 (by decide) rfl ?_
        refine x_lo (lo' := [(7, _), (6, _), (5, _), (4, _), (0, _), (1, _), (2, _), (3, _)]) [0, 1, 2, 3, 4, 5, 6, 7] rfl ?_
        exact x_loe (by rfl) (inner 0 (Nat.zero_le _))
    refine x_iconst (pc := 11) (v := 1) K dX8_parts_11 (by decide) ?_
    refine x_goto (pc := 12) (tgt := 16) K dX8_parts_12 (by decide) ?_
    refine x_istore (pc := 16) (lo' := [(4, _), (0, _), (1, _), (2, _), (3, _)]) K dX8_parts_16 (by decide) rfl ?_
    refine x_iconst (pc := 18) (v := 0) K dX8_parts_18 (by decide) ?_
    refine x_istore (pc := 19) (lo' := [(5, _), (4, _), (0, _), (1, _), (2, _), (3, _)]) K dX8_parts_19 (by decide) rfl ?_
    refine x_lo (lo' := [(5, _), (4, _), (0, _), (1, _), (2, _), (3, _)]) [0, 1, 2, 3, 4, 5] rfl ?_
    exact x_loe (by rfl) (outer 0 (Nat.zero_le _) (fun j h => absurd h (by omega)))

set_option maxHeartbeats 1000000 in
set_option maxRecDepth 100000 in
theorem c_X8_doMeet (l : Launch) (G : hQ) (I : hI) (J : hJ) (t u mp : Nat) (hT : TOkM I t) (hU : TOkM I u) (hm : mp < 2) : h_Mi l yX8_doMeet wsX8_doMeet 4 110 G [rr G 76, .int (nI t), .int (nI u), .int (nI mp)] I J (fun ρ I' J' => bz (metM I t u mp) = ρ ∧ I = I' ∧ J = J') := by
  refine h_Mi.of (ty := .boolean) (cc := cX8_doMeet) (maxL := 4) [(0, rr G 76), (1, .int (nI t)), (2, .int (nI u)), (3, .int (nI mp))] (by decide +kernel) rfl (Nat.le_of_ble_eq_true rfl) rfl ?_
  intro Γ K ret
  refine x_aload_n (pc := 0) K 0 dX8_doMeet_0 rfl rfl ?_
  refine x_iload_n (pc := 1) K 1 dX8_doMeet_1 rfl rfl ?_
  refine x_iload_n (pc := 2) K 2 dX8_doMeet_2 rfl rfl ?_
  refine x_iload_n (pc := 3) K 3 dX8_doMeet_3 rfl rfl ?_
  refine x_calliV (pc := 4) (st := []) (n := 3) K (by decide) sh_76 rfl (c_X8_parts l G _ _ t u mp hT hU (by omega)) gX8_doMeet_X8_parts (by decide +kernel) rfl (by decide) (by decide) rfl rfl (Nat.le_of_ble_eq_true rfl) dX8_doMeet_4 (fun r_4 I_4 J_4 hp_4 => ?_)
  obtain ⟨rfl, rfl, rfl⟩ := hp_4
  refine x_if_ne (pc := 7) (tgt := 24) K dX8_doMeet_7 (by decide) (fun c_7 => ?_) (fun c_7 => ?_)
  · replace c_7 := bz_n0.mp c_7
    refine x_iconst (pc := 24) (v := 0) K dX8_doMeet_24 (by decide) ?_
    exact ret (pc := 25) dX8_doMeet_25 (⟨by first | exact bz_1.mpr ⟨by assumption, by assumption⟩ | exact bz_0.mpr (fun h => h.1 (by assumption)) | exact bz_0.mpr (fun h => h.2 (by assumption)), rfl, rfl⟩) rfl
  · replace c_7 := bz_0.mp c_7
    refine x_aload_n (pc := 10) K 0 dX8_doMeet_10 rfl rfl ?_
    refine x_iload_n (pc := 11) K 2 dX8_doMeet_11 rfl rfl ?_
    refine x_iload_n (pc := 12) K 1 dX8_doMeet_12 rfl rfl ?_
    refine x_iload_n (pc := 13) K 3 dX8_doMeet_13 rfl rfl ?_
    refine x_calliV (pc := 14) (st := []) (n := 3) K (by decide) sh_76 rfl (c_X8_parts l G _ _ u t mp hU hT (by omega)) gX8_doMeet_X8_parts (by decide +kernel) rfl (by decide) (by decide) rfl rfl (Nat.le_of_ble_eq_true rfl) dX8_doMeet_14 (fun r_14 I_14 J_14 hp_14 => ?_)
    obtain ⟨rfl, rfl, rfl⟩ := hp_14
    refine x_if_ne (pc := 17) (tgt := 24) K dX8_doMeet_17 (by decide) (fun c_17 => ?_) (fun c_17 => ?_)
    · replace c_17 := bz_n0.mp c_17
      refine x_iconst (pc := 24) (v := 0) K dX8_doMeet_24 (by decide) ?_
      exact ret (pc := 25) dX8_doMeet_25 (⟨by first | exact bz_1.mpr ⟨by assumption, by assumption⟩ | exact bz_0.mpr (fun h => h.1 (by assumption)) | exact bz_0.mpr (fun h => h.2 (by assumption)), rfl, rfl⟩) rfl
    · replace c_17 := bz_0.mp c_17
      refine x_iconst (pc := 20) (v := 1) K dX8_doMeet_20 (by decide) ?_
      refine x_goto (pc := 21) (tgt := 25) K dX8_doMeet_21 (by decide) ?_
      exact ret (pc := 25) dX8_doMeet_25 (⟨by first | exact bz_1.mpr ⟨by assumption, by assumption⟩ | exact bz_0.mpr (fun h => h.1 (by assumption)) | exact bz_0.mpr (fun h => h.2 (by assumption)), rfl, rfl⟩) rfl

set_option maxHeartbeats 1000000 in
set_option maxRecDepth 100000 in
theorem c_X8_meet (l : Launch) (G : hQ) (I : hI) (J : hJ) (t u m : Int32) (nt : Nat) (ht : I 76 4 = nI nt) (h10 : nt ≤ 10) (hA : ∀ t, t < nt → TOkM I t) : h_Mi l yX8_meet wsX8_meet 5 133 G [rr G 76, .int t, .int u, .int m] I J (fun ρ I' J' => (if (0 ≤ t ∧ t < I 76 4) ∧ (0 ≤ u ∧ u < I 76 4) ∧ (0 ≤ m ∧ m ≤ 1) ∧ ¬ t = u then (if fltM I (tn t) ∨ fltM I (tn u) then -4 else if metM I (tn t) (tn u) (tn m) then 1 else 0) else -1) = ρ ∧ I = I' ∧ J = J') := by
  refine h_Mi.of (ty := .int) (cc := cX8_meet) (maxL := 4) [(0, rr G 76), (1, .int t), (2, .int u), (3, .int m)] (by decide +kernel) rfl (Nat.le_of_ble_eq_true rfl) rfl ?_
  intro Γ K ret
  refine x_aload_n (pc := 0) K 0 dX8_meet_0 rfl rfl ?_
  refine x_iload_n (pc := 1) K 1 dX8_meet_1 rfl rfl ?_
  refine x_calliV (pc := 2) (st := []) (n := 1) K (by decide) sh_76 rfl (c_X8_isTriangle l G _ _ _ nt ht h10) gX8_meet_X8_isTriangle (by decide +kernel) rfl (by decide) (by decide) rfl rfl (Nat.le_of_ble_eq_true rfl) dX8_meet_2 (fun r_2 I_2 J_2 hp_2 => ?_)
  obtain ⟨rfl, rfl, rfl⟩ := hp_2
  refine x_if_eq (pc := 5) (tgt := 28) K dX8_meet_5 (by decide) (fun c_5 => ?_) (fun c_5 => ?_)
  · replace c_5 := bz_0.mp c_5
    refine x_iconst (pc := 28) (v := -1) K dX8_meet_28 (by decide) ?_
    exact ret (pc := 29) dX8_meet_29 (⟨if_neg (fun h => c_5 h.1), rfl, rfl⟩) rfl
  · replace c_5 := bz_n0.mp c_5
    refine x_aload_n (pc := 8) K 0 dX8_meet_8 rfl rfl ?_
    refine x_iload_n (pc := 9) K 2 dX8_meet_9 rfl rfl ?_
    refine x_calliV (pc := 10) (st := []) (n := 1) K (by decide) sh_76 rfl (c_X8_isTriangle l G _ _ _ nt ht h10) gX8_meet_X8_isTriangle (by decide +kernel) rfl (by decide) (by decide) rfl rfl (Nat.le_of_ble_eq_true rfl) dX8_meet_10 (fun r_10 I_10 J_10 hp_10 => ?_)
    obtain ⟨rfl, rfl, rfl⟩ := hp_10
    refine x_if_eq (pc := 13) (tgt := 28) K dX8_meet_13 (by decide) (fun c_13 => ?_) (fun c_13 => ?_)
    · replace c_13 := bz_0.mp c_13
      refine x_iconst (pc := 28) (v := -1) K dX8_meet_28 (by decide) ?_
      exact ret (pc := 29) dX8_meet_29 (⟨if_neg (fun h => c_13 h.2.1), rfl, rfl⟩) rfl
    · replace c_13 := bz_n0.mp c_13
      refine x_iload_n (pc := 16) K 3 dX8_meet_16 rfl rfl ?_
      refine x_calliS (pc := 17) (st := []) (n := 1) K (c_X8_isMap l G _ _ _) gX8_meet_X8_isMap (by decide +kernel) rfl (by decide) (by decide) rfl rfl (Nat.le_of_ble_eq_true rfl) dX8_meet_17 (fun r_17 I_17 J_17 hp_17 => ?_)
      obtain ⟨rfl, rfl, rfl⟩ := hp_17
      refine x_if_eq (pc := 20) (tgt := 28) K dX8_meet_20 (by decide) (fun c_20 => ?_) (fun c_20 => ?_)
      · replace c_20 := bz_0.mp c_20
        refine x_iconst (pc := 28) (v := -1) K dX8_meet_28 (by decide) ?_
        exact ret (pc := 29) dX8_meet_29 (⟨if_neg (fun h => c_20 h.2.2.1), rfl, rfl⟩) rfl
      · replace c_20 := bz_n0.mp c_20
        refine x_iload_n (pc := 23) K 1 dX8_meet_23 rfl rfl ?_
        refine x_iload_n (pc := 24) K 2 dX8_meet_24 rfl rfl ?_
        refine x_icmp_ne (pc := 25) (tgt := 30) K dX8_meet_25 (by decide) (fun c_25 => ?_) (fun c_25 => ?_)
        · obtain ⟨a, ha, rfl⟩ := has_of c_5 ht (by omega)
          obtain ⟨b, hb, rfl⟩ := has_of c_13 ht (by omega)
          obtain ⟨mp, hmp, rfl⟩ := mp1_of c_20
          refine x_aload_n (pc := 30) K 0 dX8_meet_30 rfl rfl ?_
          refine x_iload_n (pc := 31) K 1 dX8_meet_31 rfl rfl ?_
          refine x_calliV (pc := 32) (st := []) (n := 1) K (by decide) sh_76 rfl (c_X8_isFlat l G _ _ a (hA a ha)) gX8_meet_X8_isFlat (by decide +kernel) rfl (by decide) (by decide) rfl rfl (Nat.le_of_ble_eq_true rfl) dX8_meet_32 (fun r_32 I_32 J_32 hp_32 => ?_)
          obtain ⟨rfl, rfl, rfl⟩ := hp_32
          refine x_if_ne (pc := 35) (tgt := 46) K dX8_meet_35 (by decide) (fun c_35 => ?_) (fun c_35 => ?_)
          · replace c_35 := bz_n0.mp c_35
            refine x_bipush (pc := 46) (v := -4) K dX8_meet_46 (by decide) ?_
            exact ret (pc := 48) dX8_meet_48 (⟨by rw [if_pos ⟨c_5, c_13, c_20, c_25⟩, tn_n (by omega), tn_n (by omega), tn_n (by omega), if_pos (Or.inl c_35)], rfl, rfl⟩) rfl
          · replace c_35 := bz_0.mp c_35
            refine x_aload_n (pc := 38) K 0 dX8_meet_38 rfl rfl ?_
            refine x_iload_n (pc := 39) K 2 dX8_meet_39 rfl rfl ?_
            refine x_calliV (pc := 40) (st := []) (n := 1) K (by decide) sh_76 rfl (c_X8_isFlat l G _ _ b (hA b hb)) gX8_meet_X8_isFlat (by decide +kernel) rfl (by decide) (by decide) rfl rfl (Nat.le_of_ble_eq_true rfl) dX8_meet_40 (fun r_40 I_40 J_40 hp_40 => ?_)
            obtain ⟨rfl, rfl, rfl⟩ := hp_40
            refine x_if_eq (pc := 43) (tgt := 49) K dX8_meet_43 (by decide) (fun c_43 => ?_) (fun c_43 => ?_)
            · replace c_43 := bz_0.mp c_43
              refine x_aload_n (pc := 49) K 0 dX8_meet_49 rfl rfl ?_
              refine x_iload_n (pc := 50) K 1 dX8_meet_50 rfl rfl ?_
              refine x_iload_n (pc := 51) K 2 dX8_meet_51 rfl rfl ?_
              refine x_iload_n (pc := 52) K 3 dX8_meet_52 rfl rfl ?_
              refine x_calliV (pc := 53) (st := []) (n := 3) K (by decide) sh_76 rfl (c_X8_doMeet l G _ _ a b mp (hA a ha) (hA b hb) (by omega)) gX8_meet_X8_doMeet (by decide +kernel) rfl (by decide) (by decide) rfl rfl (Nat.le_of_ble_eq_true rfl) dX8_meet_53 (fun r_53 I_53 J_53 hp_53 => ?_)
              obtain ⟨rfl, rfl, rfl⟩ := hp_53
              refine x_if_eq (pc := 56) (tgt := 63) K dX8_meet_56 (by decide) (fun c_56 => ?_) (fun c_56 => ?_)
              · replace c_56 := bz_0.mp c_56
                refine x_iconst (pc := 63) (v := 0) K dX8_meet_63 (by decide) ?_
                exact ret (pc := 64) dX8_meet_64 (⟨by rw [if_pos ⟨c_5, c_13, c_20, c_25⟩, tn_n (by omega), tn_n (by omega), tn_n (by omega), if_neg (not_or.mpr ⟨c_35, c_43⟩), if_neg c_56], rfl, rfl⟩) rfl
              · replace c_56 := bz_n0.mp c_56
                refine x_iconst (pc := 59) (v := 1) K dX8_meet_59 (by decide) ?_
                refine x_goto (pc := 60) (tgt := 64) K dX8_meet_60 (by decide) ?_
                exact ret (pc := 64) dX8_meet_64 (⟨by rw [if_pos ⟨c_5, c_13, c_20, c_25⟩, tn_n (by omega), tn_n (by omega), tn_n (by omega), if_neg (not_or.mpr ⟨c_35, c_43⟩), if_pos c_56], rfl, rfl⟩) rfl
            · replace c_43 := bz_n0.mp c_43
              refine x_bipush (pc := 46) (v := -4) K dX8_meet_46 (by decide) ?_
              exact ret (pc := 48) dX8_meet_48 (⟨by rw [if_pos ⟨c_5, c_13, c_20, c_25⟩, tn_n (by omega), tn_n (by omega), tn_n (by omega), if_pos (Or.inr c_43)], rfl, rfl⟩) rfl
        · refine x_iconst (pc := 28) (v := -1) K dX8_meet_28 (by decide) ?_
          exact ret (pc := 29) dX8_meet_29 (⟨if_neg (fun h => h.2.2.2 c_25), rfl, rfl⟩) rfl

set_option maxHeartbeats 1000000 in
set_option maxRecDepth 100000 in
theorem c_X8_area (l : Launch) (G : hQ) (I : hI) (J : hJ) (t m : Int32) (nt : Nat) (ht : I 76 4 = nI nt) (h10 : nt ≤ 10) (hA : ∀ t, t < nt → TOkM I t) : h_Mi l yX8_area wsX8_area 3 81 G [rr G 76, .int t, .int m] I J (fun ρ I' J' => (if (0 ≤ t ∧ t < I 76 4) ∧ (0 ≤ m ∧ m ≤ 1) then (ng64 (rdM I (tn t) (tn m))).toInt32 else -1) = ρ ∧ I = I' ∧ J = J') := by
  refine h_Mi.of (ty := .int) (cc := cX8_area) (maxL := 5) [(0, rr G 76), (1, .int t), (2, .int m)] (by decide +kernel) rfl (Nat.le_of_ble_eq_true rfl) rfl ?_
  intro Γ K ret
  refine x_aload_n (pc := 0) K 0 dX8_area_0 rfl rfl ?_
  refine x_iload_n (pc := 1) K 1 dX8_area_1 rfl rfl ?_
  refine x_calliV (pc := 2) (st := []) (n := 1) K (by decide) sh_76 rfl (c_X8_isTriangle l G _ _ _ nt ht h10) gX8_area_X8_isTriangle (by decide +kernel) rfl (by decide) (by decide) rfl rfl (Nat.le_of_ble_eq_true rfl) dX8_area_2 (fun r_2 I_2 J_2 hp_2 => ?_)
  obtain ⟨rfl, rfl, rfl⟩ := hp_2
  refine x_if_eq (pc := 5) (tgt := 15) K dX8_area_5 (by decide) (fun c_5 => ?_) (fun c_5 => ?_)
  · replace c_5 := bz_0.mp c_5
    refine x_iconst (pc := 15) (v := -1) K dX8_area_15 (by decide) ?_
    exact ret (pc := 16) dX8_area_16 (⟨if_neg (fun h => c_5 h.1), rfl, rfl⟩) rfl
  · replace c_5 := bz_n0.mp c_5
    obtain ⟨q, hq, rfl⟩ := has_of c_5 ht (by omega)
    refine x_iload_n (pc := 8) K 2 dX8_area_8 rfl rfl ?_
    refine x_calliS (pc := 9) (st := []) (n := 1) K (c_X8_isMap l G _ _ _) gX8_area_X8_isMap (by decide +kernel) rfl (by decide) (by decide) rfl rfl (Nat.le_of_ble_eq_true rfl) dX8_area_9 (fun r_9 I_9 J_9 hp_9 => ?_)
    obtain ⟨rfl, rfl, rfl⟩ := hp_9
    refine x_if_ne (pc := 12) (tgt := 17) K dX8_area_12 (by decide) (fun c_12 => ?_) (fun c_12 => ?_)
    · replace c_12 := bz_n0.mp c_12
      obtain ⟨mp, hmp, rfl⟩ := mp1_of c_12
      refine x_aload_n (pc := 17) K 0 dX8_area_17 rfl rfl ?_
      refine x_iload_n (pc := 18) K 1 dX8_area_18 rfl rfl ?_
      refine x_iload_n (pc := 19) K 2 dX8_area_19 rfl rfl ?_
      refine x_calllV (pc := 20) (st := []) (n := 2) K (by decide) sh_76 rfl (c_X8_round l G _ _ q mp (hA q hq) (by omega)) gX8_area_X8_round (by decide +kernel) rfl (by decide) (by decide) rfl rfl (Nat.le_of_ble_eq_true rfl) dX8_area_20 (fun r_20 I_20 J_20 hp_20 => ?_)
      obtain ⟨rfl, rfl, rfl⟩ := hp_20
      refine x_lstore_n (pc := 23) (lo' := [(3, _), (0, _), (1, _), (2, _)]) K dX8_area_23 rfl (by decide) rfl ?_
      refine x_lload_n (pc := 24) K 0 dX8_area_24 rfl rfl ?_
      refine x_lconst (pc := 25) (v := 0) K dX8_area_25 (by decide) ?_
      refine x_lcmp (pc := 26) K dX8_area_26 ?_
      refine x_if_ge (pc := 27) (tgt := 35) K dX8_area_27 (by decide) (fun c_27 => ?_) (fun c_27 => ?_)
      · replace c_27 := (lg_cmp_ge _ _).mp c_27
        refine x_lload_n (pc := 35) K 0 dX8_area_35 rfl rfl ?_
        refine x_tople (ng64 (rdM I q mp)) (by rw [ng64, if_pos c_27]) ?_
        refine x_l2i (pc := 36) K dX8_area_36 ?_
        exact ret (pc := 37) dX8_area_37 (⟨by rw [if_pos ⟨c_5, c_12⟩, tn_n (by omega), tn_n (by omega)], rfl, rfl⟩) rfl
      · replace c_27 := mt (lg_cmp_ge _ _).mpr c_27
        refine x_lload_n (pc := 30) K 0 dX8_area_30 rfl rfl ?_
        refine x_lneg (pc := 31) K dX8_area_31 ?_
        refine x_goto (pc := 32) (tgt := 36) K dX8_area_32 (by decide) ?_
        refine x_tople (ng64 (rdM I q mp)) (by rw [ng64, if_neg c_27]) ?_
        refine x_l2i (pc := 36) K dX8_area_36 ?_
        exact ret (pc := 37) dX8_area_37 (⟨by rw [if_pos ⟨c_5, c_12⟩, tn_n (by omega), tn_n (by omega)], rfl, rfl⟩) rfl
    · replace c_12 := bz_0.mp c_12
      refine x_iconst (pc := 15) (v := -1) K dX8_area_15 (by decide) ?_
      exact ret (pc := 16) dX8_area_16 (⟨if_neg (fun h => c_12 h.2), rfl, rfl⟩) rfl

set_option maxHeartbeats 1000000 in
set_option maxRecDepth 100000 in
theorem c_X8_within (l : Launch) (G : hQ) (I : hI) (J : hJ) (m x y : Int32) (nt : Nat) (ht : I 76 4 = nI nt) (h10 : nt ≤ 10) (hA : ∀ t, t < nt → TOkM I t) : h_Mi l yX8_within wsX8_within 5 131 G [rr G 76, .int m, .int x, .int y] I J (fun ρ I' J' => (if (0 ≤ m ∧ m ≤ 1) ∧ Pl x y then fstI (fun t => inM I t (tn m) x.toInt64 y.toInt64) 0 nt else -1) = ρ ∧ I = I' ∧ J = J') := by
  refine h_Mi.of (ty := .int) (cc := cX8_within) (maxL := 5) [(0, rr G 76), (1, .int m), (2, .int x), (3, .int y)] (by decide +kernel) rfl (Nat.le_of_ble_eq_true rfl) rfl ?_
  intro Γ K ret
  have i_X8 : ∀ w ∈ u_ws RX8 TX8 36, w ∈ wsX8_within := by decide +kernel
  refine x_iload_n (pc := 0) K 1 dX8_within_0 rfl rfl ?_
  refine x_calliS (pc := 1) (st := []) (n := 1) K (c_X8_isMap l G _ _ _) gX8_within_X8_isMap (by decide +kernel) rfl (by decide) (by decide) rfl rfl (Nat.le_of_ble_eq_true rfl) dX8_within_1 (fun r_1 I_1 J_1 hp_1 => ?_)
  obtain ⟨rfl, rfl, rfl⟩ := hp_1
  refine x_if_eq (pc := 4) (tgt := 15) K dX8_within_4 (by decide) (fun c_4 => ?_) (fun c_4 => ?_)
  · replace c_4 := bz_0.mp c_4
    refine x_iconst (pc := 15) (v := -1) K dX8_within_15 (by decide) ?_
    exact ret (pc := 16) dX8_within_16 (⟨if_neg (fun h => c_4 h.1), rfl, rfl⟩) rfl
  · replace c_4 := bz_n0.mp c_4
    obtain ⟨mp, hmp, rfl⟩ := mp1_of c_4
    refine x_iload_n (pc := 7) K 2 dX8_within_7 rfl rfl ?_
    refine x_iload_n (pc := 8) K 3 dX8_within_8 rfl rfl ?_
    refine x_calliS (pc := 9) (st := []) (n := 2) K (c_X8_isPlace l G _ _ _ _) gX8_within_X8_isPlace (by decide +kernel) rfl (by decide) (by decide) rfl rfl (Nat.le_of_ble_eq_true rfl) dX8_within_9 (fun r_9 I_9 J_9 hp_9 => ?_)
    obtain ⟨rfl, rfl, rfl⟩ := hp_9
    refine x_if_ne (pc := 12) (tgt := 17) K dX8_within_12 (by decide) (fun c_12 => ?_) (fun c_12 => ?_)
    · replace c_12 := bz_n0.mp c_12
      have loop : ∀ k, k ≤ nt → (fstI (fun t => inM I t mp x.toInt64 y.toInt64) 0 nt = fstI (fun t => inM I t mp x.toInt64 y.toInt64) k (nt - k)) → h_WW Γ G 20 [(4, .int (nI k)), (0, rr G 76), (1, .int (nI mp)), (2, .int x), (3, .int y)] [] I J := by
        refine loopU nt (fun k hk ih => ?_)
        intro hi
        refine x_iload (pc := 20) K 0 dX8_within_20 rfl ?_
        refine x_aload_n (pc := 22) K 1 dX8_within_22 rfl rfl ?_
        refine x_geti (pc := 23) (index := 183) (C := RX8) (T := TX8) (N := 36) (j0 := 4) (ref := "OldMapModel") K (by decide) sh_76 rfl i_X8 (by decide) (by decide +kernel) rfl rfl dX8_within_23 ?_
        refine x_topie (nI nt) ht ?_
        refine x_icmp_ge (pc := 26) (tgt := 50) K dX8_within_26 (by decide) (fun c_26 => ?_) (fun c_26 => ?_)
        · replace c_26 := cI_le (a := nt) (b := k) rfl rfl (by omega) (by omega) c_26
          refine x_bipush (pc := 50) (v := -5) K dX8_within_50 (by decide) ?_
          exact ret (pc := 52) dX8_within_52 (⟨by rw [if_pos ⟨c_4, c_12⟩, tn_n (by omega), hi, fstI_e (by omega)], rfl, rfl⟩) rfl
        · replace c_26 := cI_nle (a := nt) (b := k) rfl rfl (by omega) (by omega) c_26
          refine x_aload_n (pc := 29) K 1 dX8_within_29 rfl rfl ?_
          refine x_iload (pc := 30) K 0 dX8_within_30 rfl ?_
          refine x_iload_n (pc := 32) K 2 dX8_within_32 rfl rfl ?_
          refine x_iload_n (pc := 33) K 3 dX8_within_33 rfl rfl ?_
          refine x_iload_n (pc := 34) K 4 dX8_within_34 rfl rfl ?_
          refine x_calliV (pc := 35) (st := []) (n := 4) K (by decide) sh_76 rfl (c_X8_isWithin l G _ _ k mp _ _ (hA k (by omega)) (by omega)) gX8_within_X8_isWithin (by decide +kernel) rfl (by decide) (by decide) rfl rfl (Nat.le_of_ble_eq_true rfl) dX8_within_35 (fun r_35 I_35 J_35 hp_35 => ?_)
          obtain ⟨rfl, rfl, rfl⟩ := hp_35
          refine x_if_eq (pc := 38) (tgt := 44) K dX8_within_38 (by decide) (fun c_38 => ?_) (fun c_38 => ?_)
          · replace c_38 := bz_0.mp c_38
            refine x_iinc (pc := 44) (q0 := 0) (v := nI (k + 1)) (lo' := [(4, _), (0, _), (1, _), (2, _), (3, _)]) K dX8_within_44 rfl (nI_incE rfl) (by decide) rfl ?_
            refine x_goto (pc := 47) (tgt := 20) K dX8_within_47 (by decide) ?_
            refine x_lo (lo' := [(4, _), (0, _), (1, _), (2, _), (3, _)]) [0, 1, 2, 3, 4] rfl ?_
            exact x_loe (by rfl) (ih (by omega) (by rw [hi, fstI_f (by omega) c_38]))
          · replace c_38 := bz_n0.mp c_38
            refine x_iload (pc := 41) K 0 dX8_within_41 rfl ?_
            exact ret (pc := 43) dX8_within_43 (⟨by rw [if_pos ⟨c_4, c_12⟩, tn_n (by omega), hi, fstI_t (by omega) c_38], rfl, rfl⟩) rfl
      refine x_iconst (pc := 17) (v := 0) K dX8_within_17 (by decide) ?_
      refine x_istore (pc := 18) (lo' := [(4, _), (0, _), (1, _), (2, _), (3, _)]) K dX8_within_18 (by decide) rfl ?_
      refine x_lo (lo' := [(4, _), (0, _), (1, _), (2, _), (3, _)]) [0, 1, 2, 3, 4] rfl ?_
      exact x_loe (by rfl) (loop 0 (Nat.zero_le _) rfl)
    · replace c_12 := bz_0.mp c_12
      refine x_iconst (pc := 15) (v := -1) K dX8_within_15 (by decide) ?_
      exact ret (pc := 16) dX8_within_16 (⟨if_neg (fun h => c_12 h.2), rfl, rfl⟩) rfl

def topM (I : hI) (t m wh : Nat) (x y : Int64) : Int64 := sdM I t 1 m x y * crM I t 0 (1 - m) wh + sdM I t 2 m x y * crM I t 1 (1 - m) wh + sdM I t 0 m x y * crM I t 2 (1 - m) wh
def sgM (s v : Int64) : Int64 := if 0 ≤ s then v else -v
theorem sg_nz {s : Int64} (h : ¬ s = 0) : ¬ sgM s s = 0 := by
  unfold sgM
  split
  · exact h
  · intro q; exact h (by simpa using congrArg (fun z => -z) q)
set_option maxHeartbeats 1000000 in
set_option maxRecDepth 100000 in
theorem c_X8_carried (l : Launch) (G : hQ) (I : hI) (J : hJ) (t m x y w : Int32) (nt : Nat) (ht : I 76 4 = nI nt) (h10 : nt ≤ 10) (hA : ∀ t, t < nt → TOkM I t) : h_Ml l yX8_carried wsX8_carried 4 102 G [rr G 76, .int t, .int m, .int x, .int y, .int w] I J (fun ρ I' J' => (if (0 ≤ t ∧ t < I 76 4) ∧ (0 ≤ m ∧ m ≤ 1) ∧ Pl x y ∧ (0 ≤ w ∧ w ≤ 3) ∧ ¬ fltM I (tn t) then toldM (sgM (rdM I (tn t) (tn m)) (topM I (tn t) (tn m) (tn w / 2) x.toInt64 y.toInt64)) (sgM (rdM I (tn t) (tn m)) (rdM I (tn t) (tn m))) (par2 (tn w)) else -4000000000000000000) = ρ ∧ I = I' ∧ J = J') := by
  refine h_Ml.of (cc := cX8_carried) (maxL := 12) [(0, rr G 76), (1, .int t), (2, .int m), (3, .int x), (4, .int y), (5, .int w)] (by decide +kernel) rfl (Nat.le_of_ble_eq_true rfl) rfl ?_
  intro Γ K ret
  refine x_aload_n (pc := 0) K 0 dX8_carried_0 rfl rfl ?_
  refine x_iload_n (pc := 1) K 1 dX8_carried_1 rfl rfl ?_
  refine x_calliV (pc := 2) (st := []) (n := 1) K (by decide) sh_76 rfl (c_X8_isTriangle l G _ _ _ nt ht h10) gX8_carried_X8_isTriangle (by decide +kernel) rfl (by decide) (by decide) rfl rfl (Nat.le_of_ble_eq_true rfl) dX8_carried_2 (fun r_2 I_2 J_2 hp_2 => ?_)
  obtain ⟨rfl, rfl, rfl⟩ := hp_2
  refine x_if_eq (pc := 5) (tgt := 42) K dX8_carried_5 (by decide) (fun c_5 => ?_) (fun c_5 => ?_)
  · replace c_5 := bz_0.mp c_5
    refine x_ldc2_w (pc := 42) (v := (-4000000000000000000)) K (by decide +kernel) dX8_carried_42 ?_
    exact ret (pc := 45) dX8_carried_45 (⟨if_neg (fun h => c_5 h.1), rfl, rfl⟩)
  · replace c_5 := bz_n0.mp c_5
    obtain ⟨t, ht, rfl⟩ := has_of c_5 ht (by omega)
    refine x_iload_n (pc := 8) K 2 dX8_carried_8 rfl rfl ?_
    refine x_calliS (pc := 9) (st := []) (n := 1) K (c_X8_isMap l G _ _ _) gX8_carried_X8_isMap (by decide +kernel) rfl (by decide) (by decide) rfl rfl (Nat.le_of_ble_eq_true rfl) dX8_carried_9 (fun r_9 I_9 J_9 hp_9 => ?_)
    obtain ⟨rfl, rfl, rfl⟩ := hp_9
    refine x_if_eq (pc := 12) (tgt := 42) K dX8_carried_12 (by decide) (fun c_12 => ?_) (fun c_12 => ?_)
    · replace c_12 := bz_0.mp c_12
      refine x_ldc2_w (pc := 42) (v := (-4000000000000000000)) K (by decide +kernel) dX8_carried_42 ?_
      exact ret (pc := 45) dX8_carried_45 (⟨if_neg (fun h => c_12 h.2.1), rfl, rfl⟩)
    · replace c_12 := bz_n0.mp c_12
      obtain ⟨mp, hmp, rfl⟩ := mp1_of c_12
      refine x_iload_n (pc := 15) K 3 dX8_carried_15 rfl rfl ?_
      refine x_iload (pc := 16) K 4 dX8_carried_16 rfl ?_
      refine x_calliS (pc := 18) (st := []) (n := 2) K (c_X8_isPlace l G _ _ _ _) gX8_carried_X8_isPlace (by decide +kernel) rfl (by decide) (by decide) rfl rfl (Nat.le_of_ble_eq_true rfl) dX8_carried_18 (fun r_18 I_18 J_18 hp_18 => ?_)
      obtain ⟨rfl, rfl, rfl⟩ := hp_18
      refine x_if_eq (pc := 21) (tgt := 42) K dX8_carried_21 (by decide) (fun c_21 => ?_) (fun c_21 => ?_)
      · replace c_21 := bz_0.mp c_21
        refine x_ldc2_w (pc := 42) (v := (-4000000000000000000)) K (by decide +kernel) dX8_carried_42 ?_
        exact ret (pc := 45) dX8_carried_45 (⟨if_neg (fun h => c_21 h.2.2.1), rfl, rfl⟩)
      · replace c_21 := bz_n0.mp c_21
        refine x_iload (pc := 24) K 5 dX8_carried_24 rfl ?_
        refine x_iconst (pc := 26) (v := 0) K dX8_carried_26 (by decide) ?_
        refine x_iconst (pc := 27) (v := 3) K dX8_carried_27 (by decide) ?_
        refine x_calliS (pc := 28) (st := []) (n := 3) K (c_X8_in l G _ _ _ _ _) gX8_carried_X8_in (by decide +kernel) rfl (by decide) (by decide) rfl rfl (Nat.le_of_ble_eq_true rfl) dX8_carried_28 (fun r_28 I_28 J_28 hp_28 => ?_)
        obtain ⟨rfl, rfl, rfl⟩ := hp_28
        refine x_if_eq (pc := 31) (tgt := 42) K dX8_carried_31 (by decide) (fun c_31 => ?_) (fun c_31 => ?_)
        · replace c_31 := bz_0.mp c_31
          refine x_ldc2_w (pc := 42) (v := (-4000000000000000000)) K (by decide +kernel) dX8_carried_42 ?_
          exact ret (pc := 45) dX8_carried_45 (⟨if_neg (fun h => c_31 h.2.2.2.1), rfl, rfl⟩)
        · replace c_31 := bz_n0.mp c_31
          obtain ⟨v, hv, rfl⟩ := nI_of2 (M := 3) (n := 3) rfl (Int32.not_lt.mpr c_31.1) c_31.2
          refine x_aload_n (pc := 34) K 0 dX8_carried_34 rfl rfl ?_
          refine x_iload_n (pc := 35) K 1 dX8_carried_35 rfl rfl ?_
          refine x_calliV (pc := 36) (st := []) (n := 1) K (by decide) sh_76 rfl (c_X8_isFlat l G _ _ t (hA t ht)) gX8_carried_X8_isFlat (by decide +kernel) rfl (by decide) (by decide) rfl rfl (Nat.le_of_ble_eq_true rfl) dX8_carried_36 (fun r_36 I_36 J_36 hp_36 => ?_)
          obtain ⟨rfl, rfl, rfl⟩ := hp_36
          refine x_if_eq (pc := 39) (tgt := 46) K dX8_carried_39 (by decide) (fun c_39 => ?_) (fun c_39 => ?_)
          · replace c_39 := bz_0.mp c_39
            have hrd : ¬ rdM I t mp = 0 := by
              rcases (show mp = 0 ∨ mp = 1 by omega) with rfl | rfl
              · exact fun q => c_39 (Or.inl q)
              · exact fun q => c_39 (Or.inr q)
            refine x_iconst (pc := 46) (v := 1) K dX8_carried_46 (by decide) ?_
            refine x_iload_n (pc := 47) K 2 dX8_carried_47 rfl rfl ?_
            refine x_isub (pc := 48) K dX8_carried_48 ?_
            refine x_topie (nI (1 - mp)) (nI_subE (by omega) rfl rfl) ?_
            refine x_istore (pc := 49) (lo' := [(6, _), (0, _), (1, _), (2, _), (3, _), (4, _), (5, _)]) K dX8_carried_49 (by decide) rfl ?_
            refine x_iload (pc := 51) K 6 dX8_carried_51 rfl ?_
            refine x_iconst (pc := 53) (v := 2) K dX8_carried_53 (by decide) ?_
            refine x_idiv (pc := 54) K dX8_carried_54 (by decide) ?_
            refine x_topie (nI (v / 2)) (nI_div (by omega) (by decide)) ?_
            refine x_istore (pc := 55) (lo' := [(7, _), (6, _), (0, _), (1, _), (2, _), (3, _), (4, _), (5, _)]) K dX8_carried_55 (by decide) rfl ?_
            refine x_aload_n (pc := 57) K 2 dX8_carried_57 rfl rfl ?_
            refine x_iload_n (pc := 58) K 3 dX8_carried_58 rfl rfl ?_
            refine x_iload_n (pc := 59) K 4 dX8_carried_59 rfl rfl ?_
            refine x_calllV (pc := 60) (st := []) (n := 2) K (by decide) sh_76 rfl (c_X8_round l G _ _ t mp (hA t ht) (by omega)) gX8_carried_X8_round (by decide +kernel) rfl (by decide) (by decide) rfl rfl (Nat.le_of_ble_eq_true rfl) dX8_carried_60 (fun r_60 I_60 J_60 hp_60 => ?_)
            obtain ⟨rfl, rfl, rfl⟩ := hp_60
            refine x_lstore (pc := 63) (lo' := [(8, _), (7, _), (6, _), (0, _), (1, _), (2, _), (3, _), (4, _), (5, _)]) K dX8_carried_63 (by decide) rfl ?_
            refine x_aload_n (pc := 65) K 3 dX8_carried_65 rfl rfl ?_
            refine x_iload_n (pc := 66) K 4 dX8_carried_66 rfl rfl ?_
            refine x_iconst (pc := 67) (v := 1) K dX8_carried_67 (by decide) ?_
            refine x_iload_n (pc := 68) K 5 dX8_carried_68 rfl rfl ?_
            refine x_iload_n (pc := 69) K 6 dX8_carried_69 rfl rfl ?_
            refine x_i2l (pc := 70) K dX8_carried_70 ?_
            refine x_iload (pc := 71) K 7 dX8_carried_71 rfl ?_
            refine x_i2l (pc := 73) K dX8_carried_73 ?_
            refine x_calllV (pc := 74) (st := []) (n := 5) K (by decide) sh_76 rfl (c_X8_side l G _ _ t 1 mp _ _ (hA t ht) (by omega) (by omega)) gX8_carried_X8_side (by decide +kernel) rfl (by decide) (by decide) rfl rfl (Nat.le_of_ble_eq_true rfl) dX8_carried_74 (fun r_74 I_74 J_74 hp_74 => ?_)
            obtain ⟨rfl, rfl, rfl⟩ := hp_74
            refine x_aload_n (pc := 77) K 3 dX8_carried_77 rfl rfl ?_
            refine x_iload_n (pc := 78) K 4 dX8_carried_78 rfl rfl ?_
            refine x_iconst (pc := 79) (v := 0) K dX8_carried_79 (by decide) ?_
            refine x_iload (pc := 80) K 2 dX8_carried_80 rfl ?_
            refine x_iload (pc := 82) K 1 dX8_carried_82 rfl ?_
            refine x_calllV (pc := 84) (st := [_]) (n := 4) K (by decide) sh_76 rfl (c_X8_corner l G _ _ t 0 (1 - mp) (v / 2) (hA t ht) (by omega) (by omega) (by omega)) gX8_carried_X8_corner (by decide +kernel) rfl (by decide) (by decide) rfl rfl (Nat.le_of_ble_eq_true rfl) dX8_carried_84 (fun r_84 I_84 J_84 hp_84 => ?_)
            obtain ⟨rfl, rfl, rfl⟩ := hp_84
            refine x_lmul (pc := 87) K dX8_carried_87 ?_
            refine x_aload_n (pc := 88) K 3 dX8_carried_88 rfl rfl ?_
            refine x_iload_n (pc := 89) K 4 dX8_carried_89 rfl rfl ?_
            refine x_iconst (pc := 90) (v := 2) K dX8_carried_90 (by decide) ?_
            refine x_iload_n (pc := 91) K 5 dX8_carried_91 rfl rfl ?_
            refine x_iload_n (pc := 92) K 6 dX8_carried_92 rfl rfl ?_
            refine x_i2l (pc := 93) K dX8_carried_93 ?_
            refine x_iload (pc := 94) K 7 dX8_carried_94 rfl ?_
            refine x_i2l (pc := 96) K dX8_carried_96 ?_
            refine x_calllV (pc := 97) (st := [_]) (n := 5) K (by decide) sh_76 rfl (c_X8_side l G _ _ t 2 mp _ _ (hA t ht) (by omega) (by omega)) gX8_carried_X8_side (by decide +kernel) rfl (by decide) (by decide) rfl rfl (Nat.le_of_ble_eq_true rfl) dX8_carried_97 (fun r_97 I_97 J_97 hp_97 => ?_)
            obtain ⟨rfl, rfl, rfl⟩ := hp_97
            refine x_aload_n (pc := 100) K 3 dX8_carried_100 rfl rfl ?_
            refine x_iload_n (pc := 101) K 4 dX8_carried_101 rfl rfl ?_
            refine x_iconst (pc := 102) (v := 1) K dX8_carried_102 (by decide) ?_
            refine x_iload (pc := 103) K 2 dX8_carried_103 rfl ?_
            refine x_iload (pc := 105) K 1 dX8_carried_105 rfl ?_
            refine x_calllV (pc := 107) (st := [_, _]) (n := 4) K (by decide) sh_76 rfl (c_X8_corner l G _ _ t 1 (1 - mp) (v / 2) (hA t ht) (by omega) (by omega) (by omega)) gX8_carried_X8_corner (by decide +kernel) rfl (by decide) (by decide) rfl rfl (Nat.le_of_ble_eq_true rfl) dX8_carried_107 (fun r_107 I_107 J_107 hp_107 => ?_)
            obtain ⟨rfl, rfl, rfl⟩ := hp_107
            refine x_lmul (pc := 110) K dX8_carried_110 ?_
            refine x_ladd (pc := 111) K dX8_carried_111 ?_
            refine x_aload_n (pc := 112) K 3 dX8_carried_112 rfl rfl ?_
            refine x_iload_n (pc := 113) K 4 dX8_carried_113 rfl rfl ?_
            refine x_iconst (pc := 114) (v := 0) K dX8_carried_114 (by decide) ?_
            refine x_iload_n (pc := 115) K 5 dX8_carried_115 rfl rfl ?_
            refine x_iload_n (pc := 116) K 6 dX8_carried_116 rfl rfl ?_
            refine x_i2l (pc := 117) K dX8_carried_117 ?_
            refine x_iload (pc := 118) K 7 dX8_carried_118 rfl ?_
            refine x_i2l (pc := 120) K dX8_carried_120 ?_
            refine x_calllV (pc := 121) (st := [_]) (n := 5) K (by decide) sh_76 rfl (c_X8_side l G _ _ t 0 mp _ _ (hA t ht) (by omega) (by omega)) gX8_carried_X8_side (by decide +kernel) rfl (by decide) (by decide) rfl rfl (Nat.le_of_ble_eq_true rfl) dX8_carried_121 (fun r_121 I_121 J_121 hp_121 => ?_)
            obtain ⟨rfl, rfl, rfl⟩ := hp_121
            refine x_aload_n (pc := 124) K 3 dX8_carried_124 rfl rfl ?_
            refine x_iload_n (pc := 125) K 4 dX8_carried_125 rfl rfl ?_
            refine x_iconst (pc := 126) (v := 2) K dX8_carried_126 (by decide) ?_
            refine x_iload (pc := 127) K 2 dX8_carried_127 rfl ?_
            refine x_iload (pc := 129) K 1 dX8_carried_129 rfl ?_
            refine x_calllV (pc := 131) (st := [_, _]) (n := 4) K (by decide) sh_76 rfl (c_X8_corner l G _ _ t 2 (1 - mp) (v / 2) (hA t ht) (by omega) (by omega) (by omega)) gX8_carried_X8_corner (by decide +kernel) rfl (by decide) (by decide) rfl rfl (Nat.le_of_ble_eq_true rfl) dX8_carried_131 (fun r_131 I_131 J_131 hp_131 => ?_)
            obtain ⟨rfl, rfl, rfl⟩ := hp_131
            refine x_lmul (pc := 134) K dX8_carried_134 ?_
            refine x_ladd (pc := 135) K dX8_carried_135 ?_
            refine x_tople (topM I t mp (v / 2) x.toInt64 y.toInt64) rfl ?_
            refine x_lstore (pc := 136) (lo' := [(10, _), (8, _), (7, _), (6, _), (0, _), (1, _), (2, _), (3, _), (4, _), (5, _)]) K dX8_carried_136 (by decide) rfl ?_
            refine x_lload (pc := 138) K 1 dX8_carried_138 rfl ?_
            refine x_lconst (pc := 140) (v := 0) K dX8_carried_140 (by decide) ?_
            refine x_lcmp (pc := 141) K dX8_carried_141 ?_
            refine x_if_ge (pc := 142) (tgt := 151) K dX8_carried_142 (by decide) (fun c_142 => ?_) (fun c_142 => ?_)
            · replace c_142 := (lg_cmp_ge _ _).mp c_142
              refine x_lload (pc := 151) K 0 dX8_carried_151 rfl ?_
              refine x_tople (sgM (rdM I t mp) (topM I t mp (v / 2) x.toInt64 y.toInt64)) (by rw [sgM, if_pos c_142]) ?_
              refine x_lload (pc := 153) K 1 dX8_carried_153 rfl ?_
              refine x_lconst (pc := 155) (v := 0) K dX8_carried_155 (by decide) ?_
              refine x_lcmp (pc := 156) K dX8_carried_156 ?_
              refine x_if_ge (pc := 157) (tgt := 166) K dX8_carried_157 (by decide) (fun c_157 => ?_) (fun c_157 => ?_)
              · replace c_157 := (lg_cmp_ge _ _).mp c_157
                refine x_lload (pc := 166) K 1 dX8_carried_166 rfl ?_
                refine x_tople (sgM (rdM I t mp) (rdM I t mp)) (by rw [sgM, if_pos c_157]) ?_
                refine x_iload (pc := 168) K 9 dX8_carried_168 rfl ?_
                refine x_iconst (pc := 170) (v := 2) K dX8_carried_170 (by decide) ?_
                refine x_irem (pc := 171) K dX8_carried_171 (by decide) ?_
                refine x_topie (nI (v % 2)) (nI_remE rfl rfl (by omega) (by decide)) ?_
                refine x_iconst (pc := 172) (v := 1) K dX8_carried_172 (by decide) ?_
                refine x_icmp_ne (pc := 173) (tgt := 180) K dX8_carried_173 (by decide) (fun c_173 => ?_) (fun c_173 => ?_)
                · replace c_173 := cI_ne (a := (v % 2)) (b := 1) rfl rfl (by omega) (by omega) c_173
                  refine x_iconst (pc := 180) (v := 0) K dX8_carried_180 (by decide) ?_
                  refine x_topie (par2 v) (if_neg c_173).symm ?_
                  refine x_calllS (pc := 181) (st := []) (n := 3) K (c_X8_told l G _ _ _ _ _ (sg_nz hrd)) gX8_carried_X8_told (by decide +kernel) rfl (by decide) (by decide) rfl rfl (Nat.le_of_ble_eq_true rfl) dX8_carried_181 (fun r_181 I_181 J_181 hp_181 => ?_)
                  obtain ⟨rfl, rfl, rfl⟩ := hp_181
                  exact ret (pc := 184) dX8_carried_184 (⟨by rw [if_pos ⟨c_5, c_12, c_21, c_31, by rw [tn_n (by omega)]; exact c_39⟩, tn_n (by omega), tn_n (by omega), tn_n (by omega)], rfl, rfl⟩)
                · replace c_173 := cI_eq (a := (v % 2)) (b := 1) rfl rfl (by omega) (by omega) c_173
                  refine x_iconst (pc := 176) (v := 1) K dX8_carried_176 (by decide) ?_
                  refine x_goto (pc := 177) (tgt := 181) K dX8_carried_177 (by decide) ?_
                  refine x_topie (par2 v) (if_pos c_173).symm ?_
                  refine x_calllS (pc := 181) (st := []) (n := 3) K (c_X8_told l G _ _ _ _ _ (sg_nz hrd)) gX8_carried_X8_told (by decide +kernel) rfl (by decide) (by decide) rfl rfl (Nat.le_of_ble_eq_true rfl) dX8_carried_181 (fun r_181 I_181 J_181 hp_181 => ?_)
                  obtain ⟨rfl, rfl, rfl⟩ := hp_181
                  exact ret (pc := 184) dX8_carried_184 (⟨by rw [if_pos ⟨c_5, c_12, c_21, c_31, by rw [tn_n (by omega)]; exact c_39⟩, tn_n (by omega), tn_n (by omega), tn_n (by omega)], rfl, rfl⟩)
              · replace c_157 := mt (lg_cmp_ge _ _).mpr c_157
                refine x_lload (pc := 160) K 1 dX8_carried_160 rfl ?_
                refine x_lneg (pc := 162) K dX8_carried_162 ?_
                refine x_goto (pc := 163) (tgt := 168) K dX8_carried_163 (by decide) ?_
                refine x_tople (sgM (rdM I t mp) (rdM I t mp)) (by rw [sgM, if_neg c_157]) ?_
                refine x_iload (pc := 168) K 9 dX8_carried_168 rfl ?_
                refine x_iconst (pc := 170) (v := 2) K dX8_carried_170 (by decide) ?_
                refine x_irem (pc := 171) K dX8_carried_171 (by decide) ?_
                refine x_topie (nI (v % 2)) (nI_remE rfl rfl (by omega) (by decide)) ?_
                refine x_iconst (pc := 172) (v := 1) K dX8_carried_172 (by decide) ?_
                refine x_icmp_ne (pc := 173) (tgt := 180) K dX8_carried_173 (by decide) (fun c_173 => ?_) (fun c_173 => ?_)
                · replace c_173 := cI_ne (a := (v % 2)) (b := 1) rfl rfl (by omega) (by omega) c_173
                  refine x_iconst (pc := 180) (v := 0) K dX8_carried_180 (by decide) ?_
                  refine x_topie (par2 v) (if_neg c_173).symm ?_
                  refine x_calllS (pc := 181) (st := []) (n := 3) K (c_X8_told l G _ _ _ _ _ (sg_nz hrd)) gX8_carried_X8_told (by decide +kernel) rfl (by decide) (by decide) rfl rfl (Nat.le_of_ble_eq_true rfl) dX8_carried_181 (fun r_181 I_181 J_181 hp_181 => ?_)
                  obtain ⟨rfl, rfl, rfl⟩ := hp_181
                  exact ret (pc := 184) dX8_carried_184 (⟨by rw [if_pos ⟨c_5, c_12, c_21, c_31, by rw [tn_n (by omega)]; exact c_39⟩, tn_n (by omega), tn_n (by omega), tn_n (by omega)], rfl, rfl⟩)
                · replace c_173 := cI_eq (a := (v % 2)) (b := 1) rfl rfl (by omega) (by omega) c_173
                  refine x_iconst (pc := 176) (v := 1) K dX8_carried_176 (by decide) ?_
                  refine x_goto (pc := 177) (tgt := 181) K dX8_carried_177 (by decide) ?_
                  refine x_topie (par2 v) (if_pos c_173).symm ?_
                  refine x_calllS (pc := 181) (st := []) (n := 3) K (c_X8_told l G _ _ _ _ _ (sg_nz hrd)) gX8_carried_X8_told (by decide +kernel) rfl (by decide) (by decide) rfl rfl (Nat.le_of_ble_eq_true rfl) dX8_carried_181 (fun r_181 I_181 J_181 hp_181 => ?_)
                  obtain ⟨rfl, rfl, rfl⟩ := hp_181
                  exact ret (pc := 184) dX8_carried_184 (⟨by rw [if_pos ⟨c_5, c_12, c_21, c_31, by rw [tn_n (by omega)]; exact c_39⟩, tn_n (by omega), tn_n (by omega), tn_n (by omega)], rfl, rfl⟩)
            · replace c_142 := mt (lg_cmp_ge _ _).mpr c_142
              refine x_lload (pc := 145) K 0 dX8_carried_145 rfl ?_
              refine x_lneg (pc := 147) K dX8_carried_147 ?_
              refine x_goto (pc := 148) (tgt := 153) K dX8_carried_148 (by decide) ?_
              refine x_tople (sgM (rdM I t mp) (topM I t mp (v / 2) x.toInt64 y.toInt64)) (by rw [sgM, if_neg c_142]) ?_
              refine x_lload (pc := 153) K 1 dX8_carried_153 rfl ?_
              refine x_lconst (pc := 155) (v := 0) K dX8_carried_155 (by decide) ?_
              refine x_lcmp (pc := 156) K dX8_carried_156 ?_
              refine x_if_ge (pc := 157) (tgt := 166) K dX8_carried_157 (by decide) (fun c_157 => ?_) (fun c_157 => ?_)
              · replace c_157 := (lg_cmp_ge _ _).mp c_157
                refine x_lload (pc := 166) K 1 dX8_carried_166 rfl ?_
                refine x_tople (sgM (rdM I t mp) (rdM I t mp)) (by rw [sgM, if_pos c_157]) ?_
                refine x_iload (pc := 168) K 9 dX8_carried_168 rfl ?_
                refine x_iconst (pc := 170) (v := 2) K dX8_carried_170 (by decide) ?_
                refine x_irem (pc := 171) K dX8_carried_171 (by decide) ?_
                refine x_topie (nI (v % 2)) (nI_remE rfl rfl (by omega) (by decide)) ?_
                refine x_iconst (pc := 172) (v := 1) K dX8_carried_172 (by decide) ?_
                refine x_icmp_ne (pc := 173) (tgt := 180) K dX8_carried_173 (by decide) (fun c_173 => ?_) (fun c_173 => ?_)
                · replace c_173 := cI_ne (a := (v % 2)) (b := 1) rfl rfl (by omega) (by omega) c_173
                  refine x_iconst (pc := 180) (v := 0) K dX8_carried_180 (by decide) ?_
                  refine x_topie (par2 v) (if_neg c_173).symm ?_
                  refine x_calllS (pc := 181) (st := []) (n := 3) K (c_X8_told l G _ _ _ _ _ (sg_nz hrd)) gX8_carried_X8_told (by decide +kernel) rfl (by decide) (by decide) rfl rfl (Nat.le_of_ble_eq_true rfl) dX8_carried_181 (fun r_181 I_181 J_181 hp_181 => ?_)
                  obtain ⟨rfl, rfl, rfl⟩ := hp_181
                  exact ret (pc := 184) dX8_carried_184 (⟨by rw [if_pos ⟨c_5, c_12, c_21, c_31, by rw [tn_n (by omega)]; exact c_39⟩, tn_n (by omega), tn_n (by omega), tn_n (by omega)], rfl, rfl⟩)
                · replace c_173 := cI_eq (a := (v % 2)) (b := 1) rfl rfl (by omega) (by omega) c_173
                  refine x_iconst (pc := 176) (v := 1) K dX8_carried_176 (by decide) ?_
                  refine x_goto (pc := 177) (tgt := 181) K dX8_carried_177 (by decide) ?_
                  refine x_topie (par2 v) (if_pos c_173).symm ?_
                  refine x_calllS (pc := 181) (st := []) (n := 3) K (c_X8_told l G _ _ _ _ _ (sg_nz hrd)) gX8_carried_X8_told (by decide +kernel) rfl (by decide) (by decide) rfl rfl (Nat.le_of_ble_eq_true rfl) dX8_carried_181 (fun r_181 I_181 J_181 hp_181 => ?_)
                  obtain ⟨rfl, rfl, rfl⟩ := hp_181
                  exact ret (pc := 184) dX8_carried_184 (⟨by rw [if_pos ⟨c_5, c_12, c_21, c_31, by rw [tn_n (by omega)]; exact c_39⟩, tn_n (by omega), tn_n (by omega), tn_n (by omega)], rfl, rfl⟩)
              · replace c_157 := mt (lg_cmp_ge _ _).mpr c_157
                refine x_lload (pc := 160) K 1 dX8_carried_160 rfl ?_
                refine x_lneg (pc := 162) K dX8_carried_162 ?_
                refine x_goto (pc := 163) (tgt := 168) K dX8_carried_163 (by decide) ?_
                refine x_tople (sgM (rdM I t mp) (rdM I t mp)) (by rw [sgM, if_neg c_157]) ?_
                refine x_iload (pc := 168) K 9 dX8_carried_168 rfl ?_
                refine x_iconst (pc := 170) (v := 2) K dX8_carried_170 (by decide) ?_
                refine x_irem (pc := 171) K dX8_carried_171 (by decide) ?_
                refine x_topie (nI (v % 2)) (nI_remE rfl rfl (by omega) (by decide)) ?_
                refine x_iconst (pc := 172) (v := 1) K dX8_carried_172 (by decide) ?_
                refine x_icmp_ne (pc := 173) (tgt := 180) K dX8_carried_173 (by decide) (fun c_173 => ?_) (fun c_173 => ?_)
                · replace c_173 := cI_ne (a := (v % 2)) (b := 1) rfl rfl (by omega) (by omega) c_173
                  refine x_iconst (pc := 180) (v := 0) K dX8_carried_180 (by decide) ?_
                  refine x_topie (par2 v) (if_neg c_173).symm ?_
                  refine x_calllS (pc := 181) (st := []) (n := 3) K (c_X8_told l G _ _ _ _ _ (sg_nz hrd)) gX8_carried_X8_told (by decide +kernel) rfl (by decide) (by decide) rfl rfl (Nat.le_of_ble_eq_true rfl) dX8_carried_181 (fun r_181 I_181 J_181 hp_181 => ?_)
                  obtain ⟨rfl, rfl, rfl⟩ := hp_181
                  exact ret (pc := 184) dX8_carried_184 (⟨by rw [if_pos ⟨c_5, c_12, c_21, c_31, by rw [tn_n (by omega)]; exact c_39⟩, tn_n (by omega), tn_n (by omega), tn_n (by omega)], rfl, rfl⟩)
                · replace c_173 := cI_eq (a := (v % 2)) (b := 1) rfl rfl (by omega) (by omega) c_173
                  refine x_iconst (pc := 176) (v := 1) K dX8_carried_176 (by decide) ?_
                  refine x_goto (pc := 177) (tgt := 181) K dX8_carried_177 (by decide) ?_
                  refine x_topie (par2 v) (if_pos c_173).symm ?_
                  refine x_calllS (pc := 181) (st := []) (n := 3) K (c_X8_told l G _ _ _ _ _ (sg_nz hrd)) gX8_carried_X8_told (by decide +kernel) rfl (by decide) (by decide) rfl rfl (Nat.le_of_ble_eq_true rfl) dX8_carried_181 (fun r_181 I_181 J_181 hp_181 => ?_)
                  obtain ⟨rfl, rfl, rfl⟩ := hp_181
                  exact ret (pc := 184) dX8_carried_184 (⟨by rw [if_pos ⟨c_5, c_12, c_21, c_31, by rw [tn_n (by omega)]; exact c_39⟩, tn_n (by omega), tn_n (by omega), tn_n (by omega)], rfl, rfl⟩)
          · replace c_39 := bz_n0.mp c_39
            refine x_ldc2_w (pc := 42) (v := (-4000000000000000000)) K (by decide +kernel) dX8_carried_42 ?_
            exact ret (pc := 45) dX8_carried_45 (⟨if_neg (fun h => h.2.2.2.2 (by rw [tn_n (by omega)]; exact c_39)), rfl, rfl⟩)

set_option maxHeartbeats 1000000 in
set_option maxRecDepth 100000 in
theorem c_X8_triangle (l : Launch) (G : hQ) (I : hI) (J : hJ) (p q r : Int32) (n : Nat) (hn : I 76 0 = nI n) (h12 : n ≤ 12) (nt : Nat) (ht : I 76 4 = nI nt) (h10 : nt ≤ 10) : h_Mi l yX8_triangle wsX8_triangle 2 43 G [rr G 76, .int p, .int q, .int r] I J (fun ρ I' J' => (if (0 ≤ p ∧ p < I 76 0) ∧ (0 ≤ q ∧ q < I 76 0) ∧ (0 ≤ r ∧ r < I 76 0) ∧ ¬ p = q ∧ ¬ p = r ∧ ¬ q = r then (if pcr I 0 (tn p) (tn q) (tn r) = 0 ∨ pcr I 1 (tn p) (tn q) (tn r) = 0 then -4 else if nt < 10 then nI nt else -2) else -1) = ρ ∧ (if (0 ≤ p ∧ p < I 76 0) ∧ (0 ≤ q ∧ q < I 76 0) ∧ (0 ≤ r ∧ r < I 76 0) ∧ ¬ p = q ∧ ¬ p = r ∧ ¬ q = r then (if pcr I 0 (tn p) (tn q) (tn r) = 0 ∨ pcr I 1 (tn p) (tn q) (tn r) = 0 then I else if nt < 10 then addTM I nt p q r else I) else I) = I' ∧ J = J') := by
  refine h_Mi.of (ty := .int) (cc := cX8_triangle) (maxL := 6) [(0, rr G 76), (1, .int p), (2, .int q), (3, .int r)] (by decide +kernel) rfl (Nat.le_of_ble_eq_true rfl) rfl ?_
  intro Γ K ret
  have i_X8 : ∀ w ∈ u_ws RX8 TX8 36, w ∈ wsX8_triangle := by decide +kernel
  refine x_aload_n (pc := 0) K 0 dX8_triangle_0 rfl rfl ?_
  refine x_iload_n (pc := 1) K 1 dX8_triangle_1 rfl rfl ?_
  refine x_calliV (pc := 2) (st := []) (n := 1) K (by decide) sh_76 rfl (c_X8_isPoint l G _ _ _ n hn h12) gX8_triangle_X8_isPoint (by decide +kernel) rfl (by decide) (by decide) rfl rfl (Nat.le_of_ble_eq_true rfl) dX8_triangle_2 (fun r_2 I_2 J_2 hp_2 => ?_)
  obtain ⟨rfl, rfl, rfl⟩ := hp_2
  refine x_if_eq (pc := 5) (tgt := 39) K dX8_triangle_5 (by decide) (fun c_5 => ?_) (fun c_5 => ?_)
  · replace c_5 := bz_0.mp c_5
    refine x_iconst (pc := 39) (v := -1) K dX8_triangle_39 (by decide) ?_
    exact ret (pc := 40) dX8_triangle_40 (⟨if_neg (fun h => c_5 h.1), if_neg (fun h => c_5 h.1), rfl⟩) rfl
  · replace c_5 := bz_n0.mp c_5
    refine x_aload_n (pc := 8) K 0 dX8_triangle_8 rfl rfl ?_
    refine x_iload_n (pc := 9) K 2 dX8_triangle_9 rfl rfl ?_
    refine x_calliV (pc := 10) (st := []) (n := 1) K (by decide) sh_76 rfl (c_X8_isPoint l G _ _ _ n hn h12) gX8_triangle_X8_isPoint (by decide +kernel) rfl (by decide) (by decide) rfl rfl (Nat.le_of_ble_eq_true rfl) dX8_triangle_10 (fun r_10 I_10 J_10 hp_10 => ?_)
    obtain ⟨rfl, rfl, rfl⟩ := hp_10
    refine x_if_eq (pc := 13) (tgt := 39) K dX8_triangle_13 (by decide) (fun c_13 => ?_) (fun c_13 => ?_)
    · replace c_13 := bz_0.mp c_13
      refine x_iconst (pc := 39) (v := -1) K dX8_triangle_39 (by decide) ?_
      exact ret (pc := 40) dX8_triangle_40 (⟨if_neg (fun h => c_13 h.2.1), if_neg (fun h => c_13 h.2.1), rfl⟩) rfl
    · replace c_13 := bz_n0.mp c_13
      refine x_aload_n (pc := 16) K 0 dX8_triangle_16 rfl rfl ?_
      refine x_iload_n (pc := 17) K 3 dX8_triangle_17 rfl rfl ?_
      refine x_calliV (pc := 18) (st := []) (n := 1) K (by decide) sh_76 rfl (c_X8_isPoint l G _ _ _ n hn h12) gX8_triangle_X8_isPoint (by decide +kernel) rfl (by decide) (by decide) rfl rfl (Nat.le_of_ble_eq_true rfl) dX8_triangle_18 (fun r_18 I_18 J_18 hp_18 => ?_)
      obtain ⟨rfl, rfl, rfl⟩ := hp_18
      refine x_if_eq (pc := 21) (tgt := 39) K dX8_triangle_21 (by decide) (fun c_21 => ?_) (fun c_21 => ?_)
      · replace c_21 := bz_0.mp c_21
        refine x_iconst (pc := 39) (v := -1) K dX8_triangle_39 (by decide) ?_
        exact ret (pc := 40) dX8_triangle_40 (⟨if_neg (fun h => c_21 h.2.2.1), if_neg (fun h => c_21 h.2.2.1), rfl⟩) rfl
      · replace c_21 := bz_n0.mp c_21
        refine x_iload_n (pc := 24) K 1 dX8_triangle_24 rfl rfl ?_
        refine x_iload_n (pc := 25) K 2 dX8_triangle_25 rfl rfl ?_
        refine x_icmp_eq (pc := 26) (tgt := 39) K dX8_triangle_26 (by decide) (fun c_26 => ?_) (fun c_26 => ?_)
        · refine x_iconst (pc := 39) (v := -1) K dX8_triangle_39 (by decide) ?_
          exact ret (pc := 40) dX8_triangle_40 (⟨if_neg (fun h => h.2.2.2.1 c_26), if_neg (fun h => h.2.2.2.1 c_26), rfl⟩) rfl
        · refine x_iload_n (pc := 29) K 1 dX8_triangle_29 rfl rfl ?_
          refine x_iload_n (pc := 30) K 3 dX8_triangle_30 rfl rfl ?_
          refine x_icmp_eq (pc := 31) (tgt := 39) K dX8_triangle_31 (by decide) (fun c_31 => ?_) (fun c_31 => ?_)
          · refine x_iconst (pc := 39) (v := -1) K dX8_triangle_39 (by decide) ?_
            exact ret (pc := 40) dX8_triangle_40 (⟨if_neg (fun h => h.2.2.2.2.1 c_31), if_neg (fun h => h.2.2.2.2.1 c_31), rfl⟩) rfl
          · refine x_iload_n (pc := 34) K 2 dX8_triangle_34 rfl rfl ?_
            refine x_iload_n (pc := 35) K 3 dX8_triangle_35 rfl rfl ?_
            refine x_icmp_ne (pc := 36) (tgt := 41) K dX8_triangle_36 (by decide) (fun c_36 => ?_) (fun c_36 => ?_)
            · obtain ⟨a, hpa, rfl⟩ := has_of c_5 hn (by omega)
              obtain ⟨b, hpb, rfl⟩ := has_of c_13 hn (by omega)
              obtain ⟨c, hpc, rfl⟩ := has_of c_21 hn (by omega)
              refine x_iconst (pc := 41) (v := 0) K dX8_triangle_41 (by decide) ?_
              refine x_istore (pc := 42) (lo' := [(4, _), (0, _), (1, _), (2, _), (3, _)]) K dX8_triangle_42 (by decide) rfl ?_
              refine x_iload (pc := 44) K 0 dX8_triangle_44 rfl ?_
              refine x_iconst (pc := 46) (v := 2) K dX8_triangle_46 (by decide) ?_
              refine x_icmp_ge (pc := 47) (tgt := 151) K dX8_triangle_47 (by decide) (fun c_47 => ?_) (fun c_47 => ?_)
              · replace c_47 := cI_le (a := 2) (b := 0) rfl rfl (by omega) (by omega) c_47
                omega
              · replace c_47 := cI_nle (a := 2) (b := 0) rfl rfl (by omega) (by omega) c_47
                refine x_iconst (pc := 50) (v := 2) K dX8_triangle_50 (by decide) ?_
                refine x_iload (pc := 51) K 0 dX8_triangle_51 rfl ?_
                refine x_imul (pc := 53) K dX8_triangle_53 ?_
                refine x_istore (pc := 54) (lo' := [(5, _), (4, _), (0, _), (1, _), (2, _), (3, _)]) K dX8_triangle_54 (by decide) rfl ?_
                refine x_aload_n (pc := 56) K 2 dX8_triangle_56 rfl rfl ?_
                refine x_getr (r0 := 77) (pc := 57) (index := 7) (C := RX8) (T := TX8) (N := 36) (j0 := 1) (ref := "OldMapModel") K (by decide) sh_76 rfl i_X8 (by decide) (by decide +kernel) rfl rfl rf_76_1 dX8_triangle_57 ?_
                refine x_iconst (pc := 60) (v := 4) K dX8_triangle_60 (by decide) ?_
                refine x_iload_n (pc := 61) K 3 dX8_triangle_61 rfl rfl ?_
                refine x_imul (pc := 62) K dX8_triangle_62 ?_
                refine x_iload (pc := 63) K 0 dX8_triangle_63 rfl ?_
                refine x_iadd (pc := 65) K dX8_triangle_65 ?_
                refine y_iald (j := ((4 * a) + (2 * 0))) (pc := 66) K (by decide) sh_77 (nI_addE (nI_mulE rfl rfl) (nI_mulE rfl rfl)) (by omega) (by decide) dX8_triangle_66 ?_
                refine x_i2l (pc := 67) K dX8_triangle_67 ?_
                refine x_aload_n (pc := 68) K 2 dX8_triangle_68 rfl rfl ?_
                refine x_getr (r0 := 77) (pc := 69) (index := 7) (C := RX8) (T := TX8) (N := 36) (j0 := 1) (ref := "OldMapModel") K (by decide) sh_76 rfl i_X8 (by decide) (by decide +kernel) rfl rfl rf_76_1 dX8_triangle_69 ?_
                refine x_iconst (pc := 72) (v := 4) K dX8_triangle_72 (by decide) ?_
                refine x_iload_n (pc := 73) K 3 dX8_triangle_73 rfl rfl ?_
                refine x_imul (pc := 74) K dX8_triangle_74 ?_
                refine x_iload (pc := 75) K 0 dX8_triangle_75 rfl ?_
                refine x_iadd (pc := 77) K dX8_triangle_77 ?_
                refine x_iconst (pc := 78) (v := 1) K dX8_triangle_78 (by decide) ?_
                refine x_iadd (pc := 79) K dX8_triangle_79 ?_
                refine y_iald (j := (((4 * a) + (2 * 0)) + 1)) (pc := 80) K (by decide) sh_77 (nI_addE (nI_addE (nI_mulE rfl rfl) (nI_mulE rfl rfl)) rfl) (by omega) (by decide) dX8_triangle_80 ?_
                refine x_i2l (pc := 81) K dX8_triangle_81 ?_
                refine x_aload_n (pc := 82) K 2 dX8_triangle_82 rfl rfl ?_
                refine x_getr (r0 := 77) (pc := 83) (index := 7) (C := RX8) (T := TX8) (N := 36) (j0 := 1) (ref := "OldMapModel") K (by decide) sh_76 rfl i_X8 (by decide) (by decide +kernel) rfl rfl rf_76_1 dX8_triangle_83 ?_
                refine x_iconst (pc := 86) (v := 4) K dX8_triangle_86 (by decide) ?_
                refine x_iload_n (pc := 87) K 4 dX8_triangle_87 rfl rfl ?_
                refine x_imul (pc := 88) K dX8_triangle_88 ?_
                refine x_iload (pc := 89) K 0 dX8_triangle_89 rfl ?_
                refine x_iadd (pc := 91) K dX8_triangle_91 ?_
                refine y_iald (j := ((4 * b) + (2 * 0))) (pc := 92) K (by decide) sh_77 (nI_addE (nI_mulE rfl rfl) (nI_mulE rfl rfl)) (by omega) (by decide) dX8_triangle_92 ?_
                refine x_i2l (pc := 93) K dX8_triangle_93 ?_
                refine x_aload_n (pc := 94) K 2 dX8_triangle_94 rfl rfl ?_
                refine x_getr (r0 := 77) (pc := 95) (index := 7) (C := RX8) (T := TX8) (N := 36) (j0 := 1) (ref := "OldMapModel") K (by decide) sh_76 rfl i_X8 (by decide) (by decide +kernel) rfl rfl rf_76_1 dX8_triangle_95 ?_
                refine x_iconst (pc := 98) (v := 4) K dX8_triangle_98 (by decide) ?_
                refine x_iload_n (pc := 99) K 4 dX8_triangle_99 rfl rfl ?_
                refine x_imul (pc := 100) K dX8_triangle_100 ?_
                refine x_iload (pc := 101) K 0 dX8_triangle_101 rfl ?_
                refine x_iadd (pc := 103) K dX8_triangle_103 ?_
                refine x_iconst (pc := 104) (v := 1) K dX8_triangle_104 (by decide) ?_
                refine x_iadd (pc := 105) K dX8_triangle_105 ?_
                refine y_iald (j := (((4 * b) + (2 * 0)) + 1)) (pc := 106) K (by decide) sh_77 (nI_addE (nI_addE (nI_mulE rfl rfl) (nI_mulE rfl rfl)) rfl) (by omega) (by decide) dX8_triangle_106 ?_
                refine x_i2l (pc := 107) K dX8_triangle_107 ?_
                refine x_aload_n (pc := 108) K 2 dX8_triangle_108 rfl rfl ?_
                refine x_getr (r0 := 77) (pc := 109) (index := 7) (C := RX8) (T := TX8) (N := 36) (j0 := 1) (ref := "OldMapModel") K (by decide) sh_76 rfl i_X8 (by decide) (by decide +kernel) rfl rfl rf_76_1 dX8_triangle_109 ?_
                refine x_iconst (pc := 112) (v := 4) K dX8_triangle_112 (by decide) ?_
                refine x_iload_n (pc := 113) K 5 dX8_triangle_113 rfl rfl ?_
                refine x_imul (pc := 114) K dX8_triangle_114 ?_
                refine x_iload (pc := 115) K 0 dX8_triangle_115 rfl ?_
                refine x_iadd (pc := 117) K dX8_triangle_117 ?_
                refine y_iald (j := ((4 * c) + (2 * 0))) (pc := 118) K (by decide) sh_77 (nI_addE (nI_mulE rfl rfl) (nI_mulE rfl rfl)) (by omega) (by decide) dX8_triangle_118 ?_
                refine x_i2l (pc := 119) K dX8_triangle_119 ?_
                refine x_aload_n (pc := 120) K 2 dX8_triangle_120 rfl rfl ?_
                refine x_getr (r0 := 77) (pc := 121) (index := 7) (C := RX8) (T := TX8) (N := 36) (j0 := 1) (ref := "OldMapModel") K (by decide) sh_76 rfl i_X8 (by decide) (by decide +kernel) rfl rfl rf_76_1 dX8_triangle_121 ?_
                refine x_iconst (pc := 124) (v := 4) K dX8_triangle_124 (by decide) ?_
                refine x_iload_n (pc := 125) K 5 dX8_triangle_125 rfl rfl ?_
                refine x_imul (pc := 126) K dX8_triangle_126 ?_
                refine x_iload (pc := 127) K 0 dX8_triangle_127 rfl ?_
                refine x_iadd (pc := 129) K dX8_triangle_129 ?_
                refine x_iconst (pc := 130) (v := 1) K dX8_triangle_130 (by decide) ?_
                refine x_iadd (pc := 131) K dX8_triangle_131 ?_
                refine y_iald (j := (((4 * c) + (2 * 0)) + 1)) (pc := 132) K (by decide) sh_77 (nI_addE (nI_addE (nI_mulE rfl rfl) (nI_mulE rfl rfl)) rfl) (by omega) (by decide) dX8_triangle_132 ?_
                refine x_i2l (pc := 133) K dX8_triangle_133 ?_
                refine x_calllS (pc := 134) (st := []) (n := 6) K (c_X8_cross l G _ _ _ _ _ _ _ _) gX8_triangle_X8_cross (by decide +kernel) rfl (by decide) (by decide) rfl rfl (Nat.le_of_ble_eq_true rfl) dX8_triangle_134 (fun r_134 I_134 J_134 hp_134 => ?_)
                obtain ⟨rfl, rfl, rfl⟩ := hp_134
                refine x_tople (pcr I 0 a b c) rfl ?_
                refine x_lconst (pc := 137) (v := 0) K dX8_triangle_137 (by decide) ?_
                refine x_lcmp (pc := 138) K dX8_triangle_138 ?_
                refine x_if_ne (pc := 139) (tgt := 145) K dX8_triangle_139 (by decide) (fun c_139 => ?_) (fun c_139 => ?_)
                · replace c_139 := mt (lg_cmp_eq _ _).mpr c_139
                  refine x_iinc (pc := 145) (q0 := 1) (v := nI (0 + 1)) (lo' := [(4, _), (5, _), (0, _), (1, _), (2, _), (3, _)]) K dX8_triangle_145 rfl (nI_incE rfl) (by decide) rfl ?_
                  refine x_goto (pc := 148) (tgt := 44) K dX8_triangle_148 (by decide) ?_
                  refine x_iload (pc := 44) K 0 dX8_triangle_44 rfl ?_
                  refine x_iconst (pc := 46) (v := 2) K dX8_triangle_46 (by decide) ?_
                  refine x_icmp_ge (pc := 47) (tgt := 151) K dX8_triangle_47 (by decide) (fun c_47_1 => ?_) (fun c_47_1 => ?_)
                  · replace c_47_1 := cI_le (a := 2) (b := (0 + 1)) rfl rfl (by omega) (by omega) c_47_1
                    omega
                  · replace c_47_1 := cI_nle (a := 2) (b := (0 + 1)) rfl rfl (by omega) (by omega) c_47_1
                    refine x_iconst (pc := 50) (v := 2) K dX8_triangle_50 (by decide) ?_
                    refine x_iload (pc := 51) K 0 dX8_triangle_51 rfl ?_
                    refine x_imul (pc := 53) K dX8_triangle_53 ?_
                    refine x_istore (pc := 54) (lo' := [(5, _), (4, _), (0, _), (1, _), (2, _), (3, _)]) K dX8_triangle_54 (by decide) rfl ?_
                    refine x_aload_n (pc := 56) K 2 dX8_triangle_56 rfl rfl ?_
                    refine x_getr (r0 := 77) (pc := 57) (index := 7) (C := RX8) (T := TX8) (N := 36) (j0 := 1) (ref := "OldMapModel") K (by decide) sh_76 rfl i_X8 (by decide) (by decide +kernel) rfl rfl rf_76_1 dX8_triangle_57 ?_
                    refine x_iconst (pc := 60) (v := 4) K dX8_triangle_60 (by decide) ?_
                    refine x_iload_n (pc := 61) K 3 dX8_triangle_61 rfl rfl ?_
                    refine x_imul (pc := 62) K dX8_triangle_62 ?_
                    refine x_iload (pc := 63) K 0 dX8_triangle_63 rfl ?_
                    refine x_iadd (pc := 65) K dX8_triangle_65 ?_
                    refine y_iald (j := ((4 * a) + (2 * (0 + 1)))) (pc := 66) K (by decide) sh_77 (nI_addE (nI_mulE rfl rfl) (nI_mulE rfl rfl)) (by omega) (by decide) dX8_triangle_66 ?_
                    refine x_i2l (pc := 67) K dX8_triangle_67 ?_
                    refine x_aload_n (pc := 68) K 2 dX8_triangle_68 rfl rfl ?_
                    refine x_getr (r0 := 77) (pc := 69) (index := 7) (C := RX8) (T := TX8) (N := 36) (j0 := 1) (ref := "OldMapModel") K (by decide) sh_76 rfl i_X8 (by decide) (by decide +kernel) rfl rfl rf_76_1 dX8_triangle_69 ?_
                    refine x_iconst (pc := 72) (v := 4) K dX8_triangle_72 (by decide) ?_
                    refine x_iload_n (pc := 73) K 3 dX8_triangle_73 rfl rfl ?_
                    refine x_imul (pc := 74) K dX8_triangle_74 ?_
                    refine x_iload (pc := 75) K 0 dX8_triangle_75 rfl ?_
                    refine x_iadd (pc := 77) K dX8_triangle_77 ?_
                    refine x_iconst (pc := 78) (v := 1) K dX8_triangle_78 (by decide) ?_
                    refine x_iadd (pc := 79) K dX8_triangle_79 ?_
                    refine y_iald (j := (((4 * a) + (2 * (0 + 1))) + 1)) (pc := 80) K (by decide) sh_77 (nI_addE (nI_addE (nI_mulE rfl rfl) (nI_mulE rfl rfl)) rfl) (by omega) (by decide) dX8_triangle_80 ?_
                    refine x_i2l (pc := 81) K dX8_triangle_81 ?_
                    refine x_aload_n (pc := 82) K 2 dX8_triangle_82 rfl rfl ?_
                    refine x_getr (r0 := 77) (pc := 83) (index := 7) (C := RX8) (T := TX8) (N := 36) (j0 := 1) (ref := "OldMapModel") K (by decide) sh_76 rfl i_X8 (by decide) (by decide +kernel) rfl rfl rf_76_1 dX8_triangle_83 ?_
                    refine x_iconst (pc := 86) (v := 4) K dX8_triangle_86 (by decide) ?_
                    refine x_iload_n (pc := 87) K 4 dX8_triangle_87 rfl rfl ?_
                    refine x_imul (pc := 88) K dX8_triangle_88 ?_
                    refine x_iload (pc := 89) K 0 dX8_triangle_89 rfl ?_
                    refine x_iadd (pc := 91) K dX8_triangle_91 ?_
                    refine y_iald (j := ((4 * b) + (2 * (0 + 1)))) (pc := 92) K (by decide) sh_77 (nI_addE (nI_mulE rfl rfl) (nI_mulE rfl rfl)) (by omega) (by decide) dX8_triangle_92 ?_
                    refine x_i2l (pc := 93) K dX8_triangle_93 ?_
                    refine x_aload_n (pc := 94) K 2 dX8_triangle_94 rfl rfl ?_
                    refine x_getr (r0 := 77) (pc := 95) (index := 7) (C := RX8) (T := TX8) (N := 36) (j0 := 1) (ref := "OldMapModel") K (by decide) sh_76 rfl i_X8 (by decide) (by decide +kernel) rfl rfl rf_76_1 dX8_triangle_95 ?_
                    refine x_iconst (pc := 98) (v := 4) K dX8_triangle_98 (by decide) ?_
                    refine x_iload_n (pc := 99) K 4 dX8_triangle_99 rfl rfl ?_
                    refine x_imul (pc := 100) K dX8_triangle_100 ?_
                    refine x_iload (pc := 101) K 0 dX8_triangle_101 rfl ?_
                    refine x_iadd (pc := 103) K dX8_triangle_103 ?_
                    refine x_iconst (pc := 104) (v := 1) K dX8_triangle_104 (by decide) ?_
                    refine x_iadd (pc := 105) K dX8_triangle_105 ?_
                    refine y_iald (j := (((4 * b) + (2 * (0 + 1))) + 1)) (pc := 106) K (by decide) sh_77 (nI_addE (nI_addE (nI_mulE rfl rfl) (nI_mulE rfl rfl)) rfl) (by omega) (by decide) dX8_triangle_106 ?_
                    refine x_i2l (pc := 107) K dX8_triangle_107 ?_
                    refine x_aload_n (pc := 108) K 2 dX8_triangle_108 rfl rfl ?_
                    refine x_getr (r0 := 77) (pc := 109) (index := 7) (C := RX8) (T := TX8) (N := 36) (j0 := 1) (ref := "OldMapModel") K (by decide) sh_76 rfl i_X8 (by decide) (by decide +kernel) rfl rfl rf_76_1 dX8_triangle_109 ?_
                    refine x_iconst (pc := 112) (v := 4) K dX8_triangle_112 (by decide) ?_
                    refine x_iload_n (pc := 113) K 5 dX8_triangle_113 rfl rfl ?_
                    refine x_imul (pc := 114) K dX8_triangle_114 ?_
                    refine x_iload (pc := 115) K 0 dX8_triangle_115 rfl ?_
                    refine x_iadd (pc := 117) K dX8_triangle_117 ?_
                    refine y_iald (j := ((4 * c) + (2 * (0 + 1)))) (pc := 118) K (by decide) sh_77 (nI_addE (nI_mulE rfl rfl) (nI_mulE rfl rfl)) (by omega) (by decide) dX8_triangle_118 ?_
                    refine x_i2l (pc := 119) K dX8_triangle_119 ?_
                    refine x_aload_n (pc := 120) K 2 dX8_triangle_120 rfl rfl ?_
                    refine x_getr (r0 := 77) (pc := 121) (index := 7) (C := RX8) (T := TX8) (N := 36) (j0 := 1) (ref := "OldMapModel") K (by decide) sh_76 rfl i_X8 (by decide) (by decide +kernel) rfl rfl rf_76_1 dX8_triangle_121 ?_
                    refine x_iconst (pc := 124) (v := 4) K dX8_triangle_124 (by decide) ?_
                    refine x_iload_n (pc := 125) K 5 dX8_triangle_125 rfl rfl ?_
                    refine x_imul (pc := 126) K dX8_triangle_126 ?_
                    refine x_iload (pc := 127) K 0 dX8_triangle_127 rfl ?_
                    refine x_iadd (pc := 129) K dX8_triangle_129 ?_
                    refine x_iconst (pc := 130) (v := 1) K dX8_triangle_130 (by decide) ?_
                    refine x_iadd (pc := 131) K dX8_triangle_131 ?_
                    refine y_iald (j := (((4 * c) + (2 * (0 + 1))) + 1)) (pc := 132) K (by decide) sh_77 (nI_addE (nI_addE (nI_mulE rfl rfl) (nI_mulE rfl rfl)) rfl) (by omega) (by decide) dX8_triangle_132 ?_
                    refine x_i2l (pc := 133) K dX8_triangle_133 ?_
                    refine x_calllS (pc := 134) (st := []) (n := 6) K (c_X8_cross l G _ _ _ _ _ _ _ _) gX8_triangle_X8_cross (by decide +kernel) rfl (by decide) (by decide) rfl rfl (Nat.le_of_ble_eq_true rfl) dX8_triangle_134 (fun r_134 I_134 J_134 hp_134 => ?_)
                    obtain ⟨rfl, rfl, rfl⟩ := hp_134
                    refine x_tople (pcr I 1 a b c) rfl ?_
                    refine x_lconst (pc := 137) (v := 0) K dX8_triangle_137 (by decide) ?_
                    refine x_lcmp (pc := 138) K dX8_triangle_138 ?_
                    refine x_if_ne (pc := 139) (tgt := 145) K dX8_triangle_139 (by decide) (fun c_139_1 => ?_) (fun c_139_1 => ?_)
                    · replace c_139_1 := mt (lg_cmp_eq _ _).mpr c_139_1
                      refine x_iinc (pc := 145) (q0 := 1) (v := nI ((0 + 1) + 1)) (lo' := [(4, _), (5, _), (0, _), (1, _), (2, _), (3, _)]) K dX8_triangle_145 rfl (nI_incE rfl) (by decide) rfl ?_
                      refine x_goto (pc := 148) (tgt := 44) K dX8_triangle_148 (by decide) ?_
                      refine x_iload (pc := 44) K 0 dX8_triangle_44 rfl ?_
                      refine x_iconst (pc := 46) (v := 2) K dX8_triangle_46 (by decide) ?_
                      refine x_icmp_ge (pc := 47) (tgt := 151) K dX8_triangle_47 (by decide) (fun c_47_2 => ?_) (fun c_47_2 => ?_)
                      · replace c_47_2 := cI_le (a := 2) (b := ((0 + 1) + 1)) rfl rfl (by omega) (by omega) c_47_2
                        refine x_aload_n (pc := 151) K 2 dX8_triangle_151 rfl rfl ?_
                        refine x_geti (pc := 152) (index := 183) (C := RX8) (T := TX8) (N := 36) (j0 := 4) (ref := "OldMapModel") K (by decide) sh_76 rfl i_X8 (by decide) (by decide +kernel) rfl rfl dX8_triangle_152 ?_
                        refine x_topie (nI nt) (by simp [h_up, ht]) ?_
                        refine x_bipush (pc := 155) (v := 10) K dX8_triangle_155 (by decide) ?_
                        refine x_icmp_ne (pc := 157) (tgt := 163) K dX8_triangle_157 (by decide) (fun c_157 => ?_) (fun c_157 => ?_)
                        · replace c_157 := cI_ne (a := nt) (b := 10) rfl rfl (by omega) (by omega) c_157
                          refine x_aload_n (pc := 163) K 2 dX8_triangle_163 rfl rfl ?_
                          refine x_getr (r0 := 80) (pc := 164) (index := 20) (C := RX8) (T := TX8) (N := 36) (j0 := 5) (ref := "OldMapModel") K (by decide) sh_76 rfl i_X8 (by decide) (by decide +kernel) rfl rfl rf_76_5 dX8_triangle_164 ?_
                          refine x_iconst (pc := 167) (v := 3) K dX8_triangle_167 (by decide) ?_
                          refine x_aload_n (pc := 168) K 2 dX8_triangle_168 rfl rfl ?_
                          refine x_geti (pc := 169) (index := 183) (C := RX8) (T := TX8) (N := 36) (j0 := 4) (ref := "OldMapModel") K (by decide) sh_76 rfl i_X8 (by decide) (by decide +kernel) rfl rfl dX8_triangle_169 ?_
                          refine x_topie (nI nt) (by simp [h_up, ht]) ?_
                          refine x_imul (pc := 172) K dX8_triangle_172 ?_
                          refine x_iload_n (pc := 173) K 3 dX8_triangle_173 rfl rfl ?_
                          refine y_iast (j := (3 * nt)) (pc := 174) K (by decide) sh_80 (nI_mulE rfl rfl) (by omega) (by decide) dX8_triangle_174 ?_
                          refine x_aload_n (pc := 175) K 2 dX8_triangle_175 rfl rfl ?_
                          refine x_getr (r0 := 80) (pc := 176) (index := 20) (C := RX8) (T := TX8) (N := 36) (j0 := 5) (ref := "OldMapModel") K (by decide) sh_76 rfl i_X8 (by decide) (by decide +kernel) rfl rfl rf_76_5 dX8_triangle_176 ?_
                          refine x_iconst (pc := 179) (v := 3) K dX8_triangle_179 (by decide) ?_
                          refine x_aload_n (pc := 180) K 2 dX8_triangle_180 rfl rfl ?_
                          refine x_geti (pc := 181) (index := 183) (C := RX8) (T := TX8) (N := 36) (j0 := 4) (ref := "OldMapModel") K (by decide) sh_76 rfl i_X8 (by decide) (by decide +kernel) rfl rfl dX8_triangle_181 ?_
                          refine x_topie (nI nt) (by simp [h_up, ht]) ?_
                          refine x_imul (pc := 184) K dX8_triangle_184 ?_
                          refine x_iconst (pc := 185) (v := 1) K dX8_triangle_185 (by decide) ?_
                          refine x_iadd (pc := 186) K dX8_triangle_186 ?_
                          refine x_iload_n (pc := 187) K 4 dX8_triangle_187 rfl rfl ?_
                          refine y_iast (j := ((3 * nt) + 1)) (pc := 188) K (by decide) sh_80 (nI_addE (nI_mulE rfl rfl) rfl) (by omega) (by decide) dX8_triangle_188 ?_
                          refine x_aload_n (pc := 189) K 2 dX8_triangle_189 rfl rfl ?_
                          refine x_getr (r0 := 80) (pc := 190) (index := 20) (C := RX8) (T := TX8) (N := 36) (j0 := 5) (ref := "OldMapModel") K (by decide) sh_76 rfl i_X8 (by decide) (by decide +kernel) rfl rfl rf_76_5 dX8_triangle_190 ?_
                          refine x_iconst (pc := 193) (v := 3) K dX8_triangle_193 (by decide) ?_
                          refine x_aload_n (pc := 194) K 2 dX8_triangle_194 rfl rfl ?_
                          refine x_geti (pc := 195) (index := 183) (C := RX8) (T := TX8) (N := 36) (j0 := 4) (ref := "OldMapModel") K (by decide) sh_76 rfl i_X8 (by decide) (by decide +kernel) rfl rfl dX8_triangle_195 ?_
                          refine x_topie (nI nt) (by simp [h_up, ht]) ?_
                          refine x_imul (pc := 198) K dX8_triangle_198 ?_
                          refine x_iconst (pc := 199) (v := 2) K dX8_triangle_199 (by decide) ?_
                          refine x_iadd (pc := 200) K dX8_triangle_200 ?_
                          refine x_iload_n (pc := 201) K 5 dX8_triangle_201 rfl rfl ?_
                          refine y_iast (j := ((3 * nt) + 2)) (pc := 202) K (by decide) sh_80 (nI_addE (nI_mulE rfl rfl) rfl) (by omega) (by decide) dX8_triangle_202 ?_
                          refine x_aload_n (pc := 203) K 2 dX8_triangle_203 rfl rfl ?_
                          refine x_dup (pc := 204) K dX8_triangle_204 rfl ?_
                          refine x_geti (pc := 205) (index := 183) (C := RX8) (T := TX8) (N := 36) (j0 := 4) (ref := "OldMapModel") K (by decide) sh_76 rfl i_X8 (by decide) (by decide +kernel) rfl rfl dX8_triangle_205 ?_
                          refine x_topie (nI nt) (by simp [h_up, ht]) ?_
                          refine x_iconst (pc := 208) (v := 1) K dX8_triangle_208 (by decide) ?_
                          refine x_iadd (pc := 209) K dX8_triangle_209 ?_
                          refine x_puti (ty := .int) (pc := 210) (index := 183) (C := RX8) (T := TX8) (N := 36) (j0 := 4) (ref := "OldMapModel") K (by decide) sh_76 rfl i_X8 (by decide) (by decide +kernel) rfl tyX8 tyX8_ok nmX8 rfl (by decide +kernel) rfl rfl rfl dX8_triangle_210 ?_
                          refine x_aload_n (pc := 213) K 2 dX8_triangle_213 rfl rfl ?_
                          refine x_geti (pc := 214) (index := 183) (C := RX8) (T := TX8) (N := 36) (j0 := 4) (ref := "OldMapModel") K (by decide) sh_76 rfl i_X8 (by decide) (by decide +kernel) rfl rfl dX8_triangle_214 ?_
                          refine x_topie (nI (nt + 1)) (by simp [h_up, nI_1]) ?_
                          refine x_iconst (pc := 217) (v := 1) K dX8_triangle_217 (by decide) ?_
                          refine x_isub (pc := 218) K dX8_triangle_218 ?_
                          refine x_topie (nI nt) (by rw [nI_pred]) ?_
                          exact ret (pc := 219) dX8_triangle_219 (⟨by rw [if_pos ⟨c_5, c_13, c_21, c_26, c_31, c_36⟩, tn_n (by omega), tn_n (by omega), tn_n (by omega), if_neg (not_or.mpr ⟨c_139, c_139_1⟩), if_pos (show nt < 10 by omega)], by rw [if_pos ⟨c_5, c_13, c_21, c_26, c_31, c_36⟩, tn_n (by omega), tn_n (by omega), tn_n (by omega), if_neg (not_or.mpr ⟨c_139, c_139_1⟩), if_pos (show nt < 10 by omega)]; rfl, rfl⟩) rfl
                        · replace c_157 := cI_eq (a := nt) (b := 10) rfl rfl (by omega) (by omega) c_157
                          refine x_bipush (pc := 160) (v := -2) K dX8_triangle_160 (by decide) ?_
                          exact ret (pc := 162) dX8_triangle_162 (⟨by rw [if_pos ⟨c_5, c_13, c_21, c_26, c_31, c_36⟩, tn_n (by omega), tn_n (by omega), tn_n (by omega), if_neg (not_or.mpr ⟨c_139, c_139_1⟩), if_neg (by omega)], by rw [if_pos ⟨c_5, c_13, c_21, c_26, c_31, c_36⟩, tn_n (by omega), tn_n (by omega), tn_n (by omega), if_neg (not_or.mpr ⟨c_139, c_139_1⟩), if_neg (by omega)], rfl⟩) rfl
                      · replace c_47_2 := cI_nle (a := 2) (b := ((0 + 1) + 1)) rfl rfl (by omega) (by omega) c_47_2
                        omega
                    · replace c_139_1 := (lg_cmp_eq _ _).mp c_139_1
                      refine x_bipush (pc := 142) (v := -4) K dX8_triangle_142 (by decide) ?_
                      exact ret (pc := 144) dX8_triangle_144 (⟨by rw [if_pos ⟨c_5, c_13, c_21, c_26, c_31, c_36⟩, tn_n (by omega), tn_n (by omega), tn_n (by omega), if_pos (Or.inr c_139_1)], by rw [if_pos ⟨c_5, c_13, c_21, c_26, c_31, c_36⟩, tn_n (by omega), tn_n (by omega), tn_n (by omega), if_pos (Or.inr c_139_1)], rfl⟩) rfl
                · replace c_139 := (lg_cmp_eq _ _).mp c_139
                  refine x_bipush (pc := 142) (v := -4) K dX8_triangle_142 (by decide) ?_
                  exact ret (pc := 144) dX8_triangle_144 (⟨by rw [if_pos ⟨c_5, c_13, c_21, c_26, c_31, c_36⟩, tn_n (by omega), tn_n (by omega), tn_n (by omega), if_pos (Or.inl c_139)], by rw [if_pos ⟨c_5, c_13, c_21, c_26, c_31, c_36⟩, tn_n (by omega), tn_n (by omega), tn_n (by omega), if_pos (Or.inl c_139)], rfl⟩) rfl
            · refine x_iconst (pc := 39) (v := -1) K dX8_triangle_39 (by decide) ?_
              exact ret (pc := 40) dX8_triangle_40 (⟨if_neg (fun h => h.2.2.2.2.2 c_36), if_neg (fun h => h.2.2.2.2.2 c_36), rfl⟩) rfl

set_option maxHeartbeats 1000000 in
set_option maxRecDepth 100000 in
theorem c_X8_thing (l : Launch) (G : hQ) (I : hI) (J : hJ) (m kd x y : Int32) (ct : Nat → Nat) (hct : ∀ m, m < 2 → I 81 m = nI (ct m)) (h6 : ∀ m, m < 2 → ct m ≤ 6) : h_Mi l yX8_thing wsX8_thing 2 43 G [rr G 76, .int m, .int kd, .int x, .int y] I J (fun ρ I' J' => (if (0 ≤ m ∧ m ≤ 1) ∧ (0 ≤ kd ∧ kd ≤ 5) ∧ Pl x y then (if ct (tn m) < 6 then nI (ct (tn m)) else -2) else -1) = ρ ∧ (if (0 ≤ m ∧ m ≤ 1) ∧ (0 ≤ kd ∧ kd ≤ 5) ∧ Pl x y then (if ct (tn m) < 6 then addThM I (tn m) (ct (tn m)) kd x y else I) else I) = I' ∧ J = J') := by
  refine h_Mi.of (ty := .int) (cc := cX8_thing) (maxL := 6) [(0, rr G 76), (1, .int m), (2, .int kd), (3, .int x), (4, .int y)] (by decide +kernel) rfl (Nat.le_of_ble_eq_true rfl) rfl ?_
  intro Γ K ret
  have i_X8 : ∀ w ∈ u_ws RX8 TX8 36, w ∈ wsX8_thing := by decide +kernel
  refine x_iload_n (pc := 0) K 1 dX8_thing_0 rfl rfl ?_
  refine x_calliS (pc := 1) (st := []) (n := 1) K (c_X8_isMap l G _ _ _) gX8_thing_X8_isMap (by decide +kernel) rfl (by decide) (by decide) rfl rfl (Nat.le_of_ble_eq_true rfl) dX8_thing_1 (fun r_1 I_1 J_1 hp_1 => ?_)
  obtain ⟨rfl, rfl, rfl⟩ := hp_1
  refine x_if_eq (pc := 4) (tgt := 25) K dX8_thing_4 (by decide) (fun c_4 => ?_) (fun c_4 => ?_)
  · replace c_4 := bz_0.mp c_4
    refine x_iconst (pc := 25) (v := -1) K dX8_thing_25 (by decide) ?_
    exact ret (pc := 26) dX8_thing_26 (⟨if_neg (fun h => c_4 h.1), if_neg (fun h => c_4 h.1), rfl⟩) rfl
  · replace c_4 := bz_n0.mp c_4
    obtain ⟨mp, hmp, rfl⟩ := mp1_of c_4
    have hc6 := h6 mp hmp
    refine x_iload_n (pc := 7) K 2 dX8_thing_7 rfl rfl ?_
    refine x_iconst (pc := 8) (v := 0) K dX8_thing_8 (by decide) ?_
    refine x_iconst (pc := 9) (v := 5) K dX8_thing_9 (by decide) ?_
    refine x_calliS (pc := 10) (st := []) (n := 3) K (c_X8_in l G _ _ _ _ _) gX8_thing_X8_in (by decide +kernel) rfl (by decide) (by decide) rfl rfl (Nat.le_of_ble_eq_true rfl) dX8_thing_10 (fun r_10 I_10 J_10 hp_10 => ?_)
    obtain ⟨rfl, rfl, rfl⟩ := hp_10
    refine x_if_eq (pc := 13) (tgt := 25) K dX8_thing_13 (by decide) (fun c_13 => ?_) (fun c_13 => ?_)
    · replace c_13 := bz_0.mp c_13
      refine x_iconst (pc := 25) (v := -1) K dX8_thing_25 (by decide) ?_
      exact ret (pc := 26) dX8_thing_26 (⟨if_neg (fun h => c_13 h.2.1), if_neg (fun h => c_13 h.2.1), rfl⟩) rfl
    · replace c_13 := bz_n0.mp c_13
      refine x_iload_n (pc := 16) K 3 dX8_thing_16 rfl rfl ?_
      refine x_iload (pc := 17) K 4 dX8_thing_17 rfl ?_
      refine x_calliS (pc := 19) (st := []) (n := 2) K (c_X8_isPlace l G _ _ _ _) gX8_thing_X8_isPlace (by decide +kernel) rfl (by decide) (by decide) rfl rfl (Nat.le_of_ble_eq_true rfl) dX8_thing_19 (fun r_19 I_19 J_19 hp_19 => ?_)
      obtain ⟨rfl, rfl, rfl⟩ := hp_19
      refine x_if_ne (pc := 22) (tgt := 27) K dX8_thing_22 (by decide) (fun c_22 => ?_) (fun c_22 => ?_)
      · replace c_22 := bz_n0.mp c_22
        refine x_aload_n (pc := 27) K 0 dX8_thing_27 rfl rfl ?_
        refine x_getr (r0 := 81) (pc := 28) (index := 23) (C := RX8) (T := TX8) (N := 36) (j0 := 6) (ref := "OldMapModel") K (by decide) sh_76 rfl i_X8 (by decide) (by decide +kernel) rfl rfl rf_76_6 dX8_thing_28 ?_
        refine x_iload_n (pc := 31) K 1 dX8_thing_31 rfl rfl ?_
        refine y_iald (j := mp) (pc := 32) K (by decide) sh_81 rfl (by omega) (by decide) dX8_thing_32 ?_
        refine x_topie (nI (ct mp)) (by simp [h_up, hct mp hmp]) ?_
        refine x_bipush (pc := 33) (v := 6) K dX8_thing_33 (by decide) ?_
        refine x_icmp_ne (pc := 35) (tgt := 41) K dX8_thing_35 (by decide) (fun c_35 => ?_) (fun c_35 => ?_)
        · replace c_35 := cI_ne (a := (ct mp)) (b := 6) rfl rfl (by omega) (by omega) c_35
          refine x_bipush (pc := 41) (v := 18) K dX8_thing_41 (by decide) ?_
          refine x_iload_n (pc := 43) K 1 dX8_thing_43 rfl rfl ?_
          refine x_imul (pc := 44) K dX8_thing_44 ?_
          refine x_iconst (pc := 45) (v := 3) K dX8_thing_45 (by decide) ?_
          refine x_aload_n (pc := 46) K 0 dX8_thing_46 rfl rfl ?_
          refine x_getr (r0 := 81) (pc := 47) (index := 23) (C := RX8) (T := TX8) (N := 36) (j0 := 6) (ref := "OldMapModel") K (by decide) sh_76 rfl i_X8 (by decide) (by decide +kernel) rfl rfl rf_76_6 dX8_thing_47 ?_
          refine x_iload_n (pc := 50) K 1 dX8_thing_50 rfl rfl ?_
          refine y_iald (j := mp) (pc := 51) K (by decide) sh_81 rfl (by omega) (by decide) dX8_thing_51 ?_
          refine x_topie (nI (ct mp)) (by simp [h_up, hct mp hmp]) ?_
          refine x_imul (pc := 52) K dX8_thing_52 ?_
          refine x_iadd (pc := 53) K dX8_thing_53 ?_
          refine x_istore (pc := 54) (lo' := [(5, _), (0, _), (1, _), (2, _), (3, _), (4, _)]) K dX8_thing_54 (by decide) rfl ?_
          refine x_aload_n (pc := 56) K 1 dX8_thing_56 rfl rfl ?_
          refine x_getr (r0 := 82) (pc := 57) (index := 26) (C := RX8) (T := TX8) (N := 36) (j0 := 7) (ref := "OldMapModel") K (by decide) sh_76 rfl i_X8 (by decide) (by decide +kernel) rfl rfl rf_76_7 dX8_thing_57 ?_
          refine x_iload (pc := 60) K 0 dX8_thing_60 rfl ?_
          refine x_iload_n (pc := 62) K 3 dX8_thing_62 rfl rfl ?_
          refine y_iast (j := ((18 * mp) + (3 * (ct mp)))) (pc := 63) K (by decide) sh_82 (nI_addE (nI_mulE rfl rfl) (nI_mulE rfl rfl)) (by omega) (by decide) dX8_thing_63 ?_
          refine x_aload_n (pc := 64) K 1 dX8_thing_64 rfl rfl ?_
          refine x_getr (r0 := 82) (pc := 65) (index := 26) (C := RX8) (T := TX8) (N := 36) (j0 := 7) (ref := "OldMapModel") K (by decide) sh_76 rfl i_X8 (by decide) (by decide +kernel) rfl rfl rf_76_7 dX8_thing_65 ?_
          refine x_iload (pc := 68) K 0 dX8_thing_68 rfl ?_
          refine x_iconst (pc := 70) (v := 1) K dX8_thing_70 (by decide) ?_
          refine x_iadd (pc := 71) K dX8_thing_71 ?_
          refine x_iload_n (pc := 72) K 4 dX8_thing_72 rfl rfl ?_
          refine y_iast (j := (((18 * mp) + (3 * (ct mp))) + 1)) (pc := 73) K (by decide) sh_82 (nI_addE (nI_addE (nI_mulE rfl rfl) (nI_mulE rfl rfl)) rfl) (by omega) (by decide) dX8_thing_73 ?_
          refine x_aload_n (pc := 74) K 1 dX8_thing_74 rfl rfl ?_
          refine x_getr (r0 := 82) (pc := 75) (index := 26) (C := RX8) (T := TX8) (N := 36) (j0 := 7) (ref := "OldMapModel") K (by decide) sh_76 rfl i_X8 (by decide) (by decide +kernel) rfl rfl rf_76_7 dX8_thing_75 ?_
          refine x_iload (pc := 78) K 0 dX8_thing_78 rfl ?_
          refine x_iconst (pc := 80) (v := 2) K dX8_thing_80 (by decide) ?_
          refine x_iadd (pc := 81) K dX8_thing_81 ?_
          refine x_iload (pc := 82) K 5 dX8_thing_82 rfl ?_
          refine y_iast (j := (((18 * mp) + (3 * (ct mp))) + 2)) (pc := 84) K (by decide) sh_82 (nI_addE (nI_addE (nI_mulE rfl rfl) (nI_mulE rfl rfl)) rfl) (by omega) (by decide) dX8_thing_84 ?_
          refine x_aload_n (pc := 85) K 1 dX8_thing_85 rfl rfl ?_
          refine x_getr (r0 := 81) (pc := 86) (index := 23) (C := RX8) (T := TX8) (N := 36) (j0 := 6) (ref := "OldMapModel") K (by decide) sh_76 rfl i_X8 (by decide) (by decide +kernel) rfl rfl rf_76_6 dX8_thing_86 ?_
          refine x_iload_n (pc := 89) K 2 dX8_thing_89 rfl rfl ?_
          refine x_dup2 (pc := 90) K dX8_thing_90 rfl rfl ?_
          refine y_iald (j := mp) (pc := 91) K (by decide) sh_81 rfl (by omega) (by decide) dX8_thing_91 ?_
          refine x_topie (nI (ct mp)) (by simp [h_up, hct mp hmp]) ?_
          refine x_iconst (pc := 92) (v := 1) K dX8_thing_92 (by decide) ?_
          refine x_iadd (pc := 93) K dX8_thing_93 ?_
          refine y_iast (j := mp) (pc := 94) K (by decide) sh_81 rfl (by omega) (by decide) dX8_thing_94 ?_
          refine x_aload_n (pc := 95) K 1 dX8_thing_95 rfl rfl ?_
          refine x_getr (r0 := 81) (pc := 96) (index := 23) (C := RX8) (T := TX8) (N := 36) (j0 := 6) (ref := "OldMapModel") K (by decide) sh_76 rfl i_X8 (by decide) (by decide +kernel) rfl rfl rf_76_6 dX8_thing_96 ?_
          refine x_iload_n (pc := 99) K 2 dX8_thing_99 rfl rfl ?_
          refine y_iald (j := mp) (pc := 100) K (by decide) sh_81 rfl (by omega) (by decide) dX8_thing_100 ?_
          refine x_topie (nI (ct mp + 1)) (by simp [h_up, nI_1]) ?_
          refine x_iconst (pc := 101) (v := 1) K dX8_thing_101 (by decide) ?_
          refine x_isub (pc := 102) K dX8_thing_102 ?_
          refine x_topie (nI (ct mp)) (by rw [nI_pred]) ?_
          exact ret (pc := 103) dX8_thing_103 (⟨by rw [if_pos ⟨c_4, c_13, c_22⟩, tn_n (by omega), if_pos (show ct mp < 6 by omega)], by rw [if_pos ⟨c_4, c_13, c_22⟩, tn_n (by omega), if_pos (show ct mp < 6 by omega)]; rfl, rfl⟩) rfl
        · replace c_35 := cI_eq (a := (ct mp)) (b := 6) rfl rfl (by omega) (by omega) c_35
          refine x_bipush (pc := 38) (v := -2) K dX8_thing_38 (by decide) ?_
          exact ret (pc := 40) dX8_thing_40 (⟨by rw [if_pos ⟨c_4, c_13, c_22⟩, tn_n (by omega), if_neg (by omega)], by rw [if_pos ⟨c_4, c_13, c_22⟩, tn_n (by omega), if_neg (by omega)], rfl⟩) rfl
      · replace c_22 := bz_0.mp c_22
        refine x_iconst (pc := 25) (v := -1) K dX8_thing_25 (by decide) ?_
        exact ret (pc := 26) dX8_thing_26 (⟨if_neg (fun h => c_22 h.2.2), if_neg (fun h => c_22 h.2.2), rfl⟩) rfl

set_option maxHeartbeats 1000000 in
set_option maxRecDepth 100000 in
theorem c_X8_sweep (l : Launch) (G : hQ) (I : hI) (J : hJ) (m : Int32) : h_Mi l yX8_sweep wsX8_sweep 2 42 G [rr G 76, .int m] I J (fun ρ I' J' => (if (0 ≤ m ∧ m ≤ 1) then I 81 (tn m) else -1) = ρ ∧ (if (0 ≤ m ∧ m ≤ 1) then h_up I 81 (tn m) 0 else I) = I' ∧ J = J') := by
  refine h_Mi.of (ty := .int) (cc := cX8_sweep) (maxL := 3) [(0, rr G 76), (1, .int m)] (by decide +kernel) rfl (Nat.le_of_ble_eq_true rfl) rfl ?_
  intro Γ K ret
  have i_X8 : ∀ w ∈ u_ws RX8 TX8 36, w ∈ wsX8_sweep := by decide +kernel
  refine x_iload_n (pc := 0) K 1 dX8_sweep_0 rfl rfl ?_
  refine x_calliS (pc := 1) (st := []) (n := 1) K (c_X8_isMap l G _ _ _) gX8_sweep_X8_isMap (by decide +kernel) rfl (by decide) (by decide) rfl rfl (Nat.le_of_ble_eq_true rfl) dX8_sweep_1 (fun r_1 I_1 J_1 hp_1 => ?_)
  obtain ⟨rfl, rfl, rfl⟩ := hp_1
  refine x_if_ne (pc := 4) (tgt := 9) K dX8_sweep_4 (by decide) (fun c_4 => ?_) (fun c_4 => ?_)
  · replace c_4 := bz_n0.mp c_4
    obtain ⟨mp, hmp, rfl⟩ := mp1_of c_4
    refine x_aload_n (pc := 9) K 0 dX8_sweep_9 rfl rfl ?_
    refine x_getr (r0 := 81) (pc := 10) (index := 23) (C := RX8) (T := TX8) (N := 36) (j0 := 6) (ref := "OldMapModel") K (by decide) sh_76 rfl i_X8 (by decide) (by decide +kernel) rfl rfl rf_76_6 dX8_sweep_10 ?_
    refine x_iload_n (pc := 13) K 1 dX8_sweep_13 rfl rfl ?_
    refine y_iald (j := mp) (pc := 14) K (by decide) sh_81 rfl (by omega) (by decide) dX8_sweep_14 ?_
    refine x_istore_n (pc := 15) (lo' := [(2, _), (0, _), (1, _)]) K dX8_sweep_15 rfl (by decide) rfl ?_
    refine x_aload_n (pc := 16) K 1 dX8_sweep_16 rfl rfl ?_
    refine x_getr (r0 := 81) (pc := 17) (index := 23) (C := RX8) (T := TX8) (N := 36) (j0 := 6) (ref := "OldMapModel") K (by decide) sh_76 rfl i_X8 (by decide) (by decide +kernel) rfl rfl rf_76_6 dX8_sweep_17 ?_
    refine x_iload_n (pc := 20) K 2 dX8_sweep_20 rfl rfl ?_
    refine x_iconst (pc := 21) (v := 0) K dX8_sweep_21 (by decide) ?_
    refine y_iast (j := mp) (pc := 22) K (by decide) sh_81 rfl (by omega) (by decide) dX8_sweep_22 ?_
    refine x_iload_n (pc := 23) K 0 dX8_sweep_23 rfl rfl ?_
    exact ret (pc := 24) dX8_sweep_24 (⟨by rw [if_pos c_4, tn_n (by omega)], by rw [if_pos c_4, tn_n (by omega)], rfl⟩) rfl
  · replace c_4 := bz_0.mp c_4
    refine x_iconst (pc := 7) (v := -1) K dX8_sweep_7 (by decide) ?_
    exact ret (pc := 8) dX8_sweep_8 (⟨if_neg c_4, if_neg c_4, rfl⟩) rfl

