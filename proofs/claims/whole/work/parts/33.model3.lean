/-! the reference's face: bends -/
def lowOk (I : hI) (n kd : Nat) (b : Int32) : Prop := ¬ MW I n kd b 19 = 0 ∧ ¬ MW I n kd b 23 = 0 ∧ ¬ MW I n kd b 25 = 0 ∧ ¬ MW I n kd b 27 = 0 ∧ ¬ MW I n kd b 29 = 0 ∧ (kd = 2 → ¬ MW I n kd b 31 = 0)
abbrev par2 (w : Nat) : Int32 := if w % 2 = 1 then 1 else 0
def M_bend (I : hI) (n kd : Nat) (b : Int32) (w : Nat) : Int64 := if w / 2 = 0 then toldM (MW I n kd b 18) (MW I n kd b 19) (par2 w) else if w / 2 = 1 then toldM (MW I n kd b 22) (MW I n kd b 23) (par2 w) else if w / 2 = 2 then toldM (MW I n kd b 24) (MW I n kd b 25) (par2 w) else toldM (MW I n kd b 26) (MW I n kd b 27) (par2 w)
def M_carry (I : hI) (n kd : Nat) (b x y : Int32) (w : Nat) : Int64 := if w < 2 then toldM (MW I n kd b 16 * x.toInt64 + MW I n kd b 17 * y.toInt64 + MW I n kd b 18) (MW I n kd b 19) (par2 w) else toldM (MW I n kd b 20 * x.toInt64 + MW I n kd b 21 * y.toInt64 + MW I n kd b 22) (MW I n kd b 23) (par2 w)
def offM (I : hI) (J : hJ) (p : Nat) (c : Int32) : Int64 := if c = 0 then (I 77 (4 * p + 2)).toInt64 * J 76 19 - (J 76 16 * (I 77 (4 * p)).toInt64 + J 76 17 * (I 77 (4 * p + 1)).toInt64 + J 76 18) else (I 77 (4 * p + 3)).toInt64 * J 76 23 - (J 76 20 * (I 77 (4 * p)).toInt64 + J 76 21 * (I 77 (4 * p + 1)).toInt64 + J 76 22)
abbrev bM (I : hI) (J : hJ) (p : Nat) : Prop := (I 76 8).toInt64 * J 76 19 < ng64 (offM I J p 0) ∨ (I 76 8).toInt64 * J 76 23 < ng64 (offM I J p 1)
def offW (I : hI) (n kd : Nat) (b : Int32) (p : Nat) (c : Int32) : Int64 := if c = 0 then (I 77 (4 * p + 2)).toInt64 * MW I n kd b 19 - (MW I n kd b 16 * (I 77 (4 * p)).toInt64 + MW I n kd b 17 * (I 77 (4 * p + 1)).toInt64 + MW I n kd b 18) else (I 77 (4 * p + 3)).toInt64 * MW I n kd b 23 - (MW I n kd b 20 * (I 77 (4 * p)).toInt64 + MW I n kd b 21 * (I 77 (4 * p + 1)).toInt64 + MW I n kd b 22)
abbrev bW (I : hI) (n kd : Nat) (b : Int32) (p : Nat) : Prop := (I 76 8).toInt64 * MW I n kd b 19 < ng64 (offW I n kd b p 0) ∨ (I 76 8).toInt64 * MW I n kd b 23 < ng64 (offW I n kd b p 1)
def fbW (I : hI) (n kd : Nat) (b : Int32) : Int32 := fstI (fun p => bitOn b p ∧ bW I n kd b p) 0 n
theorem fitM_off {I : hI} {J : hJ} {n kd p : Nat} {b c : Int32} (h : FitM I J n kd b) : offM I J p c = offW I n kd b p c := by
  unfold offM offW
  rw [h.1 16 (by decide) (by decide), h.1 17 (by decide) (by decide), h.1 18 (by decide) (by decide), h.1 19 (by decide) (by decide), h.1 20 (by decide) (by decide), h.1 21 (by decide) (by decide), h.1 22 (by decide) (by decide), h.1 23 (by decide) (by decide)]
theorem fitM_fb {I : hI} {J : hJ} {n kd : Nat} {b : Int32} (h : FitM I J n kd b) : fstI (fun p => bitOn b p ∧ bM I J p) 0 n = fbW I n kd b := by
  refine fstI_congr (fun p => ?_) n 0
  unfold bM bW
  rw [fitM_off h, fitM_off h, h.1 19 (by decide) (by decide), h.1 23 (by decide) (by decide)]
set_option maxHeartbeats 1000000 in
set_option maxRecDepth 100000 in
theorem c_X8_bend (l : Launch) (G : hQ) (I : hI) (J : hJ) (k w : Int32) (n : Nat) (hn : I 76 0 = nI n) (h12 : n ≤ 12) (hz : ∀ kd, kd < 3 → okM I n kd (cM I n) → lowOk I n kd (cM I n)) : h_Ml l yX8_bend wsX8_bend 4 100 G [rr G 76, .int k, .int w] I J (fun ρ I' J' => (if isKd k ∧ (0 ≤ w ∧ w ≤ 7) ∧ okM I n (tn k) (cM I n) then M_bend I n (tn k) (cM I n) (tn w) else -4000000000000000000) = ρ ∧ I = I' ∧ ∀ c, c ≠ 76 → J' c = J c) := by
  refine h_Ml.of (cc := cX8_bend) (maxL := 4) [(0, rr G 76), (1, .int k), (2, .int w)] (by decide +kernel) rfl (Nat.le_of_ble_eq_true rfl) rfl ?_
  intro Γ K ret
  have i_X8 : ∀ w ∈ u_ws RX8 TX8 36, w ∈ wsX8_bend := by decide +kernel
  refine x_iload_n (pc := 0) K 1 dX8_bend_0 rfl rfl ?_
  refine x_calliS (pc := 1) (st := []) (n := 1) K (c_X8_isKind l G _ _ _) gX8_bend_X8_isKind (by decide +kernel) rfl (by decide) (by decide) rfl rfl (Nat.le_of_ble_eq_true rfl) dX8_bend_1 (fun r_1 I_1 J_1 hp_1 => ?_)
  obtain ⟨rfl, rfl, rfl⟩ := hp_1
  refine x_if_eq (pc := 4) (tgt := 29) K dX8_bend_4 (by decide) (fun c_4 => ?_) (fun c_4 => ?_)
  · replace c_4 := bz_0.mp c_4
    refine x_ldc2_w (pc := 29) (v := (-4000000000000000000)) K (by decide +kernel) dX8_bend_29 ?_
    exact ret (pc := 32) dX8_bend_32 (⟨if_neg (fun h => c_4 h.1), rfl, fun _ _ => rfl⟩)
  · replace c_4 := bz_n0.mp c_4
    obtain ⟨kd, hkd, rfl⟩ := kd_of c_4
    refine x_iload_n (pc := 7) K 2 dX8_bend_7 rfl rfl ?_
    refine x_iconst (pc := 8) (v := 0) K dX8_bend_8 (by decide) ?_
    refine x_bipush (pc := 9) (v := 7) K dX8_bend_9 (by decide) ?_
    refine x_calliS (pc := 11) (st := []) (n := 3) K (c_X8_in l G _ _ _ _ _) gX8_bend_X8_in (by decide +kernel) rfl (by decide) (by decide) rfl rfl (Nat.le_of_ble_eq_true rfl) dX8_bend_11 (fun r_11 I_11 J_11 hp_11 => ?_)
    obtain ⟨rfl, rfl, rfl⟩ := hp_11
    refine x_if_eq (pc := 14) (tgt := 29) K dX8_bend_14 (by decide) (fun c_14 => ?_) (fun c_14 => ?_)
    · replace c_14 := bz_0.mp c_14
      refine x_ldc2_w (pc := 29) (v := (-4000000000000000000)) K (by decide +kernel) dX8_bend_29 ?_
      exact ret (pc := 32) dX8_bend_32 (⟨if_neg (fun h => c_14 h.2.1), rfl, fun _ _ => rfl⟩)
    · replace c_14 := bz_n0.mp c_14
      obtain ⟨v, hv, rfl⟩ := nI_of2 (M := 7) (n := 7) rfl (Int32.not_lt.mpr c_14.1) c_14.2
      refine x_aload_n (pc := 17) K 0 dX8_bend_17 rfl rfl ?_
      refine x_iload_n (pc := 18) K 1 dX8_bend_18 rfl rfl ?_
      refine x_aload_n (pc := 19) K 0 dX8_bend_19 rfl rfl ?_
      refine x_calliV (pc := 20) (st := [_, _]) (n := 0) K (by decide) sh_76 rfl (c_X8_counting l G _ _ n hn h12) gX8_bend_X8_counting (by decide +kernel) rfl (by decide) (by decide) rfl rfl (Nat.le_of_ble_eq_true rfl) dX8_bend_20 (fun r_20 I_20 J_20 hp_20 => ?_)
      obtain ⟨rfl, rfl, rfl⟩ := hp_20
      refine x_calliV (pc := 23) (st := []) (n := 2) K (by decide) sh_76 rfl (c_X8_fit l G _ _ kd _ (by omega) n hn h12) gX8_bend_X8_fit (by decide +kernel) rfl (by decide) (by decide) rfl rfl (Nat.le_of_ble_eq_true rfl) dX8_bend_23 (fun r_23 I_23 J_23 hp_23 => ?_)
      obtain ⟨rfl, rfl, hJ_23, hW_23⟩ := hp_23
      refine x_if_ne (pc := 26) (tgt := 33) K dX8_bend_26 (by decide) (fun c_26 => ?_) (fun c_26 => ?_)
      · replace c_26 := bz_n0.mp c_26
        have hF := hW_23
        have hL := hz kd (by omega) c_26
        refine x_iload_n (pc := 33) K 2 dX8_bend_33 rfl rfl ?_
        refine x_iconst (pc := 34) (v := 2) K dX8_bend_34 (by decide) ?_
        refine x_irem (pc := 35) K dX8_bend_35 (by decide) ?_
        refine x_topie (nI (v % 2)) (nI_remE rfl rfl (by omega) (by decide)) ?_
        refine x_iconst (pc := 36) (v := 1) K dX8_bend_36 (by decide) ?_
        refine x_icmp_ne (pc := 37) (tgt := 44) K dX8_bend_37 (by decide) (fun c_37 => ?_) (fun c_37 => ?_)
        · replace c_37 := cI_ne (a := (v % 2)) (b := 1) rfl rfl (by omega) (by omega) c_37
          refine x_iconst (pc := 44) (v := 0) K dX8_bend_44 (by decide) ?_
          refine x_istore_n (pc := 45) (lo' := [(3, _), (0, _), (1, _), (2, _)]) K dX8_bend_45 rfl (by decide) rfl ?_
          refine x_iload_n (pc := 46) K 3 dX8_bend_46 rfl rfl ?_
          refine x_iconst (pc := 47) (v := 2) K dX8_bend_47 (by decide) ?_
          refine x_idiv (pc := 48) K dX8_bend_48 (by decide) ?_
          refine x_topie (nI (v / 2)) (nI_div (by omega) (by decide)) ?_
          rcases (show v / 2 = 0 ∨ v / 2 = 1 ∨ v / 2 = 2 ∨ v / 2 = 3 by omega) with hq | hq | hq | hq
          · refine x_topie (nI 0) (by rw [hq]) ?_
            refine x_tableIn (pc := 49) (tgt := 76) (off := 27) K dX8_bend_49 (by decide) (by decide) (by decide) (by decide) ?_
            refine x_aload_n (pc := 76) K 1 dX8_bend_76 rfl rfl ?_
            refine x_getl (pc := 77) (index := 90) (C := RX8) (T := TX8) (N := 36) (j0 := 18) (ref := "OldMapModel") K (by decide) sh_76 rfl i_X8 (by decide) (by decide +kernel) rfl rfl dX8_bend_77 ?_
            refine x_tople (MW I n kd (cM I n) 18) (hF.1 18 (by decide) (by decide)) ?_
            refine x_aload_n (pc := 80) K 1 dX8_bend_80 rfl rfl ?_
            refine x_getl (pc := 81) (index := 93) (C := RX8) (T := TX8) (N := 36) (j0 := 19) (ref := "OldMapModel") K (by decide) sh_76 rfl i_X8 (by decide) (by decide +kernel) rfl rfl dX8_bend_81 ?_
            refine x_tople (MW I n kd (cM I n) 19) (hF.1 19 (by decide) (by decide)) ?_
            refine x_iload_n (pc := 84) K 0 dX8_bend_84 rfl rfl ?_
            refine x_topie (par2 v) (if_neg c_37).symm ?_
            refine x_calllS (pc := 85) (st := []) (n := 3) K (c_X8_told l G _ _ _ _ _ hL.1) gX8_bend_X8_told (by decide +kernel) rfl (by decide) (by decide) rfl rfl (Nat.le_of_ble_eq_true rfl) dX8_bend_85 (fun r_85 I_85 J_85 hp_85 => ?_)
            obtain ⟨rfl, rfl, rfl⟩ := hp_85
            exact ret (pc := 88) dX8_bend_88 (⟨by rw [if_pos ⟨c_4, c_14, (by rw [tn_n (by omega)]; exact c_26)⟩, tn_n (by omega), tn_n (by omega), M_bend, if_pos hq], rfl, hJ_23⟩)
          · refine x_topie (nI 1) (by rw [hq]) ?_
            refine x_tableIn (pc := 49) (tgt := 89) (off := 40) K dX8_bend_49 (by decide) (by decide) (by decide) (by decide) ?_
            refine x_aload_n (pc := 89) K 1 dX8_bend_89 rfl rfl ?_
            refine x_getl (pc := 90) (index := 102) (C := RX8) (T := TX8) (N := 36) (j0 := 22) (ref := "OldMapModel") K (by decide) sh_76 rfl i_X8 (by decide) (by decide +kernel) rfl rfl dX8_bend_90 ?_
            refine x_tople (MW I n kd (cM I n) 22) (hF.1 22 (by decide) (by decide)) ?_
            refine x_aload_n (pc := 93) K 1 dX8_bend_93 rfl rfl ?_
            refine x_getl (pc := 94) (index := 105) (C := RX8) (T := TX8) (N := 36) (j0 := 23) (ref := "OldMapModel") K (by decide) sh_76 rfl i_X8 (by decide) (by decide +kernel) rfl rfl dX8_bend_94 ?_
            refine x_tople (MW I n kd (cM I n) 23) (hF.1 23 (by decide) (by decide)) ?_
            refine x_iload_n (pc := 97) K 0 dX8_bend_97 rfl rfl ?_
            refine x_topie (par2 v) (if_neg c_37).symm ?_
            refine x_calllS (pc := 98) (st := []) (n := 3) K (c_X8_told l G _ _ _ _ _ hL.2.1) gX8_bend_X8_told (by decide +kernel) rfl (by decide) (by decide) rfl rfl (Nat.le_of_ble_eq_true rfl) dX8_bend_98 (fun r_98 I_98 J_98 hp_98 => ?_)
            obtain ⟨rfl, rfl, rfl⟩ := hp_98
            exact ret (pc := 101) dX8_bend_101 (⟨by rw [if_pos ⟨c_4, c_14, (by rw [tn_n (by omega)]; exact c_26)⟩, tn_n (by omega), tn_n (by omega), M_bend, if_neg (by omega), if_pos hq], rfl, hJ_23⟩)
          · refine x_topie (nI 2) (by rw [hq]) ?_
            refine x_tableIn (pc := 49) (tgt := 102) (off := 53) K dX8_bend_49 (by decide) (by decide) (by decide) (by decide) ?_
            refine x_aload_n (pc := 102) K 1 dX8_bend_102 rfl rfl ?_
            refine x_getl (pc := 103) (index := 108) (C := RX8) (T := TX8) (N := 36) (j0 := 24) (ref := "OldMapModel") K (by decide) sh_76 rfl i_X8 (by decide) (by decide +kernel) rfl rfl dX8_bend_103 ?_
            refine x_tople (MW I n kd (cM I n) 24) (hF.1 24 (by decide) (by decide)) ?_
            refine x_aload_n (pc := 106) K 1 dX8_bend_106 rfl rfl ?_
            refine x_getl (pc := 107) (index := 111) (C := RX8) (T := TX8) (N := 36) (j0 := 25) (ref := "OldMapModel") K (by decide) sh_76 rfl i_X8 (by decide) (by decide +kernel) rfl rfl dX8_bend_107 ?_
            refine x_tople (MW I n kd (cM I n) 25) (hF.1 25 (by decide) (by decide)) ?_
            refine x_iload_n (pc := 110) K 0 dX8_bend_110 rfl rfl ?_
            refine x_topie (par2 v) (if_neg c_37).symm ?_
            refine x_calllS (pc := 111) (st := []) (n := 3) K (c_X8_told l G _ _ _ _ _ hL.2.2.1) gX8_bend_X8_told (by decide +kernel) rfl (by decide) (by decide) rfl rfl (Nat.le_of_ble_eq_true rfl) dX8_bend_111 (fun r_111 I_111 J_111 hp_111 => ?_)
            obtain ⟨rfl, rfl, rfl⟩ := hp_111
            exact ret (pc := 114) dX8_bend_114 (⟨by rw [if_pos ⟨c_4, c_14, (by rw [tn_n (by omega)]; exact c_26)⟩, tn_n (by omega), tn_n (by omega), M_bend, if_neg (by omega), if_neg (by omega), if_pos hq], rfl, hJ_23⟩)
          · refine x_topie (nI 3) (by rw [hq]) ?_
            refine x_tableOut (pc := 49) (tgt := 115) K dX8_bend_49 (by decide) (by decide) ?_
            refine x_aload_n (pc := 115) K 1 dX8_bend_115 rfl rfl ?_
            refine x_getl (pc := 116) (index := 114) (C := RX8) (T := TX8) (N := 36) (j0 := 26) (ref := "OldMapModel") K (by decide) sh_76 rfl i_X8 (by decide) (by decide +kernel) rfl rfl dX8_bend_116 ?_
            refine x_tople (MW I n kd (cM I n) 26) (hF.1 26 (by decide) (by decide)) ?_
            refine x_aload_n (pc := 119) K 1 dX8_bend_119 rfl rfl ?_
            refine x_getl (pc := 120) (index := 117) (C := RX8) (T := TX8) (N := 36) (j0 := 27) (ref := "OldMapModel") K (by decide) sh_76 rfl i_X8 (by decide) (by decide +kernel) rfl rfl dX8_bend_120 ?_
            refine x_tople (MW I n kd (cM I n) 27) (hF.1 27 (by decide) (by decide)) ?_
            refine x_iload_n (pc := 123) K 0 dX8_bend_123 rfl rfl ?_
            refine x_topie (par2 v) (if_neg c_37).symm ?_
            refine x_calllS (pc := 124) (st := []) (n := 3) K (c_X8_told l G _ _ _ _ _ hL.2.2.2.1) gX8_bend_X8_told (by decide +kernel) rfl (by decide) (by decide) rfl rfl (Nat.le_of_ble_eq_true rfl) dX8_bend_124 (fun r_124 I_124 J_124 hp_124 => ?_)
            obtain ⟨rfl, rfl, rfl⟩ := hp_124
            exact ret (pc := 127) dX8_bend_127 (⟨by rw [if_pos ⟨c_4, c_14, (by rw [tn_n (by omega)]; exact c_26)⟩, tn_n (by omega), tn_n (by omega), M_bend, if_neg (by omega), if_neg (by omega), if_neg (by omega)], rfl, hJ_23⟩)
        · replace c_37 := cI_eq (a := (v % 2)) (b := 1) rfl rfl (by omega) (by omega) c_37
          refine x_iconst (pc := 40) (v := 1) K dX8_bend_40 (by decide) ?_
          refine x_goto (pc := 41) (tgt := 45) K dX8_bend_41 (by decide) ?_
          refine x_istore_n (pc := 45) (lo' := [(3, _), (0, _), (1, _), (2, _)]) K dX8_bend_45 rfl (by decide) rfl ?_
          refine x_iload_n (pc := 46) K 3 dX8_bend_46 rfl rfl ?_
          refine x_iconst (pc := 47) (v := 2) K dX8_bend_47 (by decide) ?_
          refine x_idiv (pc := 48) K dX8_bend_48 (by decide) ?_
          refine x_topie (nI (v / 2)) (nI_div (by omega) (by decide)) ?_
          rcases (show v / 2 = 0 ∨ v / 2 = 1 ∨ v / 2 = 2 ∨ v / 2 = 3 by omega) with hq | hq | hq | hq
          · refine x_topie (nI 0) (by rw [hq]) ?_
            refine x_tableIn (pc := 49) (tgt := 76) (off := 27) K dX8_bend_49 (by decide) (by decide) (by decide) (by decide) ?_
            refine x_aload_n (pc := 76) K 1 dX8_bend_76 rfl rfl ?_
            refine x_getl (pc := 77) (index := 90) (C := RX8) (T := TX8) (N := 36) (j0 := 18) (ref := "OldMapModel") K (by decide) sh_76 rfl i_X8 (by decide) (by decide +kernel) rfl rfl dX8_bend_77 ?_
            refine x_tople (MW I n kd (cM I n) 18) (hF.1 18 (by decide) (by decide)) ?_
            refine x_aload_n (pc := 80) K 1 dX8_bend_80 rfl rfl ?_
            refine x_getl (pc := 81) (index := 93) (C := RX8) (T := TX8) (N := 36) (j0 := 19) (ref := "OldMapModel") K (by decide) sh_76 rfl i_X8 (by decide) (by decide +kernel) rfl rfl dX8_bend_81 ?_
            refine x_tople (MW I n kd (cM I n) 19) (hF.1 19 (by decide) (by decide)) ?_
            refine x_iload_n (pc := 84) K 0 dX8_bend_84 rfl rfl ?_
            refine x_topie (par2 v) (if_pos c_37).symm ?_
            refine x_calllS (pc := 85) (st := []) (n := 3) K (c_X8_told l G _ _ _ _ _ hL.1) gX8_bend_X8_told (by decide +kernel) rfl (by decide) (by decide) rfl rfl (Nat.le_of_ble_eq_true rfl) dX8_bend_85 (fun r_85 I_85 J_85 hp_85 => ?_)
            obtain ⟨rfl, rfl, rfl⟩ := hp_85
            exact ret (pc := 88) dX8_bend_88 (⟨by rw [if_pos ⟨c_4, c_14, (by rw [tn_n (by omega)]; exact c_26)⟩, tn_n (by omega), tn_n (by omega), M_bend, if_pos hq], rfl, hJ_23⟩)
          · refine x_topie (nI 1) (by rw [hq]) ?_
            refine x_tableIn (pc := 49) (tgt := 89) (off := 40) K dX8_bend_49 (by decide) (by decide) (by decide) (by decide) ?_
            refine x_aload_n (pc := 89) K 1 dX8_bend_89 rfl rfl ?_
            refine x_getl (pc := 90) (index := 102) (C := RX8) (T := TX8) (N := 36) (j0 := 22) (ref := "OldMapModel") K (by decide) sh_76 rfl i_X8 (by decide) (by decide +kernel) rfl rfl dX8_bend_90 ?_
            refine x_tople (MW I n kd (cM I n) 22) (hF.1 22 (by decide) (by decide)) ?_
            refine x_aload_n (pc := 93) K 1 dX8_bend_93 rfl rfl ?_
            refine x_getl (pc := 94) (index := 105) (C := RX8) (T := TX8) (N := 36) (j0 := 23) (ref := "OldMapModel") K (by decide) sh_76 rfl i_X8 (by decide) (by decide +kernel) rfl rfl dX8_bend_94 ?_
            refine x_tople (MW I n kd (cM I n) 23) (hF.1 23 (by decide) (by decide)) ?_
            refine x_iload_n (pc := 97) K 0 dX8_bend_97 rfl rfl ?_
            refine x_topie (par2 v) (if_pos c_37).symm ?_
            refine x_calllS (pc := 98) (st := []) (n := 3) K (c_X8_told l G _ _ _ _ _ hL.2.1) gX8_bend_X8_told (by decide +kernel) rfl (by decide) (by decide) rfl rfl (Nat.le_of_ble_eq_true rfl) dX8_bend_98 (fun r_98 I_98 J_98 hp_98 => ?_)
            obtain ⟨rfl, rfl, rfl⟩ := hp_98
            exact ret (pc := 101) dX8_bend_101 (⟨by rw [if_pos ⟨c_4, c_14, (by rw [tn_n (by omega)]; exact c_26)⟩, tn_n (by omega), tn_n (by omega), M_bend, if_neg (by omega), if_pos hq], rfl, hJ_23⟩)
          · refine x_topie (nI 2) (by rw [hq]) ?_
            refine x_tableIn (pc := 49) (tgt := 102) (off := 53) K dX8_bend_49 (by decide) (by decide) (by decide) (by decide) ?_
            refine x_aload_n (pc := 102) K 1 dX8_bend_102 rfl rfl ?_
            refine x_getl (pc := 103) (index := 108) (C := RX8) (T := TX8) (N := 36) (j0 := 24) (ref := "OldMapModel") K (by decide) sh_76 rfl i_X8 (by decide) (by decide +kernel) rfl rfl dX8_bend_103 ?_
            refine x_tople (MW I n kd (cM I n) 24) (hF.1 24 (by decide) (by decide)) ?_
            refine x_aload_n (pc := 106) K 1 dX8_bend_106 rfl rfl ?_
            refine x_getl (pc := 107) (index := 111) (C := RX8) (T := TX8) (N := 36) (j0 := 25) (ref := "OldMapModel") K (by decide) sh_76 rfl i_X8 (by decide) (by decide +kernel) rfl rfl dX8_bend_107 ?_
            refine x_tople (MW I n kd (cM I n) 25) (hF.1 25 (by decide) (by decide)) ?_
            refine x_iload_n (pc := 110) K 0 dX8_bend_110 rfl rfl ?_
            refine x_topie (par2 v) (if_pos c_37).symm ?_
            refine x_calllS (pc := 111) (st := []) (n := 3) K (c_X8_told l G _ _ _ _ _ hL.2.2.1) gX8_bend_X8_told (by decide +kernel) rfl (by decide) (by decide) rfl rfl (Nat.le_of_ble_eq_true rfl) dX8_bend_111 (fun r_111 I_111 J_111 hp_111 => ?_)
            obtain ⟨rfl, rfl, rfl⟩ := hp_111
            exact ret (pc := 114) dX8_bend_114 (⟨by rw [if_pos ⟨c_4, c_14, (by rw [tn_n (by omega)]; exact c_26)⟩, tn_n (by omega), tn_n (by omega), M_bend, if_neg (by omega), if_neg (by omega), if_pos hq], rfl, hJ_23⟩)
          · refine x_topie (nI 3) (by rw [hq]) ?_
            refine x_tableOut (pc := 49) (tgt := 115) K dX8_bend_49 (by decide) (by decide) ?_
            refine x_aload_n (pc := 115) K 1 dX8_bend_115 rfl rfl ?_
            refine x_getl (pc := 116) (index := 114) (C := RX8) (T := TX8) (N := 36) (j0 := 26) (ref := "OldMapModel") K (by decide) sh_76 rfl i_X8 (by decide) (by decide +kernel) rfl rfl dX8_bend_116 ?_
            refine x_tople (MW I n kd (cM I n) 26) (hF.1 26 (by decide) (by decide)) ?_
            refine x_aload_n (pc := 119) K 1 dX8_bend_119 rfl rfl ?_
            refine x_getl (pc := 120) (index := 117) (C := RX8) (T := TX8) (N := 36) (j0 := 27) (ref := "OldMapModel") K (by decide) sh_76 rfl i_X8 (by decide) (by decide +kernel) rfl rfl dX8_bend_120 ?_
            refine x_tople (MW I n kd (cM I n) 27) (hF.1 27 (by decide) (by decide)) ?_
            refine x_iload_n (pc := 123) K 0 dX8_bend_123 rfl rfl ?_
            refine x_topie (par2 v) (if_pos c_37).symm ?_
            refine x_calllS (pc := 124) (st := []) (n := 3) K (c_X8_told l G _ _ _ _ _ hL.2.2.2.1) gX8_bend_X8_told (by decide +kernel) rfl (by decide) (by decide) rfl rfl (Nat.le_of_ble_eq_true rfl) dX8_bend_124 (fun r_124 I_124 J_124 hp_124 => ?_)
            obtain ⟨rfl, rfl, rfl⟩ := hp_124
            exact ret (pc := 127) dX8_bend_127 (⟨by rw [if_pos ⟨c_4, c_14, (by rw [tn_n (by omega)]; exact c_26)⟩, tn_n (by omega), tn_n (by omega), M_bend, if_neg (by omega), if_neg (by omega), if_neg (by omega)], rfl, hJ_23⟩)
      · replace c_26 := bz_0.mp c_26
        refine x_ldc2_w (pc := 29) (v := (-4000000000000000000)) K (by decide +kernel) dX8_bend_29 ?_
        exact ret (pc := 32) dX8_bend_32 (⟨if_neg (fun h => c_26 (by have q := h.2.2; rw [tn_n (by omega)] at q; exact q)), rfl, hJ_23⟩)

set_option maxHeartbeats 1000000 in
set_option maxRecDepth 100000 in
theorem c_X8_carry (l : Launch) (G : hQ) (I : hI) (J : hJ) (k x y w : Int32) (n : Nat) (hn : I 76 0 = nI n) (h12 : n ≤ 12) (hz : ∀ kd, kd < 3 → okM I n kd (cM I n) → lowOk I n kd (cM I n)) : h_Ml l yX8_carry wsX8_carry 4 100 G [rr G 76, .int k, .int x, .int y, .int w] I J (fun ρ I' J' => (if isKd k ∧ Pl x y ∧ (0 ≤ w ∧ w ≤ 3) ∧ okM I n (tn k) (cM I n) then M_carry I n (tn k) (cM I n) x y (tn w) else -4000000000000000000) = ρ ∧ I = I' ∧ ∀ c, c ≠ 76 → J' c = J c) := by
  refine h_Ml.of (cc := cX8_carry) (maxL := 6) [(0, rr G 76), (1, .int k), (2, .int x), (3, .int y), (4, .int w)] (by decide +kernel) rfl (Nat.le_of_ble_eq_true rfl) rfl ?_
  intro Γ K ret
  have i_X8 : ∀ w ∈ u_ws RX8 TX8 36, w ∈ wsX8_carry := by decide +kernel
  refine x_iload_n (pc := 0) K 1 dX8_carry_0 rfl rfl ?_
  refine x_calliS (pc := 1) (st := []) (n := 1) K (c_X8_isKind l G _ _ _) gX8_carry_X8_isKind (by decide +kernel) rfl (by decide) (by decide) rfl rfl (Nat.le_of_ble_eq_true rfl) dX8_carry_1 (fun r_1 I_1 J_1 hp_1 => ?_)
  obtain ⟨rfl, rfl, rfl⟩ := hp_1
  refine x_if_eq (pc := 4) (tgt := 37) K dX8_carry_4 (by decide) (fun c_4 => ?_) (fun c_4 => ?_)
  · replace c_4 := bz_0.mp c_4
    refine x_ldc2_w (pc := 37) (v := (-4000000000000000000)) K (by decide +kernel) dX8_carry_37 ?_
    exact ret (pc := 40) dX8_carry_40 (⟨if_neg (fun h => c_4 h.1), rfl, fun _ _ => rfl⟩)
  · replace c_4 := bz_n0.mp c_4
    obtain ⟨kd, hkd, rfl⟩ := kd_of c_4
    refine x_iload_n (pc := 7) K 2 dX8_carry_7 rfl rfl ?_
    refine x_iload_n (pc := 8) K 3 dX8_carry_8 rfl rfl ?_
    refine x_calliS (pc := 9) (st := []) (n := 2) K (c_X8_isPlace l G _ _ _ _) gX8_carry_X8_isPlace (by decide +kernel) rfl (by decide) (by decide) rfl rfl (Nat.le_of_ble_eq_true rfl) dX8_carry_9 (fun r_9 I_9 J_9 hp_9 => ?_)
    obtain ⟨rfl, rfl, rfl⟩ := hp_9
    refine x_if_eq (pc := 12) (tgt := 37) K dX8_carry_12 (by decide) (fun c_12 => ?_) (fun c_12 => ?_)
    · replace c_12 := bz_0.mp c_12
      refine x_ldc2_w (pc := 37) (v := (-4000000000000000000)) K (by decide +kernel) dX8_carry_37 ?_
      exact ret (pc := 40) dX8_carry_40 (⟨if_neg (fun h => c_12 h.2.1), rfl, fun _ _ => rfl⟩)
    · replace c_12 := bz_n0.mp c_12
      refine x_iload (pc := 15) K 4 dX8_carry_15 rfl ?_
      refine x_iconst (pc := 17) (v := 0) K dX8_carry_17 (by decide) ?_
      refine x_iconst (pc := 18) (v := 3) K dX8_carry_18 (by decide) ?_
      refine x_calliS (pc := 19) (st := []) (n := 3) K (c_X8_in l G _ _ _ _ _) gX8_carry_X8_in (by decide +kernel) rfl (by decide) (by decide) rfl rfl (Nat.le_of_ble_eq_true rfl) dX8_carry_19 (fun r_19 I_19 J_19 hp_19 => ?_)
      obtain ⟨rfl, rfl, rfl⟩ := hp_19
      refine x_if_eq (pc := 22) (tgt := 37) K dX8_carry_22 (by decide) (fun c_22 => ?_) (fun c_22 => ?_)
      · replace c_22 := bz_0.mp c_22
        refine x_ldc2_w (pc := 37) (v := (-4000000000000000000)) K (by decide +kernel) dX8_carry_37 ?_
        exact ret (pc := 40) dX8_carry_40 (⟨if_neg (fun h => c_22 h.2.2.1), rfl, fun _ _ => rfl⟩)
      · replace c_22 := bz_n0.mp c_22
        obtain ⟨v, hv, rfl⟩ := nI_of2 (M := 3) (n := 3) rfl (Int32.not_lt.mpr c_22.1) c_22.2
        refine x_aload_n (pc := 25) K 0 dX8_carry_25 rfl rfl ?_
        refine x_iload_n (pc := 26) K 1 dX8_carry_26 rfl rfl ?_
        refine x_aload_n (pc := 27) K 0 dX8_carry_27 rfl rfl ?_
        refine x_calliV (pc := 28) (st := [_, _]) (n := 0) K (by decide) sh_76 rfl (c_X8_counting l G _ _ n hn h12) gX8_carry_X8_counting (by decide +kernel) rfl (by decide) (by decide) rfl rfl (Nat.le_of_ble_eq_true rfl) dX8_carry_28 (fun r_28 I_28 J_28 hp_28 => ?_)
        obtain ⟨rfl, rfl, rfl⟩ := hp_28
        refine x_calliV (pc := 31) (st := []) (n := 2) K (by decide) sh_76 rfl (c_X8_fit l G _ _ kd _ (by omega) n hn h12) gX8_carry_X8_fit (by decide +kernel) rfl (by decide) (by decide) rfl rfl (Nat.le_of_ble_eq_true rfl) dX8_carry_31 (fun r_31 I_31 J_31 hp_31 => ?_)
        obtain ⟨rfl, rfl, hJ_31, hW_31⟩ := hp_31
        refine x_if_ne (pc := 34) (tgt := 41) K dX8_carry_34 (by decide) (fun c_34 => ?_) (fun c_34 => ?_)
        · replace c_34 := bz_n0.mp c_34
          have hF := hW_31
          have hL := hz kd (by omega) c_34
          refine x_iload (pc := 41) K 4 dX8_carry_41 rfl ?_
          refine x_iconst (pc := 43) (v := 2) K dX8_carry_43 (by decide) ?_
          refine x_irem (pc := 44) K dX8_carry_44 (by decide) ?_
          refine x_topie (nI (v % 2)) (nI_remE rfl rfl (by omega) (by decide)) ?_
          refine x_iconst (pc := 45) (v := 1) K dX8_carry_45 (by decide) ?_
          refine x_icmp_ne (pc := 46) (tgt := 53) K dX8_carry_46 (by decide) (fun c_46 => ?_) (fun c_46 => ?_)
          · replace c_46 := cI_ne (a := (v % 2)) (b := 1) rfl rfl (by omega) (by omega) c_46
            refine x_iconst (pc := 53) (v := 0) K dX8_carry_53 (by decide) ?_
            refine x_istore (pc := 54) (lo' := [(5, _), (0, _), (1, _), (2, _), (3, _), (4, _)]) K dX8_carry_54 (by decide) rfl ?_
            refine x_iload (pc := 56) K 5 dX8_carry_56 rfl ?_
            refine x_iconst (pc := 58) (v := 2) K dX8_carry_58 (by decide) ?_
            refine x_icmp_ge (pc := 59) (tgt := 94) K dX8_carry_59 (by decide) (fun c_59 => ?_) (fun c_59 => ?_)
            · replace c_59 := cI_le (a := 2) (b := v) rfl rfl (by omega) (by omega) c_59
              refine x_aload_n (pc := 94) K 1 dX8_carry_94 rfl rfl ?_
              refine x_getl (pc := 95) (index := 96) (C := RX8) (T := TX8) (N := 36) (j0 := 20) (ref := "OldMapModel") K (by decide) sh_76 rfl i_X8 (by decide) (by decide +kernel) rfl rfl dX8_carry_95 ?_
              refine x_tople (MW I n kd (cM I n) 20) (hF.1 20 (by decide) (by decide)) ?_
              refine x_iload_n (pc := 98) K 3 dX8_carry_98 rfl rfl ?_
              refine x_i2l (pc := 99) K dX8_carry_99 ?_
              refine x_lmul (pc := 100) K dX8_carry_100 ?_
              refine x_aload_n (pc := 101) K 1 dX8_carry_101 rfl rfl ?_
              refine x_getl (pc := 102) (index := 99) (C := RX8) (T := TX8) (N := 36) (j0 := 21) (ref := "OldMapModel") K (by decide) sh_76 rfl i_X8 (by decide) (by decide +kernel) rfl rfl dX8_carry_102 ?_
              refine x_tople (MW I n kd (cM I n) 21) (hF.1 21 (by decide) (by decide)) ?_
              refine x_iload_n (pc := 105) K 4 dX8_carry_105 rfl rfl ?_
              refine x_i2l (pc := 106) K dX8_carry_106 ?_
              refine x_lmul (pc := 107) K dX8_carry_107 ?_
              refine x_ladd (pc := 108) K dX8_carry_108 ?_
              refine x_aload_n (pc := 109) K 1 dX8_carry_109 rfl rfl ?_
              refine x_getl (pc := 110) (index := 102) (C := RX8) (T := TX8) (N := 36) (j0 := 22) (ref := "OldMapModel") K (by decide) sh_76 rfl i_X8 (by decide) (by decide +kernel) rfl rfl dX8_carry_110 ?_
              refine x_tople (MW I n kd (cM I n) 22) (hF.1 22 (by decide) (by decide)) ?_
              refine x_ladd (pc := 113) K dX8_carry_113 ?_
              refine x_aload_n (pc := 114) K 1 dX8_carry_114 rfl rfl ?_
              refine x_getl (pc := 115) (index := 105) (C := RX8) (T := TX8) (N := 36) (j0 := 23) (ref := "OldMapModel") K (by decide) sh_76 rfl i_X8 (by decide) (by decide +kernel) rfl rfl dX8_carry_115 ?_
              refine x_tople (MW I n kd (cM I n) 23) (hF.1 23 (by decide) (by decide)) ?_
              refine x_iload (pc := 118) K 0 dX8_carry_118 rfl ?_
              refine x_topie (par2 v) (if_neg c_46).symm ?_
              refine x_calllS (pc := 120) (st := []) (n := 3) K (c_X8_told l G _ _ _ _ _ hL.2.1) gX8_carry_X8_told (by decide +kernel) rfl (by decide) (by decide) rfl rfl (Nat.le_of_ble_eq_true rfl) dX8_carry_120 (fun r_120 I_120 J_120 hp_120 => ?_)
              obtain ⟨rfl, rfl, rfl⟩ := hp_120
              exact ret (pc := 123) dX8_carry_123 (⟨by rw [if_pos ⟨c_4, c_12, c_22, (by rw [tn_n (by omega)]; exact c_34)⟩, tn_n (by omega), tn_n (by omega), M_carry, if_neg (by omega)], rfl, hJ_31⟩)
            · replace c_59 := cI_nle (a := 2) (b := v) rfl rfl (by omega) (by omega) c_59
              refine x_aload_n (pc := 62) K 1 dX8_carry_62 rfl rfl ?_
              refine x_getl (pc := 63) (index := 83) (C := RX8) (T := TX8) (N := 36) (j0 := 16) (ref := "OldMapModel") K (by decide) sh_76 rfl i_X8 (by decide) (by decide +kernel) rfl rfl dX8_carry_63 ?_
              refine x_tople (MW I n kd (cM I n) 16) (hF.1 16 (by decide) (by decide)) ?_
              refine x_iload_n (pc := 66) K 3 dX8_carry_66 rfl rfl ?_
              refine x_i2l (pc := 67) K dX8_carry_67 ?_
              refine x_lmul (pc := 68) K dX8_carry_68 ?_
              refine x_aload_n (pc := 69) K 1 dX8_carry_69 rfl rfl ?_
              refine x_getl (pc := 70) (index := 87) (C := RX8) (T := TX8) (N := 36) (j0 := 17) (ref := "OldMapModel") K (by decide) sh_76 rfl i_X8 (by decide) (by decide +kernel) rfl rfl dX8_carry_70 ?_
              refine x_tople (MW I n kd (cM I n) 17) (hF.1 17 (by decide) (by decide)) ?_
              refine x_iload_n (pc := 73) K 4 dX8_carry_73 rfl rfl ?_
              refine x_i2l (pc := 74) K dX8_carry_74 ?_
              refine x_lmul (pc := 75) K dX8_carry_75 ?_
              refine x_ladd (pc := 76) K dX8_carry_76 ?_
              refine x_aload_n (pc := 77) K 1 dX8_carry_77 rfl rfl ?_
              refine x_getl (pc := 78) (index := 90) (C := RX8) (T := TX8) (N := 36) (j0 := 18) (ref := "OldMapModel") K (by decide) sh_76 rfl i_X8 (by decide) (by decide +kernel) rfl rfl dX8_carry_78 ?_
              refine x_tople (MW I n kd (cM I n) 18) (hF.1 18 (by decide) (by decide)) ?_
              refine x_ladd (pc := 81) K dX8_carry_81 ?_
              refine x_aload_n (pc := 82) K 1 dX8_carry_82 rfl rfl ?_
              refine x_getl (pc := 83) (index := 93) (C := RX8) (T := TX8) (N := 36) (j0 := 19) (ref := "OldMapModel") K (by decide) sh_76 rfl i_X8 (by decide) (by decide +kernel) rfl rfl dX8_carry_83 ?_
              refine x_tople (MW I n kd (cM I n) 19) (hF.1 19 (by decide) (by decide)) ?_
              refine x_iload (pc := 86) K 0 dX8_carry_86 rfl ?_
              refine x_topie (par2 v) (if_neg c_46).symm ?_
              refine x_calllS (pc := 88) (st := []) (n := 3) K (c_X8_told l G _ _ _ _ _ hL.1) gX8_carry_X8_told (by decide +kernel) rfl (by decide) (by decide) rfl rfl (Nat.le_of_ble_eq_true rfl) dX8_carry_88 (fun r_88 I_88 J_88 hp_88 => ?_)
              obtain ⟨rfl, rfl, rfl⟩ := hp_88
              refine x_goto (pc := 91) (tgt := 123) K dX8_carry_91 (by decide) ?_
              exact ret (pc := 123) dX8_carry_123 (⟨by rw [if_pos ⟨c_4, c_12, c_22, (by rw [tn_n (by omega)]; exact c_34)⟩, tn_n (by omega), tn_n (by omega), M_carry, if_pos (by omega)], rfl, hJ_31⟩)
          · replace c_46 := cI_eq (a := (v % 2)) (b := 1) rfl rfl (by omega) (by omega) c_46
            refine x_iconst (pc := 49) (v := 1) K dX8_carry_49 (by decide) ?_
            refine x_goto (pc := 50) (tgt := 54) K dX8_carry_50 (by decide) ?_
            refine x_istore (pc := 54) (lo' := [(5, _), (0, _), (1, _), (2, _), (3, _), (4, _)]) K dX8_carry_54 (by decide) rfl ?_
            refine x_iload (pc := 56) K 5 dX8_carry_56 rfl ?_
            refine x_iconst (pc := 58) (v := 2) K dX8_carry_58 (by decide) ?_
            refine x_icmp_ge (pc := 59) (tgt := 94) K dX8_carry_59 (by decide) (fun c_59 => ?_) (fun c_59 => ?_)
            · replace c_59 := cI_le (a := 2) (b := v) rfl rfl (by omega) (by omega) c_59
              refine x_aload_n (pc := 94) K 1 dX8_carry_94 rfl rfl ?_
              refine x_getl (pc := 95) (index := 96) (C := RX8) (T := TX8) (N := 36) (j0 := 20) (ref := "OldMapModel") K (by decide) sh_76 rfl i_X8 (by decide) (by decide +kernel) rfl rfl dX8_carry_95 ?_
              refine x_tople (MW I n kd (cM I n) 20) (hF.1 20 (by decide) (by decide)) ?_
              refine x_iload_n (pc := 98) K 3 dX8_carry_98 rfl rfl ?_
              refine x_i2l (pc := 99) K dX8_carry_99 ?_
              refine x_lmul (pc := 100) K dX8_carry_100 ?_
              refine x_aload_n (pc := 101) K 1 dX8_carry_101 rfl rfl ?_
              refine x_getl (pc := 102) (index := 99) (C := RX8) (T := TX8) (N := 36) (j0 := 21) (ref := "OldMapModel") K (by decide) sh_76 rfl i_X8 (by decide) (by decide +kernel) rfl rfl dX8_carry_102 ?_
              refine x_tople (MW I n kd (cM I n) 21) (hF.1 21 (by decide) (by decide)) ?_
              refine x_iload_n (pc := 105) K 4 dX8_carry_105 rfl rfl ?_
              refine x_i2l (pc := 106) K dX8_carry_106 ?_
              refine x_lmul (pc := 107) K dX8_carry_107 ?_
              refine x_ladd (pc := 108) K dX8_carry_108 ?_
              refine x_aload_n (pc := 109) K 1 dX8_carry_109 rfl rfl ?_
              refine x_getl (pc := 110) (index := 102) (C := RX8) (T := TX8) (N := 36) (j0 := 22) (ref := "OldMapModel") K (by decide) sh_76 rfl i_X8 (by decide) (by decide +kernel) rfl rfl dX8_carry_110 ?_
              refine x_tople (MW I n kd (cM I n) 22) (hF.1 22 (by decide) (by decide)) ?_
              refine x_ladd (pc := 113) K dX8_carry_113 ?_
              refine x_aload_n (pc := 114) K 1 dX8_carry_114 rfl rfl ?_
              refine x_getl (pc := 115) (index := 105) (C := RX8) (T := TX8) (N := 36) (j0 := 23) (ref := "OldMapModel") K (by decide) sh_76 rfl i_X8 (by decide) (by decide +kernel) rfl rfl dX8_carry_115 ?_
              refine x_tople (MW I n kd (cM I n) 23) (hF.1 23 (by decide) (by decide)) ?_
              refine x_iload (pc := 118) K 0 dX8_carry_118 rfl ?_
              refine x_topie (par2 v) (if_pos c_46).symm ?_
              refine x_calllS (pc := 120) (st := []) (n := 3) K (c_X8_told l G _ _ _ _ _ hL.2.1) gX8_carry_X8_told (by decide +kernel) rfl (by decide) (by decide) rfl rfl (Nat.le_of_ble_eq_true rfl) dX8_carry_120 (fun r_120 I_120 J_120 hp_120 => ?_)
              obtain ⟨rfl, rfl, rfl⟩ := hp_120
              exact ret (pc := 123) dX8_carry_123 (⟨by rw [if_pos ⟨c_4, c_12, c_22, (by rw [tn_n (by omega)]; exact c_34)⟩, tn_n (by omega), tn_n (by omega), M_carry, if_neg (by omega)], rfl, hJ_31⟩)
            · replace c_59 := cI_nle (a := 2) (b := v) rfl rfl (by omega) (by omega) c_59
              refine x_aload_n (pc := 62) K 1 dX8_carry_62 rfl rfl ?_
              refine x_getl (pc := 63) (index := 83) (C := RX8) (T := TX8) (N := 36) (j0 := 16) (ref := "OldMapModel") K (by decide) sh_76 rfl i_X8 (by decide) (by decide +kernel) rfl rfl dX8_carry_63 ?_
              refine x_tople (MW I n kd (cM I n) 16) (hF.1 16 (by decide) (by decide)) ?_
              refine x_iload_n (pc := 66) K 3 dX8_carry_66 rfl rfl ?_
              refine x_i2l (pc := 67) K dX8_carry_67 ?_
              refine x_lmul (pc := 68) K dX8_carry_68 ?_
              refine x_aload_n (pc := 69) K 1 dX8_carry_69 rfl rfl ?_
              refine x_getl (pc := 70) (index := 87) (C := RX8) (T := TX8) (N := 36) (j0 := 17) (ref := "OldMapModel") K (by decide) sh_76 rfl i_X8 (by decide) (by decide +kernel) rfl rfl dX8_carry_70 ?_
              refine x_tople (MW I n kd (cM I n) 17) (hF.1 17 (by decide) (by decide)) ?_
              refine x_iload_n (pc := 73) K 4 dX8_carry_73 rfl rfl ?_
              refine x_i2l (pc := 74) K dX8_carry_74 ?_
              refine x_lmul (pc := 75) K dX8_carry_75 ?_
              refine x_ladd (pc := 76) K dX8_carry_76 ?_
              refine x_aload_n (pc := 77) K 1 dX8_carry_77 rfl rfl ?_
              refine x_getl (pc := 78) (index := 90) (C := RX8) (T := TX8) (N := 36) (j0 := 18) (ref := "OldMapModel") K (by decide) sh_76 rfl i_X8 (by decide) (by decide +kernel) rfl rfl dX8_carry_78 ?_
              refine x_tople (MW I n kd (cM I n) 18) (hF.1 18 (by decide) (by decide)) ?_
              refine x_ladd (pc := 81) K dX8_carry_81 ?_
              refine x_aload_n (pc := 82) K 1 dX8_carry_82 rfl rfl ?_
              refine x_getl (pc := 83) (index := 93) (C := RX8) (T := TX8) (N := 36) (j0 := 19) (ref := "OldMapModel") K (by decide) sh_76 rfl i_X8 (by decide) (by decide +kernel) rfl rfl dX8_carry_83 ?_
              refine x_tople (MW I n kd (cM I n) 19) (hF.1 19 (by decide) (by decide)) ?_
              refine x_iload (pc := 86) K 0 dX8_carry_86 rfl ?_
              refine x_topie (par2 v) (if_pos c_46).symm ?_
              refine x_calllS (pc := 88) (st := []) (n := 3) K (c_X8_told l G _ _ _ _ _ hL.1) gX8_carry_X8_told (by decide +kernel) rfl (by decide) (by decide) rfl rfl (Nat.le_of_ble_eq_true rfl) dX8_carry_88 (fun r_88 I_88 J_88 hp_88 => ?_)
              obtain ⟨rfl, rfl, rfl⟩ := hp_88
              refine x_goto (pc := 91) (tgt := 123) K dX8_carry_91 (by decide) ?_
              exact ret (pc := 123) dX8_carry_123 (⟨by rw [if_pos ⟨c_4, c_12, c_22, (by rw [tn_n (by omega)]; exact c_34)⟩, tn_n (by omega), tn_n (by omega), M_carry, if_pos (by omega)], rfl, hJ_31⟩)
        · replace c_34 := bz_0.mp c_34
          refine x_ldc2_w (pc := 37) (v := (-4000000000000000000)) K (by decide +kernel) dX8_carry_37 ?_
          exact ret (pc := 40) dX8_carry_40 (⟨if_neg (fun h => c_34 (by have q := h.2.2.2; rw [tn_n (by omega)] at q; exact q)), rfl, hJ_31⟩)

set_option maxHeartbeats 1000000 in
set_option maxRecDepth 100000 in
theorem c_X8_offOf0 (l : Launch) (G : hQ) (I : hI) (J : hJ) (p : Nat) (hp : p < 12) : h_Ml l yX8_offOf wsX8_offOf 0 0 G [rr G 76, .int (nI p), .int 0] I J (fun ρ I' J' => offM I J p 0 = ρ ∧ I = I' ∧ J = J') := by
  refine h_Ml.of (cc := cX8_offOf) (maxL := 7) [(0, rr G 76), (1, .int (nI p)), (2, .int 0)] (by decide +kernel) rfl (Nat.le_of_ble_eq_true rfl) rfl ?_
  intro Γ K ret
  have i_X8 : ∀ w ∈ u_ws RX8 TX8 36, w ∈ wsX8_offOf := by decide +kernel
  refine x_aload_n (pc := 0) K 0 dX8_offOf_0 rfl rfl ?_
  refine x_getr (r0 := 77) (pc := 1) (index := 7) (C := RX8) (T := TX8) (N := 36) (j0 := 1) (ref := "OldMapModel") K (by decide) sh_76 rfl i_X8 (by decide) (by decide +kernel) rfl rfl rf_76_1 dX8_offOf_1 ?_
  refine x_iconst (pc := 4) (v := 4) K dX8_offOf_4 (by decide) ?_
  refine x_iload_n (pc := 5) K 1 dX8_offOf_5 rfl rfl ?_
  refine x_imul (pc := 6) K dX8_offOf_6 ?_
  refine y_iald (j := (4 * p)) (pc := 7) K (by decide) sh_77 (nI_mulE rfl rfl) (by omega) (by decide) dX8_offOf_7 ?_
  refine x_i2l (pc := 8) K dX8_offOf_8 ?_
  refine x_lstore_n (pc := 9) (lo' := [(3, _), (0, _), (1, _), (2, _)]) K dX8_offOf_9 rfl (by decide) rfl ?_
  refine x_aload_n (pc := 10) K 1 dX8_offOf_10 rfl rfl ?_
  refine x_getr (r0 := 77) (pc := 11) (index := 7) (C := RX8) (T := TX8) (N := 36) (j0 := 1) (ref := "OldMapModel") K (by decide) sh_76 rfl i_X8 (by decide) (by decide +kernel) rfl rfl rf_76_1 dX8_offOf_11 ?_
  refine x_iconst (pc := 14) (v := 4) K dX8_offOf_14 (by decide) ?_
  refine x_iload_n (pc := 15) K 2 dX8_offOf_15 rfl rfl ?_
  refine x_imul (pc := 16) K dX8_offOf_16 ?_
  refine x_iconst (pc := 17) (v := 1) K dX8_offOf_17 (by decide) ?_
  refine x_iadd (pc := 18) K dX8_offOf_18 ?_
  refine y_iald (j := ((4 * p) + 1)) (pc := 19) K (by decide) sh_77 (nI_addE (nI_mulE rfl rfl) rfl) (by omega) (by decide) dX8_offOf_19 ?_
  refine x_i2l (pc := 20) K dX8_offOf_20 ?_
  refine x_lstore (pc := 21) (lo' := [(5, _), (3, _), (0, _), (1, _), (2, _)]) K dX8_offOf_21 (by decide) rfl ?_
  refine x_iload_n (pc := 23) K 4 dX8_offOf_23 rfl rfl ?_
  refine x_if_eq (pc := 24) (tgt := 66) K dX8_offOf_24 (by decide) (fun c_24 => ?_) (fun c_24 => ?_)
  · replace c_24 := cI_eq (a := 0) (b := 0) rfl rfl (by omega) (by omega) c_24
    refine x_aload_n (pc := 66) K 2 dX8_offOf_66 rfl rfl ?_
    refine x_getr (r0 := 77) (pc := 67) (index := 7) (C := RX8) (T := TX8) (N := 36) (j0 := 1) (ref := "OldMapModel") K (by decide) sh_76 rfl i_X8 (by decide) (by decide +kernel) rfl rfl rf_76_1 dX8_offOf_67 ?_
    refine x_iconst (pc := 70) (v := 4) K dX8_offOf_70 (by decide) ?_
    refine x_iload_n (pc := 71) K 3 dX8_offOf_71 rfl rfl ?_
    refine x_imul (pc := 72) K dX8_offOf_72 ?_
    refine x_iconst (pc := 73) (v := 2) K dX8_offOf_73 (by decide) ?_
    refine x_iadd (pc := 74) K dX8_offOf_74 ?_
    refine y_iald (j := ((4 * p) + 2)) (pc := 75) K (by decide) sh_77 (nI_addE (nI_mulE rfl rfl) rfl) (by omega) (by decide) dX8_offOf_75 ?_
    refine x_i2l (pc := 76) K dX8_offOf_76 ?_
    refine x_aload_n (pc := 77) K 2 dX8_offOf_77 rfl rfl ?_
    refine x_getl (pc := 78) (index := 93) (C := RX8) (T := TX8) (N := 36) (j0 := 19) (ref := "OldMapModel") K (by decide) sh_76 rfl i_X8 (by decide) (by decide +kernel) rfl rfl dX8_offOf_78 ?_
    refine x_lmul (pc := 81) K dX8_offOf_81 ?_
    refine x_aload_n (pc := 82) K 2 dX8_offOf_82 rfl rfl ?_
    refine x_getl (pc := 83) (index := 83) (C := RX8) (T := TX8) (N := 36) (j0 := 16) (ref := "OldMapModel") K (by decide) sh_76 rfl i_X8 (by decide) (by decide +kernel) rfl rfl dX8_offOf_83 ?_
    refine x_lload_n (pc := 86) K 1 dX8_offOf_86 rfl rfl ?_
    refine x_lmul (pc := 87) K dX8_offOf_87 ?_
    refine x_aload_n (pc := 88) K 2 dX8_offOf_88 rfl rfl ?_
    refine x_getl (pc := 89) (index := 87) (C := RX8) (T := TX8) (N := 36) (j0 := 17) (ref := "OldMapModel") K (by decide) sh_76 rfl i_X8 (by decide) (by decide +kernel) rfl rfl dX8_offOf_89 ?_
    refine x_lload (pc := 92) K 0 dX8_offOf_92 rfl ?_
    refine x_lmul (pc := 94) K dX8_offOf_94 ?_
    refine x_ladd (pc := 95) K dX8_offOf_95 ?_
    refine x_aload_n (pc := 96) K 2 dX8_offOf_96 rfl rfl ?_
    refine x_getl (pc := 97) (index := 90) (C := RX8) (T := TX8) (N := 36) (j0 := 18) (ref := "OldMapModel") K (by decide) sh_76 rfl i_X8 (by decide) (by decide +kernel) rfl rfl dX8_offOf_97 ?_
    refine x_ladd (pc := 100) K dX8_offOf_100 ?_
    refine x_lsub (pc := 101) K dX8_offOf_101 ?_
    exact ret (pc := 102) dX8_offOf_102 (⟨rfl, rfl, rfl⟩)
  · replace c_24 := cI_ne (a := 0) (b := 0) rfl rfl (by omega) (by omega) c_24
    omega

set_option maxHeartbeats 1000000 in
set_option maxRecDepth 100000 in
theorem c_X8_offOf1 (l : Launch) (G : hQ) (I : hI) (J : hJ) (p : Nat) (hp : p < 12) : h_Ml l yX8_offOf wsX8_offOf 0 0 G [rr G 76, .int (nI p), .int 1] I J (fun ρ I' J' => offM I J p 1 = ρ ∧ I = I' ∧ J = J') := by
  refine h_Ml.of (cc := cX8_offOf) (maxL := 7) [(0, rr G 76), (1, .int (nI p)), (2, .int 1)] (by decide +kernel) rfl (Nat.le_of_ble_eq_true rfl) rfl ?_
  intro Γ K ret
  have i_X8 : ∀ w ∈ u_ws RX8 TX8 36, w ∈ wsX8_offOf := by decide +kernel
  refine x_aload_n (pc := 0) K 0 dX8_offOf_0 rfl rfl ?_
  refine x_getr (r0 := 77) (pc := 1) (index := 7) (C := RX8) (T := TX8) (N := 36) (j0 := 1) (ref := "OldMapModel") K (by decide) sh_76 rfl i_X8 (by decide) (by decide +kernel) rfl rfl rf_76_1 dX8_offOf_1 ?_
  refine x_iconst (pc := 4) (v := 4) K dX8_offOf_4 (by decide) ?_
  refine x_iload_n (pc := 5) K 1 dX8_offOf_5 rfl rfl ?_
  refine x_imul (pc := 6) K dX8_offOf_6 ?_
  refine y_iald (j := (4 * p)) (pc := 7) K (by decide) sh_77 (nI_mulE rfl rfl) (by omega) (by decide) dX8_offOf_7 ?_
  refine x_i2l (pc := 8) K dX8_offOf_8 ?_
  refine x_lstore_n (pc := 9) (lo' := [(3, _), (0, _), (1, _), (2, _)]) K dX8_offOf_9 rfl (by decide) rfl ?_
  refine x_aload_n (pc := 10) K 1 dX8_offOf_10 rfl rfl ?_
  refine x_getr (r0 := 77) (pc := 11) (index := 7) (C := RX8) (T := TX8) (N := 36) (j0 := 1) (ref := "OldMapModel") K (by decide) sh_76 rfl i_X8 (by decide) (by decide +kernel) rfl rfl rf_76_1 dX8_offOf_11 ?_
  refine x_iconst (pc := 14) (v := 4) K dX8_offOf_14 (by decide) ?_
  refine x_iload_n (pc := 15) K 2 dX8_offOf_15 rfl rfl ?_
  refine x_imul (pc := 16) K dX8_offOf_16 ?_
  refine x_iconst (pc := 17) (v := 1) K dX8_offOf_17 (by decide) ?_
  refine x_iadd (pc := 18) K dX8_offOf_18 ?_
  refine y_iald (j := ((4 * p) + 1)) (pc := 19) K (by decide) sh_77 (nI_addE (nI_mulE rfl rfl) rfl) (by omega) (by decide) dX8_offOf_19 ?_
  refine x_i2l (pc := 20) K dX8_offOf_20 ?_
  refine x_lstore (pc := 21) (lo' := [(5, _), (3, _), (0, _), (1, _), (2, _)]) K dX8_offOf_21 (by decide) rfl ?_
  refine x_iload_n (pc := 23) K 4 dX8_offOf_23 rfl rfl ?_
  refine x_if_eq (pc := 24) (tgt := 66) K dX8_offOf_24 (by decide) (fun c_24 => ?_) (fun c_24 => ?_)
  · replace c_24 := cI_eq (a := 1) (b := 0) rfl rfl (by omega) (by omega) c_24
    omega
  · replace c_24 := cI_ne (a := 1) (b := 0) rfl rfl (by omega) (by omega) c_24
    refine x_aload_n (pc := 27) K 2 dX8_offOf_27 rfl rfl ?_
    refine x_getr (r0 := 77) (pc := 28) (index := 7) (C := RX8) (T := TX8) (N := 36) (j0 := 1) (ref := "OldMapModel") K (by decide) sh_76 rfl i_X8 (by decide) (by decide +kernel) rfl rfl rf_76_1 dX8_offOf_28 ?_
    refine x_iconst (pc := 31) (v := 4) K dX8_offOf_31 (by decide) ?_
    refine x_iload_n (pc := 32) K 3 dX8_offOf_32 rfl rfl ?_
    refine x_imul (pc := 33) K dX8_offOf_33 ?_
    refine x_iconst (pc := 34) (v := 3) K dX8_offOf_34 (by decide) ?_
    refine x_iadd (pc := 35) K dX8_offOf_35 ?_
    refine y_iald (j := ((4 * p) + 3)) (pc := 36) K (by decide) sh_77 (nI_addE (nI_mulE rfl rfl) rfl) (by omega) (by decide) dX8_offOf_36 ?_
    refine x_i2l (pc := 37) K dX8_offOf_37 ?_
    refine x_aload_n (pc := 38) K 2 dX8_offOf_38 rfl rfl ?_
    refine x_getl (pc := 39) (index := 105) (C := RX8) (T := TX8) (N := 36) (j0 := 23) (ref := "OldMapModel") K (by decide) sh_76 rfl i_X8 (by decide) (by decide +kernel) rfl rfl dX8_offOf_39 ?_
    refine x_lmul (pc := 42) K dX8_offOf_42 ?_
    refine x_aload_n (pc := 43) K 2 dX8_offOf_43 rfl rfl ?_
    refine x_getl (pc := 44) (index := 96) (C := RX8) (T := TX8) (N := 36) (j0 := 20) (ref := "OldMapModel") K (by decide) sh_76 rfl i_X8 (by decide) (by decide +kernel) rfl rfl dX8_offOf_44 ?_
    refine x_lload_n (pc := 47) K 1 dX8_offOf_47 rfl rfl ?_
    refine x_lmul (pc := 48) K dX8_offOf_48 ?_
    refine x_aload_n (pc := 49) K 2 dX8_offOf_49 rfl rfl ?_
    refine x_getl (pc := 50) (index := 99) (C := RX8) (T := TX8) (N := 36) (j0 := 21) (ref := "OldMapModel") K (by decide) sh_76 rfl i_X8 (by decide) (by decide +kernel) rfl rfl dX8_offOf_50 ?_
    refine x_lload (pc := 53) K 0 dX8_offOf_53 rfl ?_
    refine x_lmul (pc := 55) K dX8_offOf_55 ?_
    refine x_ladd (pc := 56) K dX8_offOf_56 ?_
    refine x_aload_n (pc := 57) K 2 dX8_offOf_57 rfl rfl ?_
    refine x_getl (pc := 58) (index := 102) (C := RX8) (T := TX8) (N := 36) (j0 := 22) (ref := "OldMapModel") K (by decide) sh_76 rfl i_X8 (by decide) (by decide +kernel) rfl rfl dX8_offOf_58 ?_
    refine x_ladd (pc := 61) K dX8_offOf_61 ?_
    refine x_lsub (pc := 62) K dX8_offOf_62 ?_
    refine x_goto (pc := 63) (tgt := 102) K dX8_offOf_63 (by decide) ?_
    exact ret (pc := 102) dX8_offOf_102 (⟨rfl, rfl, rfl⟩)

set_option maxHeartbeats 1000000 in
set_option maxRecDepth 100000 in
theorem c_X8_off (l : Launch) (G : hQ) (I : hI) (J : hJ) (k p w : Int32) (n : Nat) (hn : I 76 0 = nI n) (h12 : n ≤ 12) (hz : ∀ kd, kd < 3 → okM I n kd (cM I n) → lowOk I n kd (cM I n)) : h_Ml l yX8_off wsX8_off 4 100 G [rr G 76, .int k, .int p, .int w] I J (fun ρ I' J' => (if (0 ≤ p ∧ p < I 76 0) ∧ isKd k ∧ (0 ≤ w ∧ w ≤ 3) ∧ okM I n (tn k) (cM I n) then (if tn w < 2 then toldM (offW I n (tn k) (cM I n) (tn p) 0) (MW I n (tn k) (cM I n) 19) (par2 (tn w)) else toldM (offW I n (tn k) (cM I n) (tn p) 1) (MW I n (tn k) (cM I n) 23) (par2 (tn w))) else -4000000000000000000) = ρ ∧ I = I' ∧ ∀ c, c ≠ 76 → J' c = J c) := by
  refine h_Ml.of (cc := cX8_off) (maxL := 4) [(0, rr G 76), (1, .int k), (2, .int p), (3, .int w)] (by decide +kernel) rfl (Nat.le_of_ble_eq_true rfl) rfl ?_
  intro Γ K ret
  have i_X8 : ∀ w ∈ u_ws RX8 TX8 36, w ∈ wsX8_off := by decide +kernel
  refine x_aload_n (pc := 0) K 0 dX8_off_0 rfl rfl ?_
  refine x_iload_n (pc := 1) K 2 dX8_off_1 rfl rfl ?_
  refine x_calliV (pc := 2) (st := []) (n := 1) K (by decide) sh_76 rfl (c_X8_isPoint l G _ _ _ n hn h12) gX8_off_X8_isPoint (by decide +kernel) rfl (by decide) (by decide) rfl rfl (Nat.le_of_ble_eq_true rfl) dX8_off_2 (fun r_2 I_2 J_2 hp_2 => ?_)
  obtain ⟨rfl, rfl, rfl⟩ := hp_2
  refine x_if_eq (pc := 5) (tgt := 36) K dX8_off_5 (by decide) (fun c_5 => ?_) (fun c_5 => ?_)
  · replace c_5 := bz_0.mp c_5
    refine x_ldc2_w (pc := 36) (v := (-4000000000000000000)) K (by decide +kernel) dX8_off_36 ?_
    exact ret (pc := 39) dX8_off_39 (⟨if_neg (fun h => c_5 h.1), rfl, fun _ _ => rfl⟩)
  · replace c_5 := bz_n0.mp c_5
    obtain ⟨q, hq, rfl⟩ := has_of c_5 hn (by omega)
    refine x_iload_n (pc := 8) K 1 dX8_off_8 rfl rfl ?_
    refine x_calliS (pc := 9) (st := []) (n := 1) K (c_X8_isKind l G _ _ _) gX8_off_X8_isKind (by decide +kernel) rfl (by decide) (by decide) rfl rfl (Nat.le_of_ble_eq_true rfl) dX8_off_9 (fun r_9 I_9 J_9 hp_9 => ?_)
    obtain ⟨rfl, rfl, rfl⟩ := hp_9
    refine x_if_eq (pc := 12) (tgt := 36) K dX8_off_12 (by decide) (fun c_12 => ?_) (fun c_12 => ?_)
    · replace c_12 := bz_0.mp c_12
      refine x_ldc2_w (pc := 36) (v := (-4000000000000000000)) K (by decide +kernel) dX8_off_36 ?_
      exact ret (pc := 39) dX8_off_39 (⟨if_neg (fun h => c_12 h.2.1), rfl, fun _ _ => rfl⟩)
    · replace c_12 := bz_n0.mp c_12
      obtain ⟨kd, hkd, rfl⟩ := kd_of c_12
      refine x_iload_n (pc := 15) K 3 dX8_off_15 rfl rfl ?_
      refine x_iconst (pc := 16) (v := 0) K dX8_off_16 (by decide) ?_
      refine x_iconst (pc := 17) (v := 3) K dX8_off_17 (by decide) ?_
      refine x_calliS (pc := 18) (st := []) (n := 3) K (c_X8_in l G _ _ _ _ _) gX8_off_X8_in (by decide +kernel) rfl (by decide) (by decide) rfl rfl (Nat.le_of_ble_eq_true rfl) dX8_off_18 (fun r_18 I_18 J_18 hp_18 => ?_)
      obtain ⟨rfl, rfl, rfl⟩ := hp_18
      refine x_if_eq (pc := 21) (tgt := 36) K dX8_off_21 (by decide) (fun c_21 => ?_) (fun c_21 => ?_)
      · replace c_21 := bz_0.mp c_21
        refine x_ldc2_w (pc := 36) (v := (-4000000000000000000)) K (by decide +kernel) dX8_off_36 ?_
        exact ret (pc := 39) dX8_off_39 (⟨if_neg (fun h => c_21 h.2.2.1), rfl, fun _ _ => rfl⟩)
      · replace c_21 := bz_n0.mp c_21
        obtain ⟨v, hv, rfl⟩ := nI_of2 (M := 3) (n := 3) rfl (Int32.not_lt.mpr c_21.1) c_21.2
        refine x_aload_n (pc := 24) K 0 dX8_off_24 rfl rfl ?_
        refine x_iload_n (pc := 25) K 1 dX8_off_25 rfl rfl ?_
        refine x_aload_n (pc := 26) K 0 dX8_off_26 rfl rfl ?_
        refine x_calliV (pc := 27) (st := [_, _]) (n := 0) K (by decide) sh_76 rfl (c_X8_counting l G _ _ n hn h12) gX8_off_X8_counting (by decide +kernel) rfl (by decide) (by decide) rfl rfl (Nat.le_of_ble_eq_true rfl) dX8_off_27 (fun r_27 I_27 J_27 hp_27 => ?_)
        obtain ⟨rfl, rfl, rfl⟩ := hp_27
        refine x_calliV (pc := 30) (st := []) (n := 2) K (by decide) sh_76 rfl (c_X8_fit l G _ _ kd _ (by omega) n hn h12) gX8_off_X8_fit (by decide +kernel) rfl (by decide) (by decide) rfl rfl (Nat.le_of_ble_eq_true rfl) dX8_off_30 (fun r_30 I_30 J_30 hp_30 => ?_)
        obtain ⟨rfl, rfl, hJ_30, hW_30⟩ := hp_30
        refine x_if_ne (pc := 33) (tgt := 40) K dX8_off_33 (by decide) (fun c_33 => ?_) (fun c_33 => ?_)
        · replace c_33 := bz_n0.mp c_33
          have hF := hW_30
          have hL := hz kd (by omega) c_33
          refine x_aload_n (pc := 40) K 0 dX8_off_40 rfl rfl ?_
          refine x_iload_n (pc := 41) K 2 dX8_off_41 rfl rfl ?_
          refine x_iload_n (pc := 42) K 3 dX8_off_42 rfl rfl ?_
          refine x_iconst (pc := 43) (v := 1) K dX8_off_43 (by decide) ?_
          refine x_icmp_le (pc := 44) (tgt := 51) K dX8_off_44 (by decide) (fun c_44 => ?_) (fun c_44 => ?_)
          · replace c_44 := cI_le (a := v) (b := 1) rfl rfl (by omega) (by omega) c_44
            refine x_iconst (pc := 51) (v := 0) K dX8_off_51 (by decide) ?_
            refine x_calllV (pc := 52) (st := []) (n := 2) K (by decide) sh_76 rfl (c_X8_offOf0 l G _ _ q (by omega)) gX8_off_X8_offOf (by decide +kernel) rfl (by decide) (by decide) rfl rfl (Nat.le_of_ble_eq_true rfl) dX8_off_52 (fun r_52 I_52 J_52 hp_52 => ?_)
            obtain ⟨rfl, rfl, rfl⟩ := hp_52
            refine x_tople _ (fitM_off hF) ?_
            refine x_iload_n (pc := 55) K 3 dX8_off_55 rfl rfl ?_
            refine x_iconst (pc := 56) (v := 1) K dX8_off_56 (by decide) ?_
            refine x_icmp_le (pc := 57) (tgt := 67) K dX8_off_57 (by decide) (fun c_57 => ?_) (fun c_57 => ?_)
            · replace c_57 := cI_le (a := v) (b := 1) rfl rfl (by omega) (by omega) c_57
              refine x_aload_n (pc := 67) K 0 dX8_off_67 rfl rfl ?_
              refine x_getl (pc := 68) (index := 93) (C := RX8) (T := TX8) (N := 36) (j0 := 19) (ref := "OldMapModel") K (by decide) sh_76 rfl i_X8 (by decide) (by decide +kernel) rfl rfl dX8_off_68 ?_
              refine x_tople (MW I n kd (cM I n) 19) (hF.1 19 (by decide) (by decide)) ?_
              refine x_iload_n (pc := 71) K 3 dX8_off_71 rfl rfl ?_
              refine x_iconst (pc := 72) (v := 2) K dX8_off_72 (by decide) ?_
              refine x_irem (pc := 73) K dX8_off_73 (by decide) ?_
              refine x_topie (nI (v % 2)) (nI_remE rfl rfl (by omega) (by decide)) ?_
              refine x_iconst (pc := 74) (v := 1) K dX8_off_74 (by decide) ?_
              refine x_icmp_ne (pc := 75) (tgt := 82) K dX8_off_75 (by decide) (fun c_75 => ?_) (fun c_75 => ?_)
              · replace c_75 := cI_ne (a := (v % 2)) (b := 1) rfl rfl (by omega) (by omega) c_75
                refine x_iconst (pc := 82) (v := 0) K dX8_off_82 (by decide) ?_
                refine x_topie (par2 v) (if_neg c_75).symm ?_
                refine x_calllS (pc := 83) (st := []) (n := 3) K (c_X8_told l G _ _ _ _ _ hL.1) gX8_off_X8_told (by decide +kernel) rfl (by decide) (by decide) rfl rfl (Nat.le_of_ble_eq_true rfl) dX8_off_83 (fun r_83 I_83 J_83 hp_83 => ?_)
                obtain ⟨rfl, rfl, rfl⟩ := hp_83
                exact ret (pc := 86) dX8_off_86 (⟨by rw [if_pos ⟨c_5, c_12, c_21, (by rw [tn_n (by omega)]; exact c_33)⟩, tn_n (by omega), tn_n (by omega), tn_n (by omega), if_pos (by omega)], rfl, hJ_30⟩)
              · replace c_75 := cI_eq (a := (v % 2)) (b := 1) rfl rfl (by omega) (by omega) c_75
                refine x_iconst (pc := 78) (v := 1) K dX8_off_78 (by decide) ?_
                refine x_goto (pc := 79) (tgt := 83) K dX8_off_79 (by decide) ?_
                refine x_topie (par2 v) (if_pos c_75).symm ?_
                refine x_calllS (pc := 83) (st := []) (n := 3) K (c_X8_told l G _ _ _ _ _ hL.1) gX8_off_X8_told (by decide +kernel) rfl (by decide) (by decide) rfl rfl (Nat.le_of_ble_eq_true rfl) dX8_off_83 (fun r_83 I_83 J_83 hp_83 => ?_)
                obtain ⟨rfl, rfl, rfl⟩ := hp_83
                exact ret (pc := 86) dX8_off_86 (⟨by rw [if_pos ⟨c_5, c_12, c_21, (by rw [tn_n (by omega)]; exact c_33)⟩, tn_n (by omega), tn_n (by omega), tn_n (by omega), if_pos (by omega)], rfl, hJ_30⟩)
            · replace c_57 := cI_nle (a := v) (b := 1) rfl rfl (by omega) (by omega) c_57
              refine x_aload_n (pc := 60) K 0 dX8_off_60 rfl rfl ?_
              refine x_getl (pc := 61) (index := 105) (C := RX8) (T := TX8) (N := 36) (j0 := 23) (ref := "OldMapModel") K (by decide) sh_76 rfl i_X8 (by decide) (by decide +kernel) rfl rfl dX8_off_61 ?_
              refine x_tople (MW I n kd (cM I n) 23) (hF.1 23 (by decide) (by decide)) ?_
              refine x_goto (pc := 64) (tgt := 71) K dX8_off_64 (by decide) ?_
              refine x_iload_n (pc := 71) K 3 dX8_off_71 rfl rfl ?_
              refine x_iconst (pc := 72) (v := 2) K dX8_off_72 (by decide) ?_
              refine x_irem (pc := 73) K dX8_off_73 (by decide) ?_
              refine x_topie (nI (v % 2)) (nI_remE rfl rfl (by omega) (by decide)) ?_
              refine x_iconst (pc := 74) (v := 1) K dX8_off_74 (by decide) ?_
              refine x_icmp_ne (pc := 75) (tgt := 82) K dX8_off_75 (by decide) (fun c_75 => ?_) (fun c_75 => ?_)
              · replace c_75 := cI_ne (a := (v % 2)) (b := 1) rfl rfl (by omega) (by omega) c_75
                refine x_iconst (pc := 82) (v := 0) K dX8_off_82 (by decide) ?_
                refine x_topie (par2 v) (if_neg c_75).symm ?_
                refine x_calllS (pc := 83) (st := []) (n := 3) K (c_X8_told l G _ _ _ _ _ hL.2.1) gX8_off_X8_told (by decide +kernel) rfl (by decide) (by decide) rfl rfl (Nat.le_of_ble_eq_true rfl) dX8_off_83 (fun r_83 I_83 J_83 hp_83 => ?_)
                obtain ⟨rfl, rfl, rfl⟩ := hp_83
                exact ret (pc := 86) dX8_off_86 (by exfalso; omega)
              · replace c_75 := cI_eq (a := (v % 2)) (b := 1) rfl rfl (by omega) (by omega) c_75
                refine x_iconst (pc := 78) (v := 1) K dX8_off_78 (by decide) ?_
                refine x_goto (pc := 79) (tgt := 83) K dX8_off_79 (by decide) ?_
                refine x_topie (par2 v) (if_pos c_75).symm ?_
                refine x_calllS (pc := 83) (st := []) (n := 3) K (c_X8_told l G _ _ _ _ _ hL.2.1) gX8_off_X8_told (by decide +kernel) rfl (by decide) (by decide) rfl rfl (Nat.le_of_ble_eq_true rfl) dX8_off_83 (fun r_83 I_83 J_83 hp_83 => ?_)
                obtain ⟨rfl, rfl, rfl⟩ := hp_83
                exact ret (pc := 86) dX8_off_86 (by exfalso; omega)
          · replace c_44 := cI_nle (a := v) (b := 1) rfl rfl (by omega) (by omega) c_44
            refine x_iconst (pc := 47) (v := 1) K dX8_off_47 (by decide) ?_
            refine x_goto (pc := 48) (tgt := 52) K dX8_off_48 (by decide) ?_
            refine x_calllV (pc := 52) (st := []) (n := 2) K (by decide) sh_76 rfl (c_X8_offOf1 l G _ _ q (by omega)) gX8_off_X8_offOf (by decide +kernel) rfl (by decide) (by decide) rfl rfl (Nat.le_of_ble_eq_true rfl) dX8_off_52 (fun r_52 I_52 J_52 hp_52 => ?_)
            obtain ⟨rfl, rfl, rfl⟩ := hp_52
            refine x_tople _ (fitM_off hF) ?_
            refine x_iload_n (pc := 55) K 3 dX8_off_55 rfl rfl ?_
            refine x_iconst (pc := 56) (v := 1) K dX8_off_56 (by decide) ?_
            refine x_icmp_le (pc := 57) (tgt := 67) K dX8_off_57 (by decide) (fun c_57 => ?_) (fun c_57 => ?_)
            · replace c_57 := cI_le (a := v) (b := 1) rfl rfl (by omega) (by omega) c_57
              refine x_aload_n (pc := 67) K 0 dX8_off_67 rfl rfl ?_
              refine x_getl (pc := 68) (index := 93) (C := RX8) (T := TX8) (N := 36) (j0 := 19) (ref := "OldMapModel") K (by decide) sh_76 rfl i_X8 (by decide) (by decide +kernel) rfl rfl dX8_off_68 ?_
              refine x_tople (MW I n kd (cM I n) 19) (hF.1 19 (by decide) (by decide)) ?_
              refine x_iload_n (pc := 71) K 3 dX8_off_71 rfl rfl ?_
              refine x_iconst (pc := 72) (v := 2) K dX8_off_72 (by decide) ?_
              refine x_irem (pc := 73) K dX8_off_73 (by decide) ?_
              refine x_topie (nI (v % 2)) (nI_remE rfl rfl (by omega) (by decide)) ?_
              refine x_iconst (pc := 74) (v := 1) K dX8_off_74 (by decide) ?_
              refine x_icmp_ne (pc := 75) (tgt := 82) K dX8_off_75 (by decide) (fun c_75 => ?_) (fun c_75 => ?_)
              · replace c_75 := cI_ne (a := (v % 2)) (b := 1) rfl rfl (by omega) (by omega) c_75
                refine x_iconst (pc := 82) (v := 0) K dX8_off_82 (by decide) ?_
                refine x_topie (par2 v) (if_neg c_75).symm ?_
                refine x_calllS (pc := 83) (st := []) (n := 3) K (c_X8_told l G _ _ _ _ _ hL.1) gX8_off_X8_told (by decide +kernel) rfl (by decide) (by decide) rfl rfl (Nat.le_of_ble_eq_true rfl) dX8_off_83 (fun r_83 I_83 J_83 hp_83 => ?_)
                obtain ⟨rfl, rfl, rfl⟩ := hp_83
                exact ret (pc := 86) dX8_off_86 (by exfalso; omega)
              · replace c_75 := cI_eq (a := (v % 2)) (b := 1) rfl rfl (by omega) (by omega) c_75
                refine x_iconst (pc := 78) (v := 1) K dX8_off_78 (by decide) ?_
                refine x_goto (pc := 79) (tgt := 83) K dX8_off_79 (by decide) ?_
                refine x_topie (par2 v) (if_pos c_75).symm ?_
                refine x_calllS (pc := 83) (st := []) (n := 3) K (c_X8_told l G _ _ _ _ _ hL.1) gX8_off_X8_told (by decide +kernel) rfl (by decide) (by decide) rfl rfl (Nat.le_of_ble_eq_true rfl) dX8_off_83 (fun r_83 I_83 J_83 hp_83 => ?_)
                obtain ⟨rfl, rfl, rfl⟩ := hp_83
                exact ret (pc := 86) dX8_off_86 (by exfalso; omega)
            · replace c_57 := cI_nle (a := v) (b := 1) rfl rfl (by omega) (by omega) c_57
              refine x_aload_n (pc := 60) K 0 dX8_off_60 rfl rfl ?_
              refine x_getl (pc := 61) (index := 105) (C := RX8) (T := TX8) (N := 36) (j0 := 23) (ref := "OldMapModel") K (by decide) sh_76 rfl i_X8 (by decide) (by decide +kernel) rfl rfl dX8_off_61 ?_
              refine x_tople (MW I n kd (cM I n) 23) (hF.1 23 (by decide) (by decide)) ?_
              refine x_goto (pc := 64) (tgt := 71) K dX8_off_64 (by decide) ?_
              refine x_iload_n (pc := 71) K 3 dX8_off_71 rfl rfl ?_
              refine x_iconst (pc := 72) (v := 2) K dX8_off_72 (by decide) ?_
              refine x_irem (pc := 73) K dX8_off_73 (by decide) ?_
              refine x_topie (nI (v % 2)) (nI_remE rfl rfl (by omega) (by decide)) ?_
              refine x_iconst (pc := 74) (v := 1) K dX8_off_74 (by decide) ?_
              refine x_icmp_ne (pc := 75) (tgt := 82) K dX8_off_75 (by decide) (fun c_75 => ?_) (fun c_75 => ?_)
              · replace c_75 := cI_ne (a := (v % 2)) (b := 1) rfl rfl (by omega) (by omega) c_75
                refine x_iconst (pc := 82) (v := 0) K dX8_off_82 (by decide) ?_
                refine x_topie (par2 v) (if_neg c_75).symm ?_
                refine x_calllS (pc := 83) (st := []) (n := 3) K (c_X8_told l G _ _ _ _ _ hL.2.1) gX8_off_X8_told (by decide +kernel) rfl (by decide) (by decide) rfl rfl (Nat.le_of_ble_eq_true rfl) dX8_off_83 (fun r_83 I_83 J_83 hp_83 => ?_)
                obtain ⟨rfl, rfl, rfl⟩ := hp_83
                exact ret (pc := 86) dX8_off_86 (⟨by rw [if_pos ⟨c_5, c_12, c_21, (by rw [tn_n (by omega)]; exact c_33)⟩, tn_n (by omega), tn_n (by omega), tn_n (by omega), if_neg (by omega)], rfl, hJ_30⟩)
              · replace c_75 := cI_eq (a := (v % 2)) (b := 1) rfl rfl (by omega) (by omega) c_75
                refine x_iconst (pc := 78) (v := 1) K dX8_off_78 (by decide) ?_
                refine x_goto (pc := 79) (tgt := 83) K dX8_off_79 (by decide) ?_
                refine x_topie (par2 v) (if_pos c_75).symm ?_
                refine x_calllS (pc := 83) (st := []) (n := 3) K (c_X8_told l G _ _ _ _ _ hL.2.1) gX8_off_X8_told (by decide +kernel) rfl (by decide) (by decide) rfl rfl (Nat.le_of_ble_eq_true rfl) dX8_off_83 (fun r_83 I_83 J_83 hp_83 => ?_)
                obtain ⟨rfl, rfl, rfl⟩ := hp_83
                exact ret (pc := 86) dX8_off_86 (⟨by rw [if_pos ⟨c_5, c_12, c_21, (by rw [tn_n (by omega)]; exact c_33)⟩, tn_n (by omega), tn_n (by omega), tn_n (by omega), if_neg (by omega)], rfl, hJ_30⟩)
        · replace c_33 := bz_0.mp c_33
          refine x_ldc2_w (pc := 36) (v := (-4000000000000000000)) K (by decide +kernel) dX8_off_36 ?_
          exact ret (pc := 39) dX8_off_39 (⟨if_neg (fun h => c_33 (by have q := h.2.2.2; rw [tn_n (by omega)] at q; exact q)), rfl, hJ_30⟩)

set_option maxHeartbeats 1000000 in
set_option maxRecDepth 100000 in
theorem c_X8_miss (l : Launch) (G : hQ) (I : hI) (J : hJ) (k w : Int32) (n : Nat) (hn : I 76 0 = nI n) (h12 : n ≤ 12) (hz : ∀ kd, kd < 3 → okM I n kd (cM I n) → lowOk I n kd (cM I n)) : h_Ml l yX8_miss wsX8_miss 4 100 G [rr G 76, .int k, .int w] I J (fun ρ I' J' => (if isKd k ∧ (0 ≤ w ∧ w ≤ (if k = 2 then 3 else 1)) ∧ okM I n (tn k) (cM I n) then (if tn w < 2 then toldM (MW I n (tn k) (cM I n) 28) (MW I n (tn k) (cM I n) 29) (par2 (tn w)) else toldM (MW I n (tn k) (cM I n) 30) (MW I n (tn k) (cM I n) 31) (par2 (tn w))) else -4000000000000000000) = ρ ∧ I = I' ∧ ∀ c, c ≠ 76 → J' c = J c) := by
  refine h_Ml.of (cc := cX8_miss) (maxL := 3) [(0, rr G 76), (1, .int k), (2, .int w)] (by decide +kernel) rfl (Nat.le_of_ble_eq_true rfl) rfl ?_
  intro Γ K ret
  have i_X8 : ∀ w ∈ u_ws RX8 TX8 36, w ∈ wsX8_miss := by decide +kernel
  refine x_iload_n (pc := 0) K 1 dX8_miss_0 rfl rfl ?_
  refine x_calliS (pc := 1) (st := []) (n := 1) K (c_X8_isKind l G _ _ _) gX8_miss_X8_isKind (by decide +kernel) rfl (by decide) (by decide) rfl rfl (Nat.le_of_ble_eq_true rfl) dX8_miss_1 (fun r_1 I_1 J_1 hp_1 => ?_)
  obtain ⟨rfl, rfl, rfl⟩ := hp_1
  refine x_if_eq (pc := 4) (tgt := 37) K dX8_miss_4 (by decide) (fun c_4 => ?_) (fun c_4 => ?_)
  · replace c_4 := bz_0.mp c_4
    refine x_ldc2_w (pc := 37) (v := (-4000000000000000000)) K (by decide +kernel) dX8_miss_37 ?_
    exact ret (pc := 40) dX8_miss_40 (⟨if_neg (fun h => c_4 h.1), rfl, fun _ _ => rfl⟩)
  · replace c_4 := bz_n0.mp c_4
    obtain ⟨kd, hkd, rfl⟩ := kd_of c_4
    refine x_iload_n (pc := 7) K 2 dX8_miss_7 rfl rfl ?_
    refine x_iconst (pc := 8) (v := 0) K dX8_miss_8 (by decide) ?_
    refine x_iload_n (pc := 9) K 1 dX8_miss_9 rfl rfl ?_
    refine x_iconst (pc := 10) (v := 2) K dX8_miss_10 (by decide) ?_
    refine x_icmp_ne (pc := 11) (tgt := 18) K dX8_miss_11 (by decide) (fun c_11 => ?_) (fun c_11 => ?_)
    · replace c_11 := cI_ne (a := kd) (b := 2) rfl rfl (by omega) (by omega) c_11
      refine x_iconst (pc := 18) (v := 1) K dX8_miss_18 (by decide) ?_
      refine x_calliS (pc := 19) (st := []) (n := 3) K (c_X8_in l G _ _ _ _ _) gX8_miss_X8_in (by decide +kernel) rfl (by decide) (by decide) rfl rfl (Nat.le_of_ble_eq_true rfl) dX8_miss_19 (fun r_19 I_19 J_19 hp_19 => ?_)
      obtain ⟨rfl, rfl, rfl⟩ := hp_19
      refine x_if_eq (pc := 22) (tgt := 37) K dX8_miss_22 (by decide) (fun c_22 => ?_) (fun c_22 => ?_)
      · replace c_22 := bz_0.mp c_22
        refine x_ldc2_w (pc := 37) (v := (-4000000000000000000)) K (by decide +kernel) dX8_miss_37 ?_
        exact ret (pc := 40) dX8_miss_40 (⟨if_neg (fun h => c_22 (by have q := h.2.1; rw [if_neg (fun e : nI kd = 2 => c_11 (cI_eq (y := 2) rfl rfl (by omega) (by omega) e))] at q; exact q)), rfl, fun _ _ => rfl⟩)
      · replace c_22 := bz_n0.mp c_22
        obtain ⟨v, hv, rfl⟩ := nI_of2 (M := 1) (n := 1) rfl (Int32.not_lt.mpr c_22.1) c_22.2
        refine x_aload_n (pc := 25) K 0 dX8_miss_25 rfl rfl ?_
        refine x_iload_n (pc := 26) K 1 dX8_miss_26 rfl rfl ?_
        refine x_aload_n (pc := 27) K 0 dX8_miss_27 rfl rfl ?_
        refine x_calliV (pc := 28) (st := [_, _]) (n := 0) K (by decide) sh_76 rfl (c_X8_counting l G _ _ n hn h12) gX8_miss_X8_counting (by decide +kernel) rfl (by decide) (by decide) rfl rfl (Nat.le_of_ble_eq_true rfl) dX8_miss_28 (fun r_28 I_28 J_28 hp_28 => ?_)
        obtain ⟨rfl, rfl, rfl⟩ := hp_28
        refine x_calliV (pc := 31) (st := []) (n := 2) K (by decide) sh_76 rfl (c_X8_fit l G _ _ kd _ (by omega) n hn h12) gX8_miss_X8_fit (by decide +kernel) rfl (by decide) (by decide) rfl rfl (Nat.le_of_ble_eq_true rfl) dX8_miss_31 (fun r_31 I_31 J_31 hp_31 => ?_)
        obtain ⟨rfl, rfl, hJ_31, hW_31⟩ := hp_31
        refine x_if_ne (pc := 34) (tgt := 41) K dX8_miss_34 (by decide) (fun c_34 => ?_) (fun c_34 => ?_)
        · replace c_34 := bz_n0.mp c_34
          have hF := hW_31
          have hL := hz kd (by omega) c_34
          have hk2 := c_11
          refine x_iload_n (pc := 41) K 2 dX8_miss_41 rfl rfl ?_
          refine x_iconst (pc := 42) (v := 2) K dX8_miss_42 (by decide) ?_
          refine x_icmp_ge (pc := 43) (tgt := 70) K dX8_miss_43 (by decide) (fun c_43 => ?_) (fun c_43 => ?_)
          · replace c_43 := cI_le (a := 2) (b := v) rfl rfl (by omega) (by omega) c_43
            exfalso; omega
          · replace c_43 := cI_nle (a := 2) (b := v) rfl rfl (by omega) (by omega) c_43
            refine x_aload_n (pc := 46) K 0 dX8_miss_46 rfl rfl ?_
            refine x_getl (pc := 47) (index := 125) (C := RX8) (T := TX8) (N := 36) (j0 := 28) (ref := "OldMapModel") K (by decide) sh_76 rfl i_X8 (by decide) (by decide +kernel) rfl rfl dX8_miss_47 ?_
            refine x_tople (MW I n kd (cM I n) 28) (hF.1 28 (by decide) (by decide)) ?_
            refine x_aload_n (pc := 50) K 0 dX8_miss_50 rfl rfl ?_
            refine x_getl (pc := 51) (index := 128) (C := RX8) (T := TX8) (N := 36) (j0 := 29) (ref := "OldMapModel") K (by decide) sh_76 rfl i_X8 (by decide) (by decide +kernel) rfl rfl dX8_miss_51 ?_
            refine x_tople (MW I n kd (cM I n) 29) (hF.1 29 (by decide) (by decide)) ?_
            refine x_iload_n (pc := 54) K 2 dX8_miss_54 rfl rfl ?_
            refine x_iconst (pc := 55) (v := 1) K dX8_miss_55 (by decide) ?_
            refine x_icmp_ne (pc := 56) (tgt := 63) K dX8_miss_56 (by decide) (fun c_56 => ?_) (fun c_56 => ?_)
            · replace c_56 := cI_ne (a := v) (b := 1) rfl rfl (by omega) (by omega) c_56
              refine x_iconst (pc := 63) (v := 0) K dX8_miss_63 (by decide) ?_
              refine x_topie (par2 v) (by rw [par2, if_neg (by omega)]) ?_
              refine x_calllS (pc := 64) (st := []) (n := 3) K (c_X8_told l G _ _ _ _ _ hL.2.2.2.2.1) gX8_miss_X8_told (by decide +kernel) rfl (by decide) (by decide) rfl rfl (Nat.le_of_ble_eq_true rfl) dX8_miss_64 (fun r_64 I_64 J_64 hp_64 => ?_)
              obtain ⟨rfl, rfl, rfl⟩ := hp_64
              refine x_goto (pc := 67) (tgt := 91) K dX8_miss_67 (by decide) ?_
              exact ret (pc := 91) dX8_miss_91 (⟨by rw [if_pos ⟨c_4, by rw [if_neg (fun e : nI kd = 2 => c_11 (cI_eq (y := 2) rfl rfl (by omega) (by omega) e))]; exact c_22, (by rw [tn_n (by omega)]; exact c_34)⟩, tn_n (by omega), tn_n (by omega), if_pos (by omega)], rfl, hJ_31⟩)
            · replace c_56 := cI_eq (a := v) (b := 1) rfl rfl (by omega) (by omega) c_56
              refine x_iconst (pc := 59) (v := 1) K dX8_miss_59 (by decide) ?_
              refine x_goto (pc := 60) (tgt := 64) K dX8_miss_60 (by decide) ?_
              refine x_topie (par2 v) (by rw [par2, if_pos (by omega)]) ?_
              refine x_calllS (pc := 64) (st := []) (n := 3) K (c_X8_told l G _ _ _ _ _ hL.2.2.2.2.1) gX8_miss_X8_told (by decide +kernel) rfl (by decide) (by decide) rfl rfl (Nat.le_of_ble_eq_true rfl) dX8_miss_64 (fun r_64 I_64 J_64 hp_64 => ?_)
              obtain ⟨rfl, rfl, rfl⟩ := hp_64
              refine x_goto (pc := 67) (tgt := 91) K dX8_miss_67 (by decide) ?_
              exact ret (pc := 91) dX8_miss_91 (⟨by rw [if_pos ⟨c_4, by rw [if_neg (fun e : nI kd = 2 => c_11 (cI_eq (y := 2) rfl rfl (by omega) (by omega) e))]; exact c_22, (by rw [tn_n (by omega)]; exact c_34)⟩, tn_n (by omega), tn_n (by omega), if_pos (by omega)], rfl, hJ_31⟩)
        · replace c_34 := bz_0.mp c_34
          refine x_ldc2_w (pc := 37) (v := (-4000000000000000000)) K (by decide +kernel) dX8_miss_37 ?_
          exact ret (pc := 40) dX8_miss_40 (⟨if_neg (fun h => c_34 (by have q := h.2.2; rw [tn_n (by omega)] at q; exact q)), rfl, hJ_31⟩)
    · replace c_11 := cI_eq (a := kd) (b := 2) rfl rfl (by omega) (by omega) c_11
      refine x_iconst (pc := 14) (v := 3) K dX8_miss_14 (by decide) ?_
      refine x_goto (pc := 15) (tgt := 19) K dX8_miss_15 (by decide) ?_
      refine x_calliS (pc := 19) (st := []) (n := 3) K (c_X8_in l G _ _ _ _ _) gX8_miss_X8_in (by decide +kernel) rfl (by decide) (by decide) rfl rfl (Nat.le_of_ble_eq_true rfl) dX8_miss_19 (fun r_19 I_19 J_19 hp_19 => ?_)
      obtain ⟨rfl, rfl, rfl⟩ := hp_19
      refine x_if_eq (pc := 22) (tgt := 37) K dX8_miss_22 (by decide) (fun c_22 => ?_) (fun c_22 => ?_)
      · replace c_22 := bz_0.mp c_22
        refine x_ldc2_w (pc := 37) (v := (-4000000000000000000)) K (by decide +kernel) dX8_miss_37 ?_
        exact ret (pc := 40) dX8_miss_40 (⟨if_neg (fun h => c_22 (by have q := h.2.1; rw [if_pos (show nI kd = 2 by rw [c_11]; rfl)] at q; exact q)), rfl, fun _ _ => rfl⟩)
      · replace c_22 := bz_n0.mp c_22
        obtain ⟨v, hv, rfl⟩ := nI_of2 (M := 3) (n := 3) rfl (Int32.not_lt.mpr c_22.1) c_22.2
        refine x_aload_n (pc := 25) K 0 dX8_miss_25 rfl rfl ?_
        refine x_iload_n (pc := 26) K 1 dX8_miss_26 rfl rfl ?_
        refine x_aload_n (pc := 27) K 0 dX8_miss_27 rfl rfl ?_
        refine x_calliV (pc := 28) (st := [_, _]) (n := 0) K (by decide) sh_76 rfl (c_X8_counting l G _ _ n hn h12) gX8_miss_X8_counting (by decide +kernel) rfl (by decide) (by decide) rfl rfl (Nat.le_of_ble_eq_true rfl) dX8_miss_28 (fun r_28 I_28 J_28 hp_28 => ?_)
        obtain ⟨rfl, rfl, rfl⟩ := hp_28
        refine x_calliV (pc := 31) (st := []) (n := 2) K (by decide) sh_76 rfl (c_X8_fit l G _ _ kd _ (by omega) n hn h12) gX8_miss_X8_fit (by decide +kernel) rfl (by decide) (by decide) rfl rfl (Nat.le_of_ble_eq_true rfl) dX8_miss_31 (fun r_31 I_31 J_31 hp_31 => ?_)
        obtain ⟨rfl, rfl, hJ_31, hW_31⟩ := hp_31
        refine x_if_ne (pc := 34) (tgt := 41) K dX8_miss_34 (by decide) (fun c_34 => ?_) (fun c_34 => ?_)
        · replace c_34 := bz_n0.mp c_34
          have hF := hW_31
          have hL := hz kd (by omega) c_34
          have hk2 := c_11
          refine x_iload_n (pc := 41) K 2 dX8_miss_41 rfl rfl ?_
          refine x_iconst (pc := 42) (v := 2) K dX8_miss_42 (by decide) ?_
          refine x_icmp_ge (pc := 43) (tgt := 70) K dX8_miss_43 (by decide) (fun c_43 => ?_) (fun c_43 => ?_)
          · replace c_43 := cI_le (a := 2) (b := v) rfl rfl (by omega) (by omega) c_43
            refine x_aload_n (pc := 70) K 0 dX8_miss_70 rfl rfl ?_
            refine x_getl (pc := 71) (index := 131) (C := RX8) (T := TX8) (N := 36) (j0 := 30) (ref := "OldMapModel") K (by decide) sh_76 rfl i_X8 (by decide) (by decide +kernel) rfl rfl dX8_miss_71 ?_
            refine x_tople (MW I n kd (cM I n) 30) (hF.2 hk2 30 (by decide) (by decide)) ?_
            refine x_aload_n (pc := 74) K 0 dX8_miss_74 rfl rfl ?_
            refine x_getl (pc := 75) (index := 134) (C := RX8) (T := TX8) (N := 36) (j0 := 31) (ref := "OldMapModel") K (by decide) sh_76 rfl i_X8 (by decide) (by decide +kernel) rfl rfl dX8_miss_75 ?_
            refine x_tople (MW I n kd (cM I n) 31) (hF.2 hk2 31 (by decide) (by decide)) ?_
            refine x_iload_n (pc := 78) K 2 dX8_miss_78 rfl rfl ?_
            refine x_iconst (pc := 79) (v := 3) K dX8_miss_79 (by decide) ?_
            refine x_icmp_ne (pc := 80) (tgt := 87) K dX8_miss_80 (by decide) (fun c_80 => ?_) (fun c_80 => ?_)
            · replace c_80 := cI_ne (a := v) (b := 3) rfl rfl (by omega) (by omega) c_80
              refine x_iconst (pc := 87) (v := 0) K dX8_miss_87 (by decide) ?_
              refine x_topie (par2 v) (by rw [par2, if_neg (by omega)]) ?_
              refine x_calllS (pc := 88) (st := []) (n := 3) K (c_X8_told l G _ _ _ _ _ (hL.2.2.2.2.2 hk2)) gX8_miss_X8_told (by decide +kernel) rfl (by decide) (by decide) rfl rfl (Nat.le_of_ble_eq_true rfl) dX8_miss_88 (fun r_88 I_88 J_88 hp_88 => ?_)
              obtain ⟨rfl, rfl, rfl⟩ := hp_88
              exact ret (pc := 91) dX8_miss_91 (⟨by rw [if_pos ⟨c_4, by rw [if_pos (show nI kd = 2 by rw [c_11]; rfl)]; exact c_22, (by rw [tn_n (by omega)]; exact c_34)⟩, tn_n (by omega), tn_n (by omega), if_neg (by omega)], rfl, hJ_31⟩)
            · replace c_80 := cI_eq (a := v) (b := 3) rfl rfl (by omega) (by omega) c_80
              refine x_iconst (pc := 83) (v := 1) K dX8_miss_83 (by decide) ?_
              refine x_goto (pc := 84) (tgt := 88) K dX8_miss_84 (by decide) ?_
              refine x_topie (par2 v) (by rw [par2, if_pos (by omega)]) ?_
              refine x_calllS (pc := 88) (st := []) (n := 3) K (c_X8_told l G _ _ _ _ _ (hL.2.2.2.2.2 hk2)) gX8_miss_X8_told (by decide +kernel) rfl (by decide) (by decide) rfl rfl (Nat.le_of_ble_eq_true rfl) dX8_miss_88 (fun r_88 I_88 J_88 hp_88 => ?_)
              obtain ⟨rfl, rfl, rfl⟩ := hp_88
              exact ret (pc := 91) dX8_miss_91 (⟨by rw [if_pos ⟨c_4, by rw [if_pos (show nI kd = 2 by rw [c_11]; rfl)]; exact c_22, (by rw [tn_n (by omega)]; exact c_34)⟩, tn_n (by omega), tn_n (by omega), if_neg (by omega)], rfl, hJ_31⟩)
          · replace c_43 := cI_nle (a := 2) (b := v) rfl rfl (by omega) (by omega) c_43
            refine x_aload_n (pc := 46) K 0 dX8_miss_46 rfl rfl ?_
            refine x_getl (pc := 47) (index := 125) (C := RX8) (T := TX8) (N := 36) (j0 := 28) (ref := "OldMapModel") K (by decide) sh_76 rfl i_X8 (by decide) (by decide +kernel) rfl rfl dX8_miss_47 ?_
            refine x_tople (MW I n kd (cM I n) 28) (hF.1 28 (by decide) (by decide)) ?_
            refine x_aload_n (pc := 50) K 0 dX8_miss_50 rfl rfl ?_
            refine x_getl (pc := 51) (index := 128) (C := RX8) (T := TX8) (N := 36) (j0 := 29) (ref := "OldMapModel") K (by decide) sh_76 rfl i_X8 (by decide) (by decide +kernel) rfl rfl dX8_miss_51 ?_
            refine x_tople (MW I n kd (cM I n) 29) (hF.1 29 (by decide) (by decide)) ?_
            refine x_iload_n (pc := 54) K 2 dX8_miss_54 rfl rfl ?_
            refine x_iconst (pc := 55) (v := 1) K dX8_miss_55 (by decide) ?_
            refine x_icmp_ne (pc := 56) (tgt := 63) K dX8_miss_56 (by decide) (fun c_56 => ?_) (fun c_56 => ?_)
            · replace c_56 := cI_ne (a := v) (b := 1) rfl rfl (by omega) (by omega) c_56
              refine x_iconst (pc := 63) (v := 0) K dX8_miss_63 (by decide) ?_
              refine x_topie (par2 v) (by rw [par2, if_neg (by omega)]) ?_
              refine x_calllS (pc := 64) (st := []) (n := 3) K (c_X8_told l G _ _ _ _ _ hL.2.2.2.2.1) gX8_miss_X8_told (by decide +kernel) rfl (by decide) (by decide) rfl rfl (Nat.le_of_ble_eq_true rfl) dX8_miss_64 (fun r_64 I_64 J_64 hp_64 => ?_)
              obtain ⟨rfl, rfl, rfl⟩ := hp_64
              refine x_goto (pc := 67) (tgt := 91) K dX8_miss_67 (by decide) ?_
              exact ret (pc := 91) dX8_miss_91 (⟨by rw [if_pos ⟨c_4, by rw [if_pos (show nI kd = 2 by rw [c_11]; rfl)]; exact c_22, (by rw [tn_n (by omega)]; exact c_34)⟩, tn_n (by omega), tn_n (by omega), if_pos (by omega)], rfl, hJ_31⟩)
            · replace c_56 := cI_eq (a := v) (b := 1) rfl rfl (by omega) (by omega) c_56
              refine x_iconst (pc := 59) (v := 1) K dX8_miss_59 (by decide) ?_
              refine x_goto (pc := 60) (tgt := 64) K dX8_miss_60 (by decide) ?_
              refine x_topie (par2 v) (by rw [par2, if_pos (by omega)]) ?_
              refine x_calllS (pc := 64) (st := []) (n := 3) K (c_X8_told l G _ _ _ _ _ hL.2.2.2.2.1) gX8_miss_X8_told (by decide +kernel) rfl (by decide) (by decide) rfl rfl (Nat.le_of_ble_eq_true rfl) dX8_miss_64 (fun r_64 I_64 J_64 hp_64 => ?_)
              obtain ⟨rfl, rfl, rfl⟩ := hp_64
              refine x_goto (pc := 67) (tgt := 91) K dX8_miss_67 (by decide) ?_
              exact ret (pc := 91) dX8_miss_91 (⟨by rw [if_pos ⟨c_4, by rw [if_pos (show nI kd = 2 by rw [c_11]; rfl)]; exact c_22, (by rw [tn_n (by omega)]; exact c_34)⟩, tn_n (by omega), tn_n (by omega), if_pos (by omega)], rfl, hJ_31⟩)
        · replace c_34 := bz_0.mp c_34
          refine x_ldc2_w (pc := 37) (v := (-4000000000000000000)) K (by decide +kernel) dX8_miss_37 ?_
          exact ret (pc := 40) dX8_miss_40 (⟨if_neg (fun h => c_34 (by have q := h.2.2; rw [tn_n (by omega)] at q; exact q)), rfl, hJ_31⟩)

set_option maxHeartbeats 1000000 in
set_option maxRecDepth 100000 in
theorem c_X8_isBeyond (l : Launch) (G : hQ) (I : hI) (J : hJ) (p : Nat) (hp : p < 12) : h_Mi l yX8_isBeyond wsX8_isBeyond 1 26 G [rr G 76, .int (nI p)] I J (fun ρ I' J' => bz (bM I J p) = ρ ∧ I = I' ∧ J = J') := by
  refine h_Mi.of (ty := .boolean) (cc := cX8_isBeyond) (maxL := 6) [(0, rr G 76), (1, .int (nI p))] (by decide +kernel) rfl (Nat.le_of_ble_eq_true rfl) rfl ?_
  intro Γ K ret
  have i_X8 : ∀ w ∈ u_ws RX8 TX8 36, w ∈ wsX8_isBeyond := by decide +kernel
  refine x_aload_n (pc := 0) K 0 dX8_isBeyond_0 rfl rfl ?_
  refine x_iload_n (pc := 1) K 1 dX8_isBeyond_1 rfl rfl ?_
  refine x_iconst (pc := 2) (v := 0) K dX8_isBeyond_2 (by decide) ?_
  refine x_calllV (pc := 3) (st := []) (n := 2) K (by decide) sh_76 rfl (c_X8_offOf0 l G _ _ p (by omega)) gX8_isBeyond_X8_offOf (by decide +kernel) rfl (by decide) (by decide) rfl rfl (Nat.le_of_ble_eq_true rfl) dX8_isBeyond_3 (fun r_3 I_3 J_3 hp_3 => ?_)
  obtain ⟨rfl, rfl, rfl⟩ := hp_3
  refine x_lstore_n (pc := 6) (lo' := [(2, _), (0, _), (1, _)]) K dX8_isBeyond_6 rfl (by decide) rfl ?_
  refine x_aload_n (pc := 7) K 1 dX8_isBeyond_7 rfl rfl ?_
  refine x_iload_n (pc := 8) K 2 dX8_isBeyond_8 rfl rfl ?_
  refine x_iconst (pc := 9) (v := 1) K dX8_isBeyond_9 (by decide) ?_
  refine x_calllV (pc := 10) (st := []) (n := 2) K (by decide) sh_76 rfl (c_X8_offOf1 l G _ _ p (by omega)) gX8_isBeyond_X8_offOf (by decide +kernel) rfl (by decide) (by decide) rfl rfl (Nat.le_of_ble_eq_true rfl) dX8_isBeyond_10 (fun r_10 I_10 J_10 hp_10 => ?_)
  obtain ⟨rfl, rfl, rfl⟩ := hp_10
  refine x_lstore (pc := 13) (lo' := [(4, _), (2, _), (0, _), (1, _)]) K dX8_isBeyond_13 (by decide) rfl ?_
  refine x_lload_n (pc := 15) K 1 dX8_isBeyond_15 rfl rfl ?_
  refine x_lconst (pc := 16) (v := 0) K dX8_isBeyond_16 (by decide) ?_
  refine x_lcmp (pc := 17) K dX8_isBeyond_17 ?_
  refine x_if_ge (pc := 18) (tgt := 26) K dX8_isBeyond_18 (by decide) (fun c_18 => ?_) (fun c_18 => ?_)
  · replace c_18 := (lg_cmp_ge _ _).mp c_18
    refine x_lload_n (pc := 26) K 1 dX8_isBeyond_26 rfl rfl ?_
    refine x_tople (ng64 (offM I J p 0)) (by rw [ng64, if_pos c_18]) ?_
    refine x_aload_n (pc := 27) K 2 dX8_isBeyond_27 rfl rfl ?_
    refine x_geti (pc := 28) (index := 29) (C := RX8) (T := TX8) (N := 36) (j0 := 8) (ref := "OldMapModel") K (by decide) sh_76 rfl i_X8 (by decide) (by decide +kernel) rfl rfl dX8_isBeyond_28 ?_
    refine x_i2l (pc := 31) K dX8_isBeyond_31 ?_
    refine x_aload_n (pc := 32) K 2 dX8_isBeyond_32 rfl rfl ?_
    refine x_getl (pc := 33) (index := 93) (C := RX8) (T := TX8) (N := 36) (j0 := 19) (ref := "OldMapModel") K (by decide) sh_76 rfl i_X8 (by decide) (by decide +kernel) rfl rfl dX8_isBeyond_33 ?_
    refine x_lmul (pc := 36) K dX8_isBeyond_36 ?_
    refine x_lcmp (pc := 37) K dX8_isBeyond_37 ?_
    refine x_if_gt (pc := 38) (tgt := 70) K dX8_isBeyond_38 (by decide) (fun c_38 => ?_) (fun c_38 => ?_)
    · replace c_38 := (lg_cmp_gt _ _).mp c_38
      refine x_iconst (pc := 70) (v := 1) K dX8_isBeyond_70 (by decide) ?_
      refine x_goto (pc := 71) (tgt := 75) K dX8_isBeyond_71 (by decide) ?_
      exact ret (pc := 75) dX8_isBeyond_75 (⟨bz_1.mpr (Or.inl c_38), rfl, rfl⟩) rfl
    · replace c_38 := mt (lg_cmp_gt _ _).mpr c_38
      refine x_lload (pc := 41) K 0 dX8_isBeyond_41 rfl ?_
      refine x_lconst (pc := 43) (v := 0) K dX8_isBeyond_43 (by decide) ?_
      refine x_lcmp (pc := 44) K dX8_isBeyond_44 ?_
      refine x_if_ge (pc := 45) (tgt := 54) K dX8_isBeyond_45 (by decide) (fun c_45 => ?_) (fun c_45 => ?_)
      · replace c_45 := (lg_cmp_ge _ _).mp c_45
        refine x_lload (pc := 54) K 0 dX8_isBeyond_54 rfl ?_
        refine x_tople (ng64 (offM I J p 1)) (by rw [ng64, if_pos c_45]) ?_
        refine x_aload_n (pc := 56) K 2 dX8_isBeyond_56 rfl rfl ?_
        refine x_geti (pc := 57) (index := 29) (C := RX8) (T := TX8) (N := 36) (j0 := 8) (ref := "OldMapModel") K (by decide) sh_76 rfl i_X8 (by decide) (by decide +kernel) rfl rfl dX8_isBeyond_57 ?_
        refine x_i2l (pc := 60) K dX8_isBeyond_60 ?_
        refine x_aload_n (pc := 61) K 2 dX8_isBeyond_61 rfl rfl ?_
        refine x_getl (pc := 62) (index := 105) (C := RX8) (T := TX8) (N := 36) (j0 := 23) (ref := "OldMapModel") K (by decide) sh_76 rfl i_X8 (by decide) (by decide +kernel) rfl rfl dX8_isBeyond_62 ?_
        refine x_lmul (pc := 65) K dX8_isBeyond_65 ?_
        refine x_lcmp (pc := 66) K dX8_isBeyond_66 ?_
        refine x_if_le (pc := 67) (tgt := 74) K dX8_isBeyond_67 (by decide) (fun c_67 => ?_) (fun c_67 => ?_)
        · replace c_67 := (lg_cmp_le _ _).mp c_67
          refine x_iconst (pc := 74) (v := 0) K dX8_isBeyond_74 (by decide) ?_
          exact ret (pc := 75) dX8_isBeyond_75 (⟨bz_0.mpr (not_or.mpr ⟨c_38, Int64.not_lt.mpr c_67⟩), rfl, rfl⟩) rfl
        · replace c_67 := mt (lg_cmp_le _ _).mpr c_67
          refine x_iconst (pc := 70) (v := 1) K dX8_isBeyond_70 (by decide) ?_
          refine x_goto (pc := 71) (tgt := 75) K dX8_isBeyond_71 (by decide) ?_
          exact ret (pc := 75) dX8_isBeyond_75 (⟨bz_1.mpr (Or.inr (Int64.not_le.mp c_67)), rfl, rfl⟩) rfl
      · replace c_45 := mt (lg_cmp_ge _ _).mpr c_45
        refine x_lload (pc := 48) K 0 dX8_isBeyond_48 rfl ?_
        refine x_lneg (pc := 50) K dX8_isBeyond_50 ?_
        refine x_goto (pc := 51) (tgt := 56) K dX8_isBeyond_51 (by decide) ?_
        refine x_tople (ng64 (offM I J p 1)) (by rw [ng64, if_neg c_45]) ?_
        refine x_aload_n (pc := 56) K 2 dX8_isBeyond_56 rfl rfl ?_
        refine x_geti (pc := 57) (index := 29) (C := RX8) (T := TX8) (N := 36) (j0 := 8) (ref := "OldMapModel") K (by decide) sh_76 rfl i_X8 (by decide) (by decide +kernel) rfl rfl dX8_isBeyond_57 ?_
        refine x_i2l (pc := 60) K dX8_isBeyond_60 ?_
        refine x_aload_n (pc := 61) K 2 dX8_isBeyond_61 rfl rfl ?_
        refine x_getl (pc := 62) (index := 105) (C := RX8) (T := TX8) (N := 36) (j0 := 23) (ref := "OldMapModel") K (by decide) sh_76 rfl i_X8 (by decide) (by decide +kernel) rfl rfl dX8_isBeyond_62 ?_
        refine x_lmul (pc := 65) K dX8_isBeyond_65 ?_
        refine x_lcmp (pc := 66) K dX8_isBeyond_66 ?_
        refine x_if_le (pc := 67) (tgt := 74) K dX8_isBeyond_67 (by decide) (fun c_67 => ?_) (fun c_67 => ?_)
        · replace c_67 := (lg_cmp_le _ _).mp c_67
          refine x_iconst (pc := 74) (v := 0) K dX8_isBeyond_74 (by decide) ?_
          exact ret (pc := 75) dX8_isBeyond_75 (⟨bz_0.mpr (not_or.mpr ⟨c_38, Int64.not_lt.mpr c_67⟩), rfl, rfl⟩) rfl
        · replace c_67 := mt (lg_cmp_le _ _).mpr c_67
          refine x_iconst (pc := 70) (v := 1) K dX8_isBeyond_70 (by decide) ?_
          refine x_goto (pc := 71) (tgt := 75) K dX8_isBeyond_71 (by decide) ?_
          exact ret (pc := 75) dX8_isBeyond_75 (⟨bz_1.mpr (Or.inr (Int64.not_le.mp c_67)), rfl, rfl⟩) rfl
  · replace c_18 := mt (lg_cmp_ge _ _).mpr c_18
    refine x_lload_n (pc := 21) K 1 dX8_isBeyond_21 rfl rfl ?_
    refine x_lneg (pc := 22) K dX8_isBeyond_22 ?_
    refine x_goto (pc := 23) (tgt := 27) K dX8_isBeyond_23 (by decide) ?_
    refine x_tople (ng64 (offM I J p 0)) (by rw [ng64, if_neg c_18]) ?_
    refine x_aload_n (pc := 27) K 2 dX8_isBeyond_27 rfl rfl ?_
    refine x_geti (pc := 28) (index := 29) (C := RX8) (T := TX8) (N := 36) (j0 := 8) (ref := "OldMapModel") K (by decide) sh_76 rfl i_X8 (by decide) (by decide +kernel) rfl rfl dX8_isBeyond_28 ?_
    refine x_i2l (pc := 31) K dX8_isBeyond_31 ?_
    refine x_aload_n (pc := 32) K 2 dX8_isBeyond_32 rfl rfl ?_
    refine x_getl (pc := 33) (index := 93) (C := RX8) (T := TX8) (N := 36) (j0 := 19) (ref := "OldMapModel") K (by decide) sh_76 rfl i_X8 (by decide) (by decide +kernel) rfl rfl dX8_isBeyond_33 ?_
    refine x_lmul (pc := 36) K dX8_isBeyond_36 ?_
    refine x_lcmp (pc := 37) K dX8_isBeyond_37 ?_
    refine x_if_gt (pc := 38) (tgt := 70) K dX8_isBeyond_38 (by decide) (fun c_38 => ?_) (fun c_38 => ?_)
    · replace c_38 := (lg_cmp_gt _ _).mp c_38
      refine x_iconst (pc := 70) (v := 1) K dX8_isBeyond_70 (by decide) ?_
      refine x_goto (pc := 71) (tgt := 75) K dX8_isBeyond_71 (by decide) ?_
      exact ret (pc := 75) dX8_isBeyond_75 (⟨bz_1.mpr (Or.inl c_38), rfl, rfl⟩) rfl
    · replace c_38 := mt (lg_cmp_gt _ _).mpr c_38
      refine x_lload (pc := 41) K 0 dX8_isBeyond_41 rfl ?_
      refine x_lconst (pc := 43) (v := 0) K dX8_isBeyond_43 (by decide) ?_
      refine x_lcmp (pc := 44) K dX8_isBeyond_44 ?_
      refine x_if_ge (pc := 45) (tgt := 54) K dX8_isBeyond_45 (by decide) (fun c_45 => ?_) (fun c_45 => ?_)
      · replace c_45 := (lg_cmp_ge _ _).mp c_45
        refine x_lload (pc := 54) K 0 dX8_isBeyond_54 rfl ?_
        refine x_tople (ng64 (offM I J p 1)) (by rw [ng64, if_pos c_45]) ?_
        refine x_aload_n (pc := 56) K 2 dX8_isBeyond_56 rfl rfl ?_
        refine x_geti (pc := 57) (index := 29) (C := RX8) (T := TX8) (N := 36) (j0 := 8) (ref := "OldMapModel") K (by decide) sh_76 rfl i_X8 (by decide) (by decide +kernel) rfl rfl dX8_isBeyond_57 ?_
        refine x_i2l (pc := 60) K dX8_isBeyond_60 ?_
        refine x_aload_n (pc := 61) K 2 dX8_isBeyond_61 rfl rfl ?_
        refine x_getl (pc := 62) (index := 105) (C := RX8) (T := TX8) (N := 36) (j0 := 23) (ref := "OldMapModel") K (by decide) sh_76 rfl i_X8 (by decide) (by decide +kernel) rfl rfl dX8_isBeyond_62 ?_
        refine x_lmul (pc := 65) K dX8_isBeyond_65 ?_
        refine x_lcmp (pc := 66) K dX8_isBeyond_66 ?_
        refine x_if_le (pc := 67) (tgt := 74) K dX8_isBeyond_67 (by decide) (fun c_67 => ?_) (fun c_67 => ?_)
        · replace c_67 := (lg_cmp_le _ _).mp c_67
          refine x_iconst (pc := 74) (v := 0) K dX8_isBeyond_74 (by decide) ?_
          exact ret (pc := 75) dX8_isBeyond_75 (⟨bz_0.mpr (not_or.mpr ⟨c_38, Int64.not_lt.mpr c_67⟩), rfl, rfl⟩) rfl
        · replace c_67 := mt (lg_cmp_le _ _).mpr c_67
          refine x_iconst (pc := 70) (v := 1) K dX8_isBeyond_70 (by decide) ?_
          refine x_goto (pc := 71) (tgt := 75) K dX8_isBeyond_71 (by decide) ?_
          exact ret (pc := 75) dX8_isBeyond_75 (⟨bz_1.mpr (Or.inr (Int64.not_le.mp c_67)), rfl, rfl⟩) rfl
      · replace c_45 := mt (lg_cmp_ge _ _).mpr c_45
        refine x_lload (pc := 48) K 0 dX8_isBeyond_48 rfl ?_
        refine x_lneg (pc := 50) K dX8_isBeyond_50 ?_
        refine x_goto (pc := 51) (tgt := 56) K dX8_isBeyond_51 (by decide) ?_
        refine x_tople (ng64 (offM I J p 1)) (by rw [ng64, if_neg c_45]) ?_
        refine x_aload_n (pc := 56) K 2 dX8_isBeyond_56 rfl rfl ?_
        refine x_geti (pc := 57) (index := 29) (C := RX8) (T := TX8) (N := 36) (j0 := 8) (ref := "OldMapModel") K (by decide) sh_76 rfl i_X8 (by decide) (by decide +kernel) rfl rfl dX8_isBeyond_57 ?_
        refine x_i2l (pc := 60) K dX8_isBeyond_60 ?_
        refine x_aload_n (pc := 61) K 2 dX8_isBeyond_61 rfl rfl ?_
        refine x_getl (pc := 62) (index := 105) (C := RX8) (T := TX8) (N := 36) (j0 := 23) (ref := "OldMapModel") K (by decide) sh_76 rfl i_X8 (by decide) (by decide +kernel) rfl rfl dX8_isBeyond_62 ?_
        refine x_lmul (pc := 65) K dX8_isBeyond_65 ?_
        refine x_lcmp (pc := 66) K dX8_isBeyond_66 ?_
        refine x_if_le (pc := 67) (tgt := 74) K dX8_isBeyond_67 (by decide) (fun c_67 => ?_) (fun c_67 => ?_)
        · replace c_67 := (lg_cmp_le _ _).mp c_67
          refine x_iconst (pc := 74) (v := 0) K dX8_isBeyond_74 (by decide) ?_
          exact ret (pc := 75) dX8_isBeyond_75 (⟨bz_0.mpr (not_or.mpr ⟨c_38, Int64.not_lt.mpr c_67⟩), rfl, rfl⟩) rfl
        · replace c_67 := mt (lg_cmp_le _ _).mpr c_67
          refine x_iconst (pc := 70) (v := 1) K dX8_isBeyond_70 (by decide) ?_
          refine x_goto (pc := 71) (tgt := 75) K dX8_isBeyond_71 (by decide) ?_
          exact ret (pc := 75) dX8_isBeyond_75 (⟨bz_1.mpr (Or.inr (Int64.not_le.mp c_67)), rfl, rfl⟩) rfl

set_option maxHeartbeats 1000000 in
set_option maxRecDepth 100000 in
theorem c_X8_firstBeyond (l : Launch) (G : hQ) (I : hI) (J : hJ) (b : Int32) (n : Nat) (hn : I 76 0 = nI n) (h12 : n ≤ 12) : h_Mi l yX8_firstBeyond wsX8_firstBeyond 2 51 G [rr G 76, .int b] I J (fun ρ I' J' => fstI (fun p => bitOn b p ∧ bM I J p) 0 n = ρ ∧ I = I' ∧ J = J') := by
  refine h_Mi.of (ty := .int) (cc := cX8_firstBeyond) (maxL := 3) [(0, rr G 76), (1, .int b)] (by decide +kernel) rfl (Nat.le_of_ble_eq_true rfl) rfl ?_
  intro Γ K ret
  have i_X8 : ∀ w ∈ u_ws RX8 TX8 36, w ∈ wsX8_firstBeyond := by decide +kernel
  have loop : ∀ k, k ≤ n → (fstI (fun p => bitOn b p ∧ bM I J p) 0 n = fstI (fun p => bitOn b p ∧ bM I J p) k (n - k)) → h_WW Γ G 2 [(2, .int (nI k)), (0, rr G 76), (1, .int b)] [] I J := by
    refine loopU n (fun k hk ih => ?_)
    intro hi
    refine x_iload_n (pc := 2) K 0 dX8_firstBeyond_2 rfl rfl ?_
    refine x_aload_n (pc := 3) K 1 dX8_firstBeyond_3 rfl rfl ?_
    refine x_geti (pc := 4) (index := 65) (C := RX8) (T := TX8) (N := 36) (j0 := 0) (ref := "OldMapModel") K (by decide) sh_76 rfl i_X8 (by decide) (by decide +kernel) rfl rfl dX8_firstBeyond_4 ?_
    refine x_topie (nI n) hn ?_
    refine x_icmp_ge (pc := 7) (tgt := 35) K dX8_firstBeyond_7 (by decide) (fun c_7 => ?_) (fun c_7 => ?_)
    · replace c_7 := cI_le (a := n) (b := k) rfl rfl (by omega) (by omega) c_7
      refine x_bipush (pc := 35) (v := -5) K dX8_firstBeyond_35 (by decide) ?_
      exact ret (pc := 37) dX8_firstBeyond_37 (⟨by rw [hi, fstI_e (by omega)], rfl, rfl⟩) rfl
    · replace c_7 := cI_nle (a := n) (b := k) rfl rfl (by omega) (by omega) c_7
      refine x_iload_n (pc := 10) K 2 dX8_firstBeyond_10 rfl rfl ?_
      refine x_iload_n (pc := 11) K 0 dX8_firstBeyond_11 rfl rfl ?_
      refine x_ishr (pc := 12) K dX8_firstBeyond_12 ?_
      refine x_iconst (pc := 13) (v := 1) K dX8_firstBeyond_13 (by decide) ?_
      refine x_iand (pc := 14) K dX8_firstBeyond_14 ?_
      refine x_iconst (pc := 15) (v := 1) K dX8_firstBeyond_15 (by decide) ?_
      refine x_icmp_ne (pc := 16) (tgt := 29) K dX8_firstBeyond_16 (by decide) (fun c_16 => ?_) (fun c_16 => ?_)
      · refine x_iinc (pc := 29) (q0 := 0) (v := nI (k + 1)) (lo' := [(2, _), (0, _), (1, _)]) K dX8_firstBeyond_29 rfl (nI_incE rfl) (by decide) rfl ?_
        refine x_goto (pc := 32) (tgt := 2) K dX8_firstBeyond_32 (by decide) ?_
        refine x_lo (lo' := [(2, _), (0, _), (1, _)]) [0, 1, 2] rfl ?_
        exact x_loe (by rfl) (ih (by omega) (by rw [hi, fstI_f (by omega) (fun q => c_16 q.1)]))
      · refine x_aload_n (pc := 19) K 1 dX8_firstBeyond_19 rfl rfl ?_
        refine x_iload_n (pc := 20) K 0 dX8_firstBeyond_20 rfl rfl ?_
        refine x_calliV (pc := 21) (st := []) (n := 1) K (by decide) sh_76 rfl (c_X8_isBeyond l G _ _ k (by omega)) gX8_firstBeyond_X8_isBeyond (by decide +kernel) rfl (by decide) (by decide) rfl rfl (Nat.le_of_ble_eq_true rfl) dX8_firstBeyond_21 (fun r_21 I_21 J_21 hp_21 => ?_)
        obtain ⟨rfl, rfl, rfl⟩ := hp_21
        refine x_if_eq (pc := 24) (tgt := 29) K dX8_firstBeyond_24 (by decide) (fun c_24 => ?_) (fun c_24 => ?_)
        · replace c_24 := bz_0.mp c_24
          refine x_iinc (pc := 29) (q0 := 0) (v := nI (k + 1)) (lo' := [(2, _), (0, _), (1, _)]) K dX8_firstBeyond_29 rfl (nI_incE rfl) (by decide) rfl ?_
          refine x_goto (pc := 32) (tgt := 2) K dX8_firstBeyond_32 (by decide) ?_
          refine x_lo (lo' := [(2, _), (0, _), (1, _)]) [0, 1, 2] rfl ?_
          exact x_loe (by rfl) (ih (by omega) (by rw [hi, fstI_f (by omega) (fun q => c_24 q.2)]))
        · replace c_24 := bz_n0.mp c_24
          refine x_iload_n (pc := 27) K 0 dX8_firstBeyond_27 rfl rfl ?_
          exact ret (pc := 28) dX8_firstBeyond_28 (⟨by rw [hi, fstI_t (by omega) ⟨c_16, c_24⟩], rfl, rfl⟩) rfl
  refine x_iconst (pc := 0) (v := 0) K dX8_firstBeyond_0 (by decide) ?_
  refine x_istore_n (pc := 1) (lo' := [(2, _), (0, _), (1, _)]) K dX8_firstBeyond_1 rfl (by decide) rfl ?_
  refine x_lo (lo' := [(2, _), (0, _), (1, _)]) [0, 1, 2] rfl ?_
  exact x_loe (by rfl) (loop 0 (Nat.zero_le _) rfl)

