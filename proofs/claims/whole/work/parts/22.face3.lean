/-! OldMap's face: bends and matches -/
theorem fit_w {I I' : hI} {J J' : hJ} {kd ax j : Nat} {b : Int32} (hF : Fit I' J' kd b) (hS : Scr I J I' J') (h1 : ax < 2) (h2 : j < 4) : J' (56 + ax) j = Wy (atC I) kd b ax j := by rw [hF.2.2.2.2 ax j h1 h2, hS.at]
theorem fit_spr {I I' : hI} {J J' : hJ} {kd r q : Nat} {b : Int32} (hF : Fit I' J' kd b) (hS : Scr I J I' J') (h1 : r < 4) (h2 : q < 4) : spr I' J' r q = SP (atC I) b r q := by
  unfold spr SP
  rw [hF.2.2.1, hF.2.1, sp2_A h1 h2, hF.2.2.2.1 r h1, hF.2.2.2.1 q h2, hS.at]
def misP (a : aT) (kd : Nat) (b : Int32) (ax : Nat) : Int64 :=
  if kd = 0 then (SP a b 0 0 - 2 * SP a b 0 (0 + 2) + SP a b (0 + 2) (0 + 2)) + (SP a b 1 1 - 2 * SP a b 1 (1 + 2) + SP a b (1 + 2) (1 + 2))
  else if kd = 1 then (SP a b 0 0 + SP a b 1 1) * (SP a b 2 2 + SP a b 3 3) - (SP a b 0 2 + SP a b 1 3) * (SP a b 0 2 + SP a b 1 3) - (SP a b 0 3 - SP a b 1 2) * (SP a b 0 3 - SP a b 1 2)
  else SP a b ax ax * SP a b (ax + 2) (ax + 2) - SP a b ax (ax + 2) * SP a b ax (ax + 2)
def misH (I : hI) (J : hJ) (kd ax : Nat) : Int64 := if kd = 0 then shm I J 0 + shm I J 1 else if kd = 1 then tum I J else spr I J ax ax * spr I J (ax + 2) (ax + 2) - spr I J ax (ax + 2) * spr I J ax (ax + 2)
theorem fit_mis {I I' : hI} {J J' : hJ} {kd ax : Nat} {b : Int32} (hF : Fit I' J' kd b) (hS : Scr I J I' J') (h1 : ax < 2) : misH I' J' kd ax = misP (atC I) kd b ax := by
  unfold misH misP shm tum
  simp only [Nat.reduceAdd, fit_spr hF hS (show 0 < 4 by decide) (show 0 < 4 by decide), fit_spr hF hS (show 0 < 4 by decide) (show 2 < 4 by decide), fit_spr hF hS (show 2 < 4 by decide) (show 2 < 4 by decide), fit_spr hF hS (show 1 < 4 by decide) (show 1 < 4 by decide), fit_spr hF hS (show 1 < 4 by decide) (show 3 < 4 by decide), fit_spr hF hS (show 3 < 4 by decide) (show 3 < 4 by decide), fit_spr hF hS (show 0 < 4 by decide) (show 3 < 4 by decide), fit_spr hF hS (show 1 < 4 by decide) (show 2 < 4 by decide), fit_spr hF hS (show ax < 4 by omega) (show ax < 4 by omega), fit_spr hF hS (show ax < 4 by omega) (show ax + 2 < 4 by omega), fit_spr hF hS (show ax + 2 < 4 by omega) (show ax + 2 < 4 by omega)]
def abQ (a : aT) (kd : Nat) (b : Int32) : Int64 := if kd = 0 then 0 else if kd = 1 then Wy a kd b 1 0 else Wy a kd b 1 1
def abP (a : aT) (kd : Nat) (b : Int32) (ax : Nat) (x y : Int64) : Int64 := Wy a kd b ax 0 * x + Wy a kd b ax 1 * y + Wy a kd b ax 2
theorem fit_abv {I I' : hI} {J J' : hJ} {kd ax : Nat} {b : Int32} {x y : Int64} (hF : Fit I' J' kd b) (hS : Scr I J I' J') (h1 : ax < 2) : abvW J' (56 + ax) x y = abP (atC I) kd b ax x y := by
  unfold abvW abP
  rw [fit_w hF hS h1 (by decide), fit_w hF hS h1 (by decide), fit_w hF hS h1 (by decide)]
def C_bend (a : aT) (kd : Nat) (b : Int32) (w : Nat) : Int64 := if w / 2 = 0 then clr (Wy a kd b 0 2) (Wy a kd b 0 3) (nI (w % 2)) else if w / 2 = 1 then clr (Wy a kd b 1 2) (Wy a kd b 1 3) (nI (w % 2)) else if w / 2 = 2 then clr (Wy a kd b 0 0) (Wy a kd b 0 3) (nI (w % 2)) else clr (abQ a kd b) (Wy a kd b 1 3) (nI (w % 2))
theorem c_X0_alongS (l : Launch) (G : hQ) (I : hI) (J : hJ) (ax : Nat) (h : ax < 2) : h_Mr l yX0_along wsX0_along 0 0 G [rr G 55, .int (nI ax)] I J (fun ρ I' J' => 56 + ax = ρ ∧ I = I' ∧ J = J') := by
  rcases (show ax = 0 ∨ ax = 1 by omega) with rfl | rfl
  · exact c_X0_along0 l G I J
  · exact c_X0_along1 l G I J

theorem c_X6_aboveS (l : Launch) (G : hQ) (I : hI) (J : hJ) (ax : Nat) (x y : Int64) (h : ax < 2) : h_Ml l yX6_above wsX6_above 0 0 G [rr G (56 + ax), .long x, .long y] I J (fun ρ I' J' => abvW J (56 + ax) x y = ρ ∧ I = I' ∧ J = J') := by
  rcases (show ax = 0 ∨ ax = 1 by omega) with rfl | rfl
  · exact c_X6_above56 l G I J x y
  · exact c_X6_above57 l G I J x y

theorem c_X0_offAboveS (l : Launch) (G : hQ) (I : hI) (J : hJ) (ax p : Nat) (h : ax < 2) (hp : p < 12) : h_Ml l yX0_offAbove wsX0_offAbove 1 24 G [rr G 55, .int (nI ax), .int (nI p)] I J (fun ρ I' J' => offA I J ax p = ρ ∧ I = I' ∧ J = J') := by
  rcases (show ax = 0 ∨ ax = 1 by omega) with rfl | rfl
  · exact c_X0_offAbove0 l G I J p hp
  · exact c_X0_offAbove1 l G I J p hp

theorem c_X0_missAboveS (l : Launch) (G : hQ) (I : hI) (J : hJ) (kd ax : Nat) (hk : I 55 4 = nI kd) (h3 : kd < 3) (hax : ax < 2) (h01 : kd < 2 → ax = 0) : h_Ml l yX0_missAbove wsX0_missAbove 2 55 G [rr G 55, .int (nI ax)] I J (fun ρ I' J' => misH I J kd ax = ρ ∧ I = I' ∧ J = J') := by
  rcases (show kd = 0 ∨ kd = 1 ∨ kd = 2 by omega) with rfl | rfl | rfl
  · obtain rfl := h01 (by decide); exact c_X0_missAbove00 l G I J hk
  · obtain rfl := h01 (by decide); exact c_X0_missAbove10 l G I J hk
  · rcases (show ax = 0 ∨ ax = 1 by omega) with rfl | rfl
    · exact c_X0_missAbove20 l G I J hk
    · exact c_X0_missAbove21 l G I J hk
theorem c_X0_aboveOfQS (l : Launch) (G : hQ) (I : hI) (J : hJ) (kd : Nat) (hk : I 55 4 = nI kd) (h3 : kd < 3) : h_Ml l yX0_aboveOfQ wsX0_aboveOfQ 0 0 G [rr G 55] I J (fun ρ I' J' => (if kd = 0 then 0 else if kd = 1 then J 57 0 else J 57 1) = ρ ∧ I = I' ∧ J = J') := by
  rcases (show kd = 0 ∨ kd = 1 ∨ kd = 2 by omega) with rfl | rfl | rfl
  · exact c_X0_aboveOfQ0 l G I J hk
  · exact c_X0_aboveOfQ1 l G I J hk
  · exact c_X0_aboveOfQ2 l G I J hk
set_option maxHeartbeats 1000000 in
set_option maxRecDepth 100000 in
theorem c_X7_bend (l : Launch) (G : hQ) (I : hI) (J : hJ) (k w : Int32) : h_Ml l yX7_bend wsX7_bend 4 102 G [rr G 0, .int k, .int w] I J (fun ρ I' J' => (if isKd k ∧ ¬ w < 0 ∧ ¬ 7 < w ∧ okA (atC I) (tn k) (I 2 2 &&& I 2 3) then C_bend (atC I) (tn k) (I 2 2 &&& I 2 3) (tn w) else -4000000000000000000) = ρ ∧ Scr I J I' J') := by
  refine h_Ml.of (cc := cX7_bend) (maxL := 6) [(0, rr G 0), (1, .int k), (2, .int w)] (by decide +kernel) rfl (Nat.le_of_ble_eq_true rfl) rfl ?_
  intro Γ K ret
  have i_X7 : ∀ w ∈ u_ws RX7 TX7 7, w ∈ wsX7_bend := by decide +kernel
  have i_X0 : ∀ w ∈ u_ws RX0 TX0 7, w ∈ wsX7_bend := by decide +kernel
  have i_X6 : ∀ w ∈ u_ws RX6 TX6 4, w ∈ wsX7_bend := by decide +kernel
  refine x_iload_n (pc := 0) K 1 dX7_bend_0 rfl rfl ?_
  refine x_calliS (pc := 1) (st := []) (n := 1) K (c_X7_isKind l G _ _ _) gX7_bend_X7_isKind (by decide +kernel) rfl (by decide) (by decide) rfl rfl (Nat.le_of_ble_eq_true rfl) dX7_bend_1 (fun r_1 I_1 J_1 hp_1 => ?_)
  obtain ⟨rfl, rfl, rfl⟩ := hp_1
  refine x_if_eq (pc := 4) (tgt := 25) K dX7_bend_4 (by decide) (fun c_4 => ?_) (fun c_4 => ?_)
  · replace c_4 := bz_0.mp c_4
    refine x_ldc2_w (pc := 25) (v := (-4000000000000000000)) K (by decide +kernel) dX7_bend_25 ?_
    exact ret (pc := 28) dX7_bend_28 (⟨if_neg (fun h => c_4 h.1), Scr.rf⟩)
  · replace c_4 := bz_n0.mp c_4
    obtain ⟨kd, hkd, rfl⟩ := kd_of c_4
    refine x_iload_n (pc := 7) K 2 dX7_bend_7 rfl rfl ?_
    refine x_if_lt (pc := 8) (tgt := 25) K dX7_bend_8 (by decide) (fun c_8 => ?_) (fun c_8 => ?_)
    · refine x_ldc2_w (pc := 25) (v := (-4000000000000000000)) K (by decide +kernel) dX7_bend_25 ?_
      exact ret (pc := 28) dX7_bend_28 (⟨if_neg (fun h => h.2.1 c_8), Scr.rf⟩)
    · refine x_iload_n (pc := 11) K 2 dX7_bend_11 rfl rfl ?_
      refine x_bipush (pc := 12) (v := 7) K dX7_bend_12 (by decide) ?_
      refine x_icmp_gt (pc := 14) (tgt := 25) K dX7_bend_14 (by decide) (fun c_14 => ?_) (fun c_14 => ?_)
      · refine x_ldc2_w (pc := 25) (v := (-4000000000000000000)) K (by decide +kernel) dX7_bend_25 ?_
        exact ret (pc := 28) dX7_bend_28 (⟨if_neg (fun h => h.2.2.1 c_14), Scr.rf⟩)
      · refine x_aload_n (pc := 17) K 0 dX7_bend_17 rfl rfl ?_
        refine x_iload_n (pc := 18) K 1 dX7_bend_18 rfl rfl ?_
        refine x_calliV (pc := 19) (st := []) (n := 1) K (by decide) sh_0 rfl (c_X7_fits l G _ _ kd (by omega)) gX7_bend_X7_fits (by decide +kernel) rfl (by decide) (by decide) rfl rfl (Nat.le_of_ble_eq_true rfl) dX7_bend_19 (fun r_19 I_19 J_19 hp_19 => ?_)
        obtain ⟨rfl, hS_19, hF_19⟩ := hp_19
        refine x_if_ne (pc := 22) (tgt := 29) K dX7_bend_22 (by decide) (fun c_22 => ?_) (fun c_22 => ?_)
        · replace c_22 := bz_n0.mp c_22
          have hS := hS_19
          have hF := hF_19 c_22
          obtain ⟨v, hv, rfl⟩ := rg_of (M := 7) (m := 7) rfl c_8 c_14
          refine x_iload_n (pc := 29) K 2 dX7_bend_29 rfl rfl ?_
          refine x_iconst (pc := 30) (v := 2) K dX7_bend_30 (by decide) ?_
          refine x_irem (pc := 31) K dX7_bend_31 (by decide) ?_
          refine x_topie (nI (v % 2)) (nI_remE rfl rfl (by omega) (by decide)) ?_
          refine x_istore_n (pc := 32) (lo' := [(3, _), (0, _), (1, _), (2, _)]) K dX7_bend_32 rfl (by decide) rfl ?_
          refine x_aload_n (pc := 33) K 1 dX7_bend_33 rfl rfl ?_
          refine x_getr (r0 := 55) (pc := 34) (index := 28) (C := RX7) (T := TX7) (N := 7) (j0 := 2) (ref := "OldMap") K (by decide) sh_0 rfl i_X7 (by decide) (by decide +kernel) rfl rfl rf_0_2 dX7_bend_34 ?_
          refine x_getrN (r0 := 56) (pc := 37) (index := 102) (C := RX0) (T := TX0) (N := 7) (j0 := 1) (host := "OldMap") (ref := "OldMap$Bend") K (by decide) sh_55 rfl i_X0 (by decide) (by decide +kernel) rfl rfl rf_55_1 dX7_bend_37 ?_
          refine x_astore (pc := 40) (lo' := [(4, _), (3, _), (0, _), (1, _), (2, _)]) K dX7_bend_40 (by decide) rfl ?_
          refine x_aload_n (pc := 42) K 2 dX7_bend_42 rfl rfl ?_
          refine x_getr (r0 := 55) (pc := 43) (index := 28) (C := RX7) (T := TX7) (N := 7) (j0 := 2) (ref := "OldMap") K (by decide) sh_0 rfl i_X7 (by decide) (by decide +kernel) rfl rfl rf_0_2 dX7_bend_43 ?_
          refine x_getrN (r0 := 57) (pc := 46) (index := 106) (C := RX0) (T := TX0) (N := 7) (j0 := 2) (host := "OldMap") (ref := "OldMap$Bend") K (by decide) sh_55 rfl i_X0 (by decide) (by decide +kernel) rfl rfl rf_55_2 dX7_bend_46 ?_
          refine x_astore (pc := 49) (lo' := [(5, _), (4, _), (3, _), (0, _), (1, _), (2, _)]) K dX7_bend_49 (by decide) rfl ?_
          refine x_iload_n (pc := 51) K 5 dX7_bend_51 rfl rfl ?_
          refine x_iconst (pc := 52) (v := 2) K dX7_bend_52 (by decide) ?_
          refine x_idiv (pc := 53) K dX7_bend_53 (by decide) ?_
          refine x_topie (nI (v / 2)) (nI_div (by omega) (by decide)) ?_
          rcases (show v / 2 = 0 ∨ v / 2 = 1 ∨ v / 2 = 2 ∨ v / 2 = 3 by omega) with hq | hq | hq | hq
          · refine x_topie (nI 0) (by rw [hq]) ?_
            refine x_tableIn (pc := 54) (tgt := 80) (off := 26) K dX7_bend_54 (by decide) (by decide) (by decide) (by decide) ?_
            refine x_aload (pc := 80) K 1 dX7_bend_80 rfl ?_
            refine x_getlN (pc := 82) (index := 109) (C := RX6) (T := TX6) (N := 4) (j0 := 2) (host := "OldMap") (ref := "OldMap$Way") K (by decide) sh_56 rfl i_X6 (by decide) (by decide +kernel) rfl rfl dX7_bend_82 ?_
            refine x_tople (Wy (atC I) kd (I 2 2 &&& I 2 3) 0 2) (fit_w hF hS (ax := 0) (j := 2) (by decide) (by decide)) ?_
            refine x_aload (pc := 85) K 1 dX7_bend_85 rfl ?_
            refine x_getlN (pc := 87) (index := 115) (C := RX6) (T := TX6) (N := 4) (j0 := 3) (host := "OldMap") (ref := "OldMap$Way") K (by decide) sh_56 rfl i_X6 (by decide) (by decide +kernel) rfl rfl dX7_bend_87 ?_
            refine x_tople (Wy (atC I) kd (I 2 2 &&& I 2 3) 0 3) (fit_w hF hS (ax := 0) (j := 3) (by decide) (by decide)) ?_
            refine x_iload_n (pc := 90) K 2 dX7_bend_90 rfl rfl ?_
            refine x_calllS (pc := 91) (st := []) (n := 3) K (c_X7_cleared l G _ _ _ _ _) gX7_bend_X7_cleared (by decide +kernel) rfl (by decide) (by decide) rfl rfl (Nat.le_of_ble_eq_true rfl) dX7_bend_91 (fun r_91 I_91 J_91 hp_91 => ?_)
            obtain ⟨rfl, rfl, rfl⟩ := hp_91
            exact ret (pc := 94) dX7_bend_94 (⟨by rw [if_pos ⟨c_4, c_8, c_14, (by rw [tn_n (by omega)]; exact c_22)⟩, tn_n (by omega), tn_n (by omega), C_bend, if_pos hq], hS⟩)
          · refine x_topie (nI 1) (by rw [hq]) ?_
            refine x_tableIn (pc := 54) (tgt := 95) (off := 41) K dX7_bend_54 (by decide) (by decide) (by decide) (by decide) ?_
            refine x_aload (pc := 95) K 0 dX7_bend_95 rfl ?_
            refine x_getlN (pc := 97) (index := 109) (C := RX6) (T := TX6) (N := 4) (j0 := 2) (host := "OldMap") (ref := "OldMap$Way") K (by decide) sh_57 rfl i_X6 (by decide) (by decide +kernel) rfl rfl dX7_bend_97 ?_
            refine x_tople (Wy (atC I) kd (I 2 2 &&& I 2 3) 1 2) (fit_w hF hS (ax := 1) (j := 2) (by decide) (by decide)) ?_
            refine x_aload (pc := 100) K 0 dX7_bend_100 rfl ?_
            refine x_getlN (pc := 102) (index := 115) (C := RX6) (T := TX6) (N := 4) (j0 := 3) (host := "OldMap") (ref := "OldMap$Way") K (by decide) sh_57 rfl i_X6 (by decide) (by decide +kernel) rfl rfl dX7_bend_102 ?_
            refine x_tople (Wy (atC I) kd (I 2 2 &&& I 2 3) 1 3) (fit_w hF hS (ax := 1) (j := 3) (by decide) (by decide)) ?_
            refine x_iload_n (pc := 105) K 2 dX7_bend_105 rfl rfl ?_
            refine x_calllS (pc := 106) (st := []) (n := 3) K (c_X7_cleared l G _ _ _ _ _) gX7_bend_X7_cleared (by decide +kernel) rfl (by decide) (by decide) rfl rfl (Nat.le_of_ble_eq_true rfl) dX7_bend_106 (fun r_106 I_106 J_106 hp_106 => ?_)
            obtain ⟨rfl, rfl, rfl⟩ := hp_106
            exact ret (pc := 109) dX7_bend_109 (⟨by rw [if_pos ⟨c_4, c_8, c_14, (by rw [tn_n (by omega)]; exact c_22)⟩, tn_n (by omega), tn_n (by omega), C_bend, if_neg (by omega), if_pos hq], hS⟩)
          · refine x_topie (nI 2) (by rw [hq]) ?_
            refine x_tableIn (pc := 54) (tgt := 110) (off := 56) K dX7_bend_54 (by decide) (by decide) (by decide) (by decide) ?_
            refine x_aload (pc := 110) K 1 dX7_bend_110 rfl ?_
            refine x_getlN (pc := 112) (index := 122) (C := RX6) (T := TX6) (N := 4) (j0 := 0) (host := "OldMap") (ref := "OldMap$Way") K (by decide) sh_56 rfl i_X6 (by decide) (by decide +kernel) rfl rfl dX7_bend_112 ?_
            refine x_tople (Wy (atC I) kd (I 2 2 &&& I 2 3) 0 0) (fit_w hF hS (ax := 0) (j := 0) (by decide) (by decide)) ?_
            refine x_aload (pc := 115) K 1 dX7_bend_115 rfl ?_
            refine x_getlN (pc := 117) (index := 115) (C := RX6) (T := TX6) (N := 4) (j0 := 3) (host := "OldMap") (ref := "OldMap$Way") K (by decide) sh_56 rfl i_X6 (by decide) (by decide +kernel) rfl rfl dX7_bend_117 ?_
            refine x_tople (Wy (atC I) kd (I 2 2 &&& I 2 3) 0 3) (fit_w hF hS (ax := 0) (j := 3) (by decide) (by decide)) ?_
            refine x_iload_n (pc := 120) K 2 dX7_bend_120 rfl rfl ?_
            refine x_calllS (pc := 121) (st := []) (n := 3) K (c_X7_cleared l G _ _ _ _ _) gX7_bend_X7_cleared (by decide +kernel) rfl (by decide) (by decide) rfl rfl (Nat.le_of_ble_eq_true rfl) dX7_bend_121 (fun r_121 I_121 J_121 hp_121 => ?_)
            obtain ⟨rfl, rfl, rfl⟩ := hp_121
            exact ret (pc := 124) dX7_bend_124 (⟨by rw [if_pos ⟨c_4, c_8, c_14, (by rw [tn_n (by omega)]; exact c_22)⟩, tn_n (by omega), tn_n (by omega), C_bend, if_neg (by omega), if_neg (by omega), if_pos hq], hS⟩)
          · refine x_topie (nI 3) (by rw [hq]) ?_
            refine x_tableOut (pc := 54) (tgt := 125) K dX7_bend_54 (by decide) (by decide) ?_
            refine x_aload_n (pc := 125) K 3 dX7_bend_125 rfl rfl ?_
            refine x_getr (r0 := 55) (pc := 126) (index := 28) (C := RX7) (T := TX7) (N := 7) (j0 := 2) (ref := "OldMap") K (by decide) sh_0 rfl i_X7 (by decide) (by decide +kernel) rfl rfl rf_0_2 dX7_bend_126 ?_
            refine x_calllN (pc := 129) (st := []) (n := 0) K (by decide) sh_55 rfl (c_X0_aboveOfQS l G _ _ kd hF.1 (by omega)) (host := "OldMap") gX7_bend_X0_aboveOfQ_n125 (by decide +kernel) (by decide +kernel) (by decide +kernel) (by decide +kernel) (by decide +kernel) rfl (by decide) (by decide) rfl rfl (Nat.le_of_ble_eq_true rfl) dX7_bend_129 (fun r_129 I_129 J_129 hp_129 => ?_)
            obtain ⟨rfl, rfl, rfl⟩ := hp_129
            refine x_tople (abQ (atC I) kd (I 2 2 &&& I 2 3)) (by unfold abQ; rw [← fit_w hF hS (ax := 1) (j := 0) (by decide) (by decide), ← fit_w hF hS (ax := 1) (j := 1) (by decide) (by decide)]) ?_
            refine x_aload (pc := 132) K 0 dX7_bend_132 rfl ?_
            refine x_getlN (pc := 134) (index := 115) (C := RX6) (T := TX6) (N := 4) (j0 := 3) (host := "OldMap") (ref := "OldMap$Way") K (by decide) sh_57 rfl i_X6 (by decide) (by decide +kernel) rfl rfl dX7_bend_134 ?_
            refine x_tople (Wy (atC I) kd (I 2 2 &&& I 2 3) 1 3) (fit_w hF hS (ax := 1) (j := 3) (by decide) (by decide)) ?_
            refine x_iload_n (pc := 137) K 2 dX7_bend_137 rfl rfl ?_
            refine x_calllS (pc := 138) (st := []) (n := 3) K (c_X7_cleared l G _ _ _ _ _) gX7_bend_X7_cleared (by decide +kernel) rfl (by decide) (by decide) rfl rfl (Nat.le_of_ble_eq_true rfl) dX7_bend_138 (fun r_138 I_138 J_138 hp_138 => ?_)
            obtain ⟨rfl, rfl, rfl⟩ := hp_138
            exact ret (pc := 141) dX7_bend_141 (⟨by rw [if_pos ⟨c_4, c_8, c_14, (by rw [tn_n (by omega)]; exact c_22)⟩, tn_n (by omega), tn_n (by omega), C_bend, if_neg (by omega), if_neg (by omega), if_neg (by omega)], hS⟩)
        · replace c_22 := bz_0.mp c_22
          refine x_ldc2_w (pc := 25) (v := (-4000000000000000000)) K (by decide +kernel) dX7_bend_25 ?_
          exact ret (pc := 28) dX7_bend_28 (⟨if_neg (fun h => c_22 (by have q := h.2.2.2; rw [tn_n (by omega)] at q; exact q)), hS_19⟩)

set_option maxHeartbeats 1000000 in
set_option maxRecDepth 100000 in
theorem c_X7_carry (l : Launch) (G : hQ) (I : hI) (J : hJ) (k x y w : Int32) : h_Ml l yX7_carry wsX7_carry 4 102 G [rr G 0, .int k, .int x, .int y, .int w] I J (fun ρ I' J' => (if isKd k ∧ Pl x y ∧ isPt w ∧ okA (atC I) (tn k) (I 2 2 &&& I 2 3) then clr (abP (atC I) (tn k) (I 2 2 &&& I 2 3) (tn w / 2) x.toInt64 y.toInt64) (Wy (atC I) (tn k) (I 2 2 &&& I 2 3) (tn w / 2) 3) (nI (tn w % 2)) else -4000000000000000000) = ρ ∧ Scr I J I' J') := by
  refine h_Ml.of (cc := cX7_carry) (maxL := 6) [(0, rr G 0), (1, .int k), (2, .int x), (3, .int y), (4, .int w)] (by decide +kernel) rfl (Nat.le_of_ble_eq_true rfl) rfl ?_
  intro Γ K ret
  have i_X7 : ∀ w ∈ u_ws RX7 TX7 7, w ∈ wsX7_carry := by decide +kernel
  have i_X6 : ∀ w ∈ u_ws RX6 TX6 4, w ∈ wsX7_carry := by decide +kernel
  refine x_iload_n (pc := 0) K 1 dX7_carry_0 rfl rfl ?_
  refine x_calliS (pc := 1) (st := []) (n := 1) K (c_X7_isKind l G _ _ _) gX7_carry_X7_isKind (by decide +kernel) rfl (by decide) (by decide) rfl rfl (Nat.le_of_ble_eq_true rfl) dX7_carry_1 (fun r_1 I_1 J_1 hp_1 => ?_)
  obtain ⟨rfl, rfl, rfl⟩ := hp_1
  refine x_if_eq (pc := 4) (tgt := 31) K dX7_carry_4 (by decide) (fun c_4 => ?_) (fun c_4 => ?_)
  · replace c_4 := bz_0.mp c_4
    refine x_ldc2_w (pc := 31) (v := (-4000000000000000000)) K (by decide +kernel) dX7_carry_31 ?_
    exact ret (pc := 34) dX7_carry_34 (⟨if_neg (fun h => c_4 h.1), Scr.rf⟩)
  · replace c_4 := bz_n0.mp c_4
    obtain ⟨kd, hkd, rfl⟩ := kd_of c_4
    refine x_iload_n (pc := 7) K 2 dX7_carry_7 rfl rfl ?_
    refine x_iload_n (pc := 8) K 3 dX7_carry_8 rfl rfl ?_
    refine x_calliS (pc := 9) (st := []) (n := 2) K (c_X7_isPlace l G _ _ _ _) gX7_carry_X7_isPlace (by decide +kernel) rfl (by decide) (by decide) rfl rfl (Nat.le_of_ble_eq_true rfl) dX7_carry_9 (fun r_9 I_9 J_9 hp_9 => ?_)
    obtain ⟨rfl, rfl, rfl⟩ := hp_9
    refine x_if_eq (pc := 12) (tgt := 31) K dX7_carry_12 (by decide) (fun c_12 => ?_) (fun c_12 => ?_)
    · replace c_12 := bz_0.mp c_12
      refine x_ldc2_w (pc := 31) (v := (-4000000000000000000)) K (by decide +kernel) dX7_carry_31 ?_
      exact ret (pc := 34) dX7_carry_34 (⟨if_neg (fun h => c_12 h.2.1), Scr.rf⟩)
    · replace c_12 := bz_n0.mp c_12
      refine x_iload (pc := 15) K 4 dX7_carry_15 rfl ?_
      refine x_calliS (pc := 17) (st := []) (n := 1) K (c_X7_isPartOfTwo l G _ _ _) gX7_carry_X7_isPartOfTwo (by decide +kernel) rfl (by decide) (by decide) rfl rfl (Nat.le_of_ble_eq_true rfl) dX7_carry_17 (fun r_17 I_17 J_17 hp_17 => ?_)
      obtain ⟨rfl, rfl, rfl⟩ := hp_17
      refine x_if_eq (pc := 20) (tgt := 31) K dX7_carry_20 (by decide) (fun c_20 => ?_) (fun c_20 => ?_)
      · replace c_20 := bz_0.mp c_20
        refine x_ldc2_w (pc := 31) (v := (-4000000000000000000)) K (by decide +kernel) dX7_carry_31 ?_
        exact ret (pc := 34) dX7_carry_34 (⟨if_neg (fun h => c_20 h.2.2.1), Scr.rf⟩)
      · replace c_20 := bz_n0.mp c_20
        obtain ⟨v, hv, rfl⟩ := pt_of c_20
        refine x_aload_n (pc := 23) K 0 dX7_carry_23 rfl rfl ?_
        refine x_iload_n (pc := 24) K 1 dX7_carry_24 rfl rfl ?_
        refine x_calliV (pc := 25) (st := []) (n := 1) K (by decide) sh_0 rfl (c_X7_fits l G _ _ kd (by omega)) gX7_carry_X7_fits (by decide +kernel) rfl (by decide) (by decide) rfl rfl (Nat.le_of_ble_eq_true rfl) dX7_carry_25 (fun r_25 I_25 J_25 hp_25 => ?_)
        obtain ⟨rfl, hS_25, hF_25⟩ := hp_25
        refine x_if_ne (pc := 28) (tgt := 35) K dX7_carry_28 (by decide) (fun c_28 => ?_) (fun c_28 => ?_)
        · replace c_28 := bz_n0.mp c_28
          have hS := hS_25
          have hF := hF_25 c_28
          refine x_aload_n (pc := 35) K 0 dX7_carry_35 rfl rfl ?_
          refine x_getr (r0 := 55) (pc := 36) (index := 28) (C := RX7) (T := TX7) (N := 7) (j0 := 2) (ref := "OldMap") K (by decide) sh_0 rfl i_X7 (by decide) (by decide +kernel) rfl rfl rf_0_2 dX7_carry_36 ?_
          refine x_iload (pc := 39) K 4 dX7_carry_39 rfl ?_
          refine x_iconst (pc := 41) (v := 2) K dX7_carry_41 (by decide) ?_
          refine x_idiv (pc := 42) K dX7_carry_42 (by decide) ?_
          refine x_topie (nI (v / 2)) (nI_div (by omega) (by decide)) ?_
          refine x_callrN (pc := 43) (st := []) (n := 1) K (by decide) sh_55 rfl (c_X0_alongS l G _ _ (v / 2) (by omega)) (host := "OldMap") gX7_carry_X0_along_n132 (by decide +kernel) (by decide +kernel) (by decide +kernel) (by decide +kernel) (by decide +kernel) rfl (by decide) (by decide) rfl rfl (Nat.le_of_ble_eq_true rfl) dX7_carry_43 (fun r_43 I_43 J_43 hp_43 => ?_)
          obtain ⟨rfl, rfl, rfl⟩ := hp_43
          refine x_astore (pc := 46) (lo' := [(5, _), (0, _), (1, _), (2, _), (3, _), (4, _)]) K dX7_carry_46 (by decide) rfl ?_
          refine x_aload (pc := 48) K 0 dX7_carry_48 rfl ?_
          refine x_iload_n (pc := 50) K 3 dX7_carry_50 rfl rfl ?_
          refine x_i2l (pc := 51) K dX7_carry_51 ?_
          refine x_iload_n (pc := 52) K 4 dX7_carry_52 rfl rfl ?_
          refine x_i2l (pc := 53) K dX7_carry_53 ?_
          refine x_calllN (pc := 54) (st := []) (n := 2) K (show 56 + (v / 2) < 91 by omega) (sh_way ((v / 2)) (by omega)) rfl (c_X6_aboveS l G _ _ (v / 2) _ _ (by omega)) (host := "OldMap") gX7_carry_X6_above_n136 (by decide +kernel) (by decide +kernel) (by decide +kernel) (by decide +kernel) (by decide +kernel) rfl (by decide) (by decide) rfl rfl (Nat.le_of_ble_eq_true rfl) dX7_carry_54 (fun r_54 I_54 J_54 hp_54 => ?_)
          obtain ⟨rfl, rfl, rfl⟩ := hp_54
          refine x_tople _ (fit_abv hF hS (by omega)) ?_
          refine x_aload (pc := 57) K 0 dX7_carry_57 rfl ?_
          refine x_getlN (pc := 59) (index := 115) (C := RX6) (T := TX6) (N := 4) (j0 := 3) (host := "OldMap") (ref := "OldMap$Way") K (show 56 + (v / 2) < 91 by omega) (sh_way ((v / 2)) (by omega)) rfl i_X6 (by decide) (by decide +kernel) rfl rfl dX7_carry_59 ?_
          refine x_tople (Wy (atC I) kd (I 2 2 &&& I 2 3) (v / 2) 3) (fit_w hF hS (by omega) (by decide)) ?_
          refine x_iload (pc := 62) K 5 dX7_carry_62 rfl ?_
          refine x_iconst (pc := 64) (v := 2) K dX7_carry_64 (by decide) ?_
          refine x_irem (pc := 65) K dX7_carry_65 (by decide) ?_
          refine x_topie (nI (v % 2)) (nI_remE rfl rfl (by omega) (by decide)) ?_
          refine x_calllS (pc := 66) (st := []) (n := 3) K (c_X7_cleared l G _ _ _ _ _) gX7_carry_X7_cleared (by decide +kernel) rfl (by decide) (by decide) rfl rfl (Nat.le_of_ble_eq_true rfl) dX7_carry_66 (fun r_66 I_66 J_66 hp_66 => ?_)
          obtain ⟨rfl, rfl, rfl⟩ := hp_66
          exact ret (pc := 69) dX7_carry_69 (⟨by rw [if_pos ⟨c_4, c_12, c_20, (by rw [tn_n (by omega)]; exact c_28)⟩, tn_n (by omega), tn_n (by omega)], hS⟩)
        · replace c_28 := bz_0.mp c_28
          refine x_ldc2_w (pc := 31) (v := (-4000000000000000000)) K (by decide +kernel) dX7_carry_31 ?_
          exact ret (pc := 34) dX7_carry_34 (⟨if_neg (fun h => c_28 (by have q := h.2.2.2; rw [tn_n (by omega)] at q; exact q)), hS_25⟩)

set_option maxHeartbeats 1000000 in
set_option maxRecDepth 100000 in
theorem c_X7_off (l : Launch) (G : hQ) (I : hI) (J : hJ) (k p w : Int32) (n : Nat) (hn : I 2 0 = nI n) (h12 : n ≤ 12) : h_Ml l yX7_off wsX7_off 4 102 G [rr G 0, .int k, .int p, .int w] I J (fun ρ I' J' => (if isP I p ∧ isKd k ∧ isPt w ∧ okA (atC I) (tn k) (I 2 2 &&& I 2 3) then clr (offP (atC I) (tn k) (I 2 2 &&& I 2 3) (tn w / 2) (tn p)) (Wy (atC I) (tn k) (I 2 2 &&& I 2 3) (tn w / 2) 3) (nI (tn w % 2)) else -4000000000000000000) = ρ ∧ Scr I J I' J') := by
  refine h_Ml.of (cc := cX7_off) (maxL := 5) [(0, rr G 0), (1, .int k), (2, .int p), (3, .int w)] (by decide +kernel) rfl (Nat.le_of_ble_eq_true rfl) rfl ?_
  intro Γ K ret
  have i_X7 : ∀ w ∈ u_ws RX7 TX7 7, w ∈ wsX7_off := by decide +kernel
  have i_X3 : ∀ w ∈ u_ws RX3 TX3 4, w ∈ wsX7_off := by decide +kernel
  have i_X6 : ∀ w ∈ u_ws RX6 TX6 4, w ∈ wsX7_off := by decide +kernel
  refine x_aload_n (pc := 0) K 0 dX7_off_0 rfl rfl ?_
  refine x_getr (r0 := 1) (pc := 1) (index := 10) (C := RX7) (T := TX7) (N := 7) (j0 := 0) (ref := "OldMap") K (by decide) sh_0 rfl i_X7 (by decide) (by decide +kernel) rfl rfl rf_0_0 dX7_off_1 ?_
  refine x_getrN (r0 := 2) (pc := 4) (index := 21) (C := RX3) (T := TX3) (N := 4) (j0 := 0) (host := "OldMap") (ref := "OldMap$Table") K (by decide) sh_1 rfl i_X3 (by decide) (by decide +kernel) rfl rfl rf_1_0 dX7_off_4 ?_
  refine x_iload_n (pc := 7) K 2 dX7_off_7 rfl rfl ?_
  refine x_calliN (pc := 8) (st := []) (n := 1) K (by decide) sh_2 rfl (c_X2_has l G _ _ _) (host := "OldMap") gX7_off_X2_has_n69 (by decide +kernel) (by decide +kernel) (by decide +kernel) (by decide +kernel) (by decide +kernel) rfl (by decide) (by decide) rfl rfl (Nat.le_of_ble_eq_true rfl) dX7_off_8 (fun r_8 I_8 J_8 hp_8 => ?_)
  obtain ⟨rfl, rfl, rfl⟩ := hp_8
  refine x_if_eq (pc := 11) (tgt := 36) K dX7_off_11 (by decide) (fun c_11 => ?_) (fun c_11 => ?_)
  · replace c_11 := bz_0.mp c_11
    refine x_ldc2_w (pc := 36) (v := (-4000000000000000000)) K (by decide +kernel) dX7_off_36 ?_
    exact ret (pc := 39) dX7_off_39 (⟨if_neg (fun h => c_11 h.1), Scr.rf⟩)
  · replace c_11 := bz_n0.mp c_11
    obtain ⟨q, hq, rfl⟩ := has_of c_11 hn (by omega)
    refine x_iload_n (pc := 14) K 1 dX7_off_14 rfl rfl ?_
    refine x_calliS (pc := 15) (st := []) (n := 1) K (c_X7_isKind l G _ _ _) gX7_off_X7_isKind (by decide +kernel) rfl (by decide) (by decide) rfl rfl (Nat.le_of_ble_eq_true rfl) dX7_off_15 (fun r_15 I_15 J_15 hp_15 => ?_)
    obtain ⟨rfl, rfl, rfl⟩ := hp_15
    refine x_if_eq (pc := 18) (tgt := 36) K dX7_off_18 (by decide) (fun c_18 => ?_) (fun c_18 => ?_)
    · replace c_18 := bz_0.mp c_18
      refine x_ldc2_w (pc := 36) (v := (-4000000000000000000)) K (by decide +kernel) dX7_off_36 ?_
      exact ret (pc := 39) dX7_off_39 (⟨if_neg (fun h => c_18 h.2.1), Scr.rf⟩)
    · replace c_18 := bz_n0.mp c_18
      obtain ⟨kd, hkd, rfl⟩ := kd_of c_18
      refine x_iload_n (pc := 21) K 3 dX7_off_21 rfl rfl ?_
      refine x_calliS (pc := 22) (st := []) (n := 1) K (c_X7_isPartOfTwo l G _ _ _) gX7_off_X7_isPartOfTwo (by decide +kernel) rfl (by decide) (by decide) rfl rfl (Nat.le_of_ble_eq_true rfl) dX7_off_22 (fun r_22 I_22 J_22 hp_22 => ?_)
      obtain ⟨rfl, rfl, rfl⟩ := hp_22
      refine x_if_eq (pc := 25) (tgt := 36) K dX7_off_25 (by decide) (fun c_25 => ?_) (fun c_25 => ?_)
      · replace c_25 := bz_0.mp c_25
        refine x_ldc2_w (pc := 36) (v := (-4000000000000000000)) K (by decide +kernel) dX7_off_36 ?_
        exact ret (pc := 39) dX7_off_39 (⟨if_neg (fun h => c_25 h.2.2.1), Scr.rf⟩)
      · replace c_25 := bz_n0.mp c_25
        obtain ⟨v, hv, rfl⟩ := pt_of c_25
        refine x_aload_n (pc := 28) K 0 dX7_off_28 rfl rfl ?_
        refine x_iload_n (pc := 29) K 1 dX7_off_29 rfl rfl ?_
        refine x_calliV (pc := 30) (st := []) (n := 1) K (by decide) sh_0 rfl (c_X7_fits l G _ _ kd (by omega)) gX7_off_X7_fits (by decide +kernel) rfl (by decide) (by decide) rfl rfl (Nat.le_of_ble_eq_true rfl) dX7_off_30 (fun r_30 I_30 J_30 hp_30 => ?_)
        obtain ⟨rfl, hS_30, hF_30⟩ := hp_30
        refine x_if_ne (pc := 33) (tgt := 40) K dX7_off_33 (by decide) (fun c_33 => ?_) (fun c_33 => ?_)
        · replace c_33 := bz_n0.mp c_33
          have hS := hS_30
          have hF := hF_30 c_33
          refine x_iload_n (pc := 40) K 3 dX7_off_40 rfl rfl ?_
          refine x_iconst (pc := 41) (v := 2) K dX7_off_41 (by decide) ?_
          refine x_idiv (pc := 42) K dX7_off_42 (by decide) ?_
          refine x_topie (nI (v / 2)) (nI_div (by omega) (by decide)) ?_
          refine x_istore (pc := 43) (lo' := [(4, _), (0, _), (1, _), (2, _), (3, _)]) K dX7_off_43 (by decide) rfl ?_
          refine x_aload_n (pc := 45) K 1 dX7_off_45 rfl rfl ?_
          refine x_getr (r0 := 55) (pc := 46) (index := 28) (C := RX7) (T := TX7) (N := 7) (j0 := 2) (ref := "OldMap") K (by decide) sh_0 rfl i_X7 (by decide) (by decide +kernel) rfl rfl rf_0_2 dX7_off_46 ?_
          refine x_iload (pc := 49) K 0 dX7_off_49 rfl ?_
          refine x_iload_n (pc := 51) K 3 dX7_off_51 rfl rfl ?_
          refine x_calllN (pc := 52) (st := []) (n := 2) K (by decide) sh_55 rfl (c_X0_offAboveS l G _ _ (v / 2) q (by omega) (by omega)) (host := "OldMap") gX7_off_X0_offAbove_n140 (by decide +kernel) (by decide +kernel) (by decide +kernel) (by decide +kernel) (by decide +kernel) rfl (by decide) (by decide) rfl rfl (Nat.le_of_ble_eq_true rfl) dX7_off_52 (fun r_52 I_52 J_52 hp_52 => ?_)
          obtain ⟨rfl, rfl, rfl⟩ := hp_52
          refine x_tople (offP (atC I) kd (I 2 2 &&& I 2 3) (v / 2) q) ((fit_off hF (by omega)).trans (by rw [hS.at])) ?_
          refine x_aload_n (pc := 55) K 1 dX7_off_55 rfl rfl ?_
          refine x_getr (r0 := 55) (pc := 56) (index := 28) (C := RX7) (T := TX7) (N := 7) (j0 := 2) (ref := "OldMap") K (by decide) sh_0 rfl i_X7 (by decide) (by decide +kernel) rfl rfl rf_0_2 dX7_off_56 ?_
          refine x_iload (pc := 59) K 0 dX7_off_59 rfl ?_
          refine x_callrN (pc := 61) (st := [_]) (n := 1) K (by decide) sh_55 rfl (c_X0_alongS l G _ _ (v / 2) (by omega)) (host := "OldMap") gX7_off_X0_along_n132 (by decide +kernel) (by decide +kernel) (by decide +kernel) (by decide +kernel) (by decide +kernel) rfl (by decide) (by decide) rfl rfl (Nat.le_of_ble_eq_true rfl) dX7_off_61 (fun r_61 I_61 J_61 hp_61 => ?_)
          obtain ⟨rfl, rfl, rfl⟩ := hp_61
          refine x_getlN (pc := 64) (index := 115) (C := RX6) (T := TX6) (N := 4) (j0 := 3) (host := "OldMap") (ref := "OldMap$Way") K (show 56 + (v / 2) < 91 by omega) (sh_way ((v / 2)) (by omega)) rfl i_X6 (by decide) (by decide +kernel) rfl rfl dX7_off_64 ?_
          refine x_tople (Wy (atC I) kd (I 2 2 &&& I 2 3) (v / 2) 3) (fit_w hF hS (by omega) (by decide)) ?_
          refine x_iload_n (pc := 67) K 4 dX7_off_67 rfl rfl ?_
          refine x_iconst (pc := 68) (v := 2) K dX7_off_68 (by decide) ?_
          refine x_irem (pc := 69) K dX7_off_69 (by decide) ?_
          refine x_topie (nI (v % 2)) (nI_remE rfl rfl (by omega) (by decide)) ?_
          refine x_calllS (pc := 70) (st := []) (n := 3) K (c_X7_cleared l G _ _ _ _ _) gX7_off_X7_cleared (by decide +kernel) rfl (by decide) (by decide) rfl rfl (Nat.le_of_ble_eq_true rfl) dX7_off_70 (fun r_70 I_70 J_70 hp_70 => ?_)
          obtain ⟨rfl, rfl, rfl⟩ := hp_70
          exact ret (pc := 73) dX7_off_73 (⟨by rw [if_pos ⟨c_11, c_18, c_25, (by rw [tn_n (by omega)]; exact c_33)⟩, tn_n (by omega), tn_n (by omega), tn_n (by omega)], hS⟩)
        · replace c_33 := bz_0.mp c_33
          refine x_ldc2_w (pc := 36) (v := (-4000000000000000000)) K (by decide +kernel) dX7_off_36 ?_
          exact ret (pc := 39) dX7_off_39 (⟨if_neg (fun h => c_33 (by have q := h.2.2.2; rw [tn_n (by omega)] at q; exact q)), hS_30⟩)

set_option maxHeartbeats 1000000 in
set_option maxRecDepth 100000 in
theorem c_X7_miss (l : Launch) (G : hQ) (I : hI) (J : hJ) (k w : Int32) : h_Ml l yX7_miss wsX7_miss 4 102 G [rr G 0, .int k, .int w] I J (fun ρ I' J' => (if isKd k ∧ ¬ w < 0 ∧ ¬ (if k = 2 then 3 else 1) < w ∧ okA (atC I) (tn k) (I 2 2 &&& I 2 3) then clr (misP (atC I) (tn k) (I 2 2 &&& I 2 3) (tn w / 2)) (Wy (atC I) (tn k) (I 2 2 &&& I 2 3) (tn w / 2) 3) (nI (tn w % 2)) else -4000000000000000000) = ρ ∧ Scr I J I' J') := by
  refine h_Ml.of (cc := cX7_miss) (maxL := 5) [(0, rr G 0), (1, .int k), (2, .int w)] (by decide +kernel) rfl (Nat.le_of_ble_eq_true rfl) rfl ?_
  intro Γ K ret
  have i_X7 : ∀ w ∈ u_ws RX7 TX7 7, w ∈ wsX7_miss := by decide +kernel
  have i_X6 : ∀ w ∈ u_ws RX6 TX6 4, w ∈ wsX7_miss := by decide +kernel
  refine x_iload_n (pc := 0) K 1 dX7_miss_0 rfl rfl ?_
  refine x_iconst (pc := 1) (v := 2) K dX7_miss_1 (by decide) ?_
  refine x_icmp_ne (pc := 2) (tgt := 9) K dX7_miss_2 (by decide) (fun c_2 => ?_) (fun c_2 => ?_)
  · refine x_iconst (pc := 9) (v := 1) K dX7_miss_9 (by decide) ?_
    refine x_istore_n (pc := 10) (lo' := [(3, _), (0, _), (1, _), (2, _)]) K dX7_miss_10 rfl (by decide) rfl ?_
    refine x_iload_n (pc := 11) K 2 dX7_miss_11 rfl rfl ?_
    refine x_calliS (pc := 12) (st := []) (n := 1) K (c_X7_isKind l G _ _ _) gX7_miss_X7_isKind (by decide +kernel) rfl (by decide) (by decide) rfl rfl (Nat.le_of_ble_eq_true rfl) dX7_miss_12 (fun r_12 I_12 J_12 hp_12 => ?_)
    obtain ⟨rfl, rfl, rfl⟩ := hp_12
    refine x_if_eq (pc := 15) (tgt := 35) K dX7_miss_15 (by decide) (fun c_15 => ?_) (fun c_15 => ?_)
    · replace c_15 := bz_0.mp c_15
      refine x_ldc2_w (pc := 35) (v := (-4000000000000000000)) K (by decide +kernel) dX7_miss_35 ?_
      exact ret (pc := 38) dX7_miss_38 (⟨if_neg (fun h => c_15 h.1), Scr.rf⟩)
    · replace c_15 := bz_n0.mp c_15
      obtain ⟨kd, hkd, rfl⟩ := kd_of c_15
      refine x_iload_n (pc := 18) K 3 dX7_miss_18 rfl rfl ?_
      refine x_if_lt (pc := 19) (tgt := 35) K dX7_miss_19 (by decide) (fun c_19 => ?_) (fun c_19 => ?_)
      · refine x_ldc2_w (pc := 35) (v := (-4000000000000000000)) K (by decide +kernel) dX7_miss_35 ?_
        exact ret (pc := 38) dX7_miss_38 (⟨if_neg (fun h => h.2.1 c_19), Scr.rf⟩)
      · refine x_iload_n (pc := 22) K 3 dX7_miss_22 rfl rfl ?_
        refine x_iload_n (pc := 23) K 0 dX7_miss_23 rfl rfl ?_
        refine x_icmp_gt (pc := 24) (tgt := 35) K dX7_miss_24 (by decide) (fun c_24 => ?_) (fun c_24 => ?_)
        · refine x_ldc2_w (pc := 35) (v := (-4000000000000000000)) K (by decide +kernel) dX7_miss_35 ?_
          exact ret (pc := 38) dX7_miss_38 (⟨if_neg (fun h => h.2.2.1 (by rw [if_neg c_2]; exact c_24)), Scr.rf⟩)
        · refine x_aload_n (pc := 27) K 1 dX7_miss_27 rfl rfl ?_
          refine x_iload_n (pc := 28) K 2 dX7_miss_28 rfl rfl ?_
          refine x_calliV (pc := 29) (st := []) (n := 1) K (by decide) sh_0 rfl (c_X7_fits l G _ _ kd (by omega)) gX7_miss_X7_fits (by decide +kernel) rfl (by decide) (by decide) rfl rfl (Nat.le_of_ble_eq_true rfl) dX7_miss_29 (fun r_29 I_29 J_29 hp_29 => ?_)
          obtain ⟨rfl, hS_29, hF_29⟩ := hp_29
          refine x_if_ne (pc := 32) (tgt := 39) K dX7_miss_32 (by decide) (fun c_32 => ?_) (fun c_32 => ?_)
          · replace c_32 := bz_n0.mp c_32
            have hS := hS_29
            have hF := hF_29 c_32
            obtain ⟨v, hv, rfl⟩ := rg_of (M := 1) (m := 1) rfl c_19 c_24
            have hk2 : kd ≠ 2 := cI_ne rfl rfl (by omega) (by omega) c_2
            refine x_iload_n (pc := 39) K 3 dX7_miss_39 rfl rfl ?_
            refine x_iconst (pc := 40) (v := 2) K dX7_miss_40 (by decide) ?_
            refine x_idiv (pc := 41) K dX7_miss_41 (by decide) ?_
            refine x_topie (nI (v / 2)) (nI_div (by omega) (by decide)) ?_
            refine x_istore (pc := 42) (lo' := [(4, _), (3, _), (0, _), (1, _), (2, _)]) K dX7_miss_42 (by decide) rfl ?_
            refine x_aload_n (pc := 44) K 2 dX7_miss_44 rfl rfl ?_
            refine x_getr (r0 := 55) (pc := 45) (index := 28) (C := RX7) (T := TX7) (N := 7) (j0 := 2) (ref := "OldMap") K (by decide) sh_0 rfl i_X7 (by decide) (by decide +kernel) rfl rfl rf_0_2 dX7_miss_45 ?_
            refine x_iload (pc := 48) K 0 dX7_miss_48 rfl ?_
            refine x_calllN (pc := 50) (st := []) (n := 1) K (by decide) sh_55 rfl (c_X0_missAboveS l G _ _ kd (v / 2) hF.1 (by omega) (by omega) (by omega)) (host := "OldMap") gX7_miss_X0_missAbove_n144 (by decide +kernel) (by decide +kernel) (by decide +kernel) (by decide +kernel) (by decide +kernel) rfl (by decide) (by decide) rfl rfl (Nat.le_of_ble_eq_true rfl) dX7_miss_50 (fun r_50 I_50 J_50 hp_50 => ?_)
            obtain ⟨rfl, rfl, rfl⟩ := hp_50
            refine x_tople _ (fit_mis hF hS (by omega)) ?_
            refine x_aload_n (pc := 53) K 2 dX7_miss_53 rfl rfl ?_
            refine x_getr (r0 := 55) (pc := 54) (index := 28) (C := RX7) (T := TX7) (N := 7) (j0 := 2) (ref := "OldMap") K (by decide) sh_0 rfl i_X7 (by decide) (by decide +kernel) rfl rfl rf_0_2 dX7_miss_54 ?_
            refine x_iload (pc := 57) K 0 dX7_miss_57 rfl ?_
            refine x_callrN (pc := 59) (st := [_]) (n := 1) K (by decide) sh_55 rfl (c_X0_alongS l G _ _ (v / 2) (by omega)) (host := "OldMap") gX7_miss_X0_along_n132 (by decide +kernel) (by decide +kernel) (by decide +kernel) (by decide +kernel) (by decide +kernel) rfl (by decide) (by decide) rfl rfl (Nat.le_of_ble_eq_true rfl) dX7_miss_59 (fun r_59 I_59 J_59 hp_59 => ?_)
            obtain ⟨rfl, rfl, rfl⟩ := hp_59
            refine x_getlN (pc := 62) (index := 115) (C := RX6) (T := TX6) (N := 4) (j0 := 3) (host := "OldMap") (ref := "OldMap$Way") K (show 56 + (v / 2) < 91 by omega) (sh_way ((v / 2)) (by omega)) rfl i_X6 (by decide) (by decide +kernel) rfl rfl dX7_miss_62 ?_
            refine x_tople (Wy (atC I) kd (I 2 2 &&& I 2 3) (v / 2) 3) (fit_w hF hS (by omega) (by decide)) ?_
            refine x_iload_n (pc := 65) K 4 dX7_miss_65 rfl rfl ?_
            refine x_iconst (pc := 66) (v := 2) K dX7_miss_66 (by decide) ?_
            refine x_irem (pc := 67) K dX7_miss_67 (by decide) ?_
            refine x_topie (nI (v % 2)) (nI_remE rfl rfl (by omega) (by decide)) ?_
            refine x_calllS (pc := 68) (st := []) (n := 3) K (c_X7_cleared l G _ _ _ _ _) gX7_miss_X7_cleared (by decide +kernel) rfl (by decide) (by decide) rfl rfl (Nat.le_of_ble_eq_true rfl) dX7_miss_68 (fun r_68 I_68 J_68 hp_68 => ?_)
            obtain ⟨rfl, rfl, rfl⟩ := hp_68
            exact ret (pc := 71) dX7_miss_71 (⟨by rw [if_pos ⟨c_15, c_19, by rw [if_neg c_2]; exact c_24, (by rw [tn_n (by omega)]; exact c_32)⟩, tn_n (by omega), tn_n (by omega)], hS⟩)
          · replace c_32 := bz_0.mp c_32
            refine x_ldc2_w (pc := 35) (v := (-4000000000000000000)) K (by decide +kernel) dX7_miss_35 ?_
            exact ret (pc := 38) dX7_miss_38 (⟨if_neg (fun h => c_32 (by have q := h.2.2.2; rw [tn_n (by omega)] at q; exact q)), hS_29⟩)
  · refine x_iconst (pc := 5) (v := 3) K dX7_miss_5 (by decide) ?_
    refine x_goto (pc := 6) (tgt := 10) K dX7_miss_6 (by decide) ?_
    refine x_istore_n (pc := 10) (lo' := [(3, _), (0, _), (1, _), (2, _)]) K dX7_miss_10 rfl (by decide) rfl ?_
    refine x_iload_n (pc := 11) K 2 dX7_miss_11 rfl rfl ?_
    refine x_calliS (pc := 12) (st := []) (n := 1) K (c_X7_isKind l G _ _ _) gX7_miss_X7_isKind (by decide +kernel) rfl (by decide) (by decide) rfl rfl (Nat.le_of_ble_eq_true rfl) dX7_miss_12 (fun r_12 I_12 J_12 hp_12 => ?_)
    obtain ⟨rfl, rfl, rfl⟩ := hp_12
    refine x_if_eq (pc := 15) (tgt := 35) K dX7_miss_15 (by decide) (fun c_15 => ?_) (fun c_15 => ?_)
    · replace c_15 := bz_0.mp c_15
      refine x_ldc2_w (pc := 35) (v := (-4000000000000000000)) K (by decide +kernel) dX7_miss_35 ?_
      exact ret (pc := 38) dX7_miss_38 (⟨if_neg (fun h => c_15 h.1), Scr.rf⟩)
    · replace c_15 := bz_n0.mp c_15
      obtain ⟨kd, hkd, rfl⟩ := kd_of c_15
      refine x_iload_n (pc := 18) K 3 dX7_miss_18 rfl rfl ?_
      refine x_if_lt (pc := 19) (tgt := 35) K dX7_miss_19 (by decide) (fun c_19 => ?_) (fun c_19 => ?_)
      · refine x_ldc2_w (pc := 35) (v := (-4000000000000000000)) K (by decide +kernel) dX7_miss_35 ?_
        exact ret (pc := 38) dX7_miss_38 (⟨if_neg (fun h => h.2.1 c_19), Scr.rf⟩)
      · refine x_iload_n (pc := 22) K 3 dX7_miss_22 rfl rfl ?_
        refine x_iload_n (pc := 23) K 0 dX7_miss_23 rfl rfl ?_
        refine x_icmp_gt (pc := 24) (tgt := 35) K dX7_miss_24 (by decide) (fun c_24 => ?_) (fun c_24 => ?_)
        · refine x_ldc2_w (pc := 35) (v := (-4000000000000000000)) K (by decide +kernel) dX7_miss_35 ?_
          exact ret (pc := 38) dX7_miss_38 (⟨if_neg (fun h => h.2.2.1 (by rw [if_pos c_2]; exact c_24)), Scr.rf⟩)
        · refine x_aload_n (pc := 27) K 1 dX7_miss_27 rfl rfl ?_
          refine x_iload_n (pc := 28) K 2 dX7_miss_28 rfl rfl ?_
          refine x_calliV (pc := 29) (st := []) (n := 1) K (by decide) sh_0 rfl (c_X7_fits l G _ _ kd (by omega)) gX7_miss_X7_fits (by decide +kernel) rfl (by decide) (by decide) rfl rfl (Nat.le_of_ble_eq_true rfl) dX7_miss_29 (fun r_29 I_29 J_29 hp_29 => ?_)
          obtain ⟨rfl, hS_29, hF_29⟩ := hp_29
          refine x_if_ne (pc := 32) (tgt := 39) K dX7_miss_32 (by decide) (fun c_32 => ?_) (fun c_32 => ?_)
          · replace c_32 := bz_n0.mp c_32
            have hS := hS_29
            have hF := hF_29 c_32
            obtain ⟨v, hv, rfl⟩ := rg_of (M := 3) (m := 3) rfl c_19 c_24
            have hk2 : kd = 2 := cI_eq rfl rfl (by omega) (by omega) c_2
            refine x_iload_n (pc := 39) K 3 dX7_miss_39 rfl rfl ?_
            refine x_iconst (pc := 40) (v := 2) K dX7_miss_40 (by decide) ?_
            refine x_idiv (pc := 41) K dX7_miss_41 (by decide) ?_
            refine x_topie (nI (v / 2)) (nI_div (by omega) (by decide)) ?_
            refine x_istore (pc := 42) (lo' := [(4, _), (3, _), (0, _), (1, _), (2, _)]) K dX7_miss_42 (by decide) rfl ?_
            refine x_aload_n (pc := 44) K 2 dX7_miss_44 rfl rfl ?_
            refine x_getr (r0 := 55) (pc := 45) (index := 28) (C := RX7) (T := TX7) (N := 7) (j0 := 2) (ref := "OldMap") K (by decide) sh_0 rfl i_X7 (by decide) (by decide +kernel) rfl rfl rf_0_2 dX7_miss_45 ?_
            refine x_iload (pc := 48) K 0 dX7_miss_48 rfl ?_
            refine x_calllN (pc := 50) (st := []) (n := 1) K (by decide) sh_55 rfl (c_X0_missAboveS l G _ _ kd (v / 2) hF.1 (by omega) (by omega) (by omega)) (host := "OldMap") gX7_miss_X0_missAbove_n144 (by decide +kernel) (by decide +kernel) (by decide +kernel) (by decide +kernel) (by decide +kernel) rfl (by decide) (by decide) rfl rfl (Nat.le_of_ble_eq_true rfl) dX7_miss_50 (fun r_50 I_50 J_50 hp_50 => ?_)
            obtain ⟨rfl, rfl, rfl⟩ := hp_50
            refine x_tople _ (fit_mis hF hS (by omega)) ?_
            refine x_aload_n (pc := 53) K 2 dX7_miss_53 rfl rfl ?_
            refine x_getr (r0 := 55) (pc := 54) (index := 28) (C := RX7) (T := TX7) (N := 7) (j0 := 2) (ref := "OldMap") K (by decide) sh_0 rfl i_X7 (by decide) (by decide +kernel) rfl rfl rf_0_2 dX7_miss_54 ?_
            refine x_iload (pc := 57) K 0 dX7_miss_57 rfl ?_
            refine x_callrN (pc := 59) (st := [_]) (n := 1) K (by decide) sh_55 rfl (c_X0_alongS l G _ _ (v / 2) (by omega)) (host := "OldMap") gX7_miss_X0_along_n132 (by decide +kernel) (by decide +kernel) (by decide +kernel) (by decide +kernel) (by decide +kernel) rfl (by decide) (by decide) rfl rfl (Nat.le_of_ble_eq_true rfl) dX7_miss_59 (fun r_59 I_59 J_59 hp_59 => ?_)
            obtain ⟨rfl, rfl, rfl⟩ := hp_59
            refine x_getlN (pc := 62) (index := 115) (C := RX6) (T := TX6) (N := 4) (j0 := 3) (host := "OldMap") (ref := "OldMap$Way") K (show 56 + (v / 2) < 91 by omega) (sh_way ((v / 2)) (by omega)) rfl i_X6 (by decide) (by decide +kernel) rfl rfl dX7_miss_62 ?_
            refine x_tople (Wy (atC I) kd (I 2 2 &&& I 2 3) (v / 2) 3) (fit_w hF hS (by omega) (by decide)) ?_
            refine x_iload_n (pc := 65) K 4 dX7_miss_65 rfl rfl ?_
            refine x_iconst (pc := 66) (v := 2) K dX7_miss_66 (by decide) ?_
            refine x_irem (pc := 67) K dX7_miss_67 (by decide) ?_
            refine x_topie (nI (v % 2)) (nI_remE rfl rfl (by omega) (by decide)) ?_
            refine x_calllS (pc := 68) (st := []) (n := 3) K (c_X7_cleared l G _ _ _ _ _) gX7_miss_X7_cleared (by decide +kernel) rfl (by decide) (by decide) rfl rfl (Nat.le_of_ble_eq_true rfl) dX7_miss_68 (fun r_68 I_68 J_68 hp_68 => ?_)
            obtain ⟨rfl, rfl, rfl⟩ := hp_68
            exact ret (pc := 71) dX7_miss_71 (⟨by rw [if_pos ⟨c_15, c_19, by rw [if_pos c_2]; exact c_24, (by rw [tn_n (by omega)]; exact c_32)⟩, tn_n (by omega), tn_n (by omega)], hS⟩)
          · replace c_32 := bz_0.mp c_32
            refine x_ldc2_w (pc := 35) (v := (-4000000000000000000)) K (by decide +kernel) dX7_miss_35 ?_
            exact ret (pc := 38) dX7_miss_38 (⟨if_neg (fun h => c_32 (by have q := h.2.2.2; rw [tn_n (by omega)] at q; exact q)), hS_29⟩)

