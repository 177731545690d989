/-! lying POINTS -/
def offP (a : aT) (kd : Nat) (b : Int32) (ax p : Nat) : Int64 := (a (ax + 2) p).toInt64 * Wy a kd b ax 3 - (Wy a kd b ax 0 * (a 0 p).toInt64 + Wy a kd b ax 1 * (a 1 p).toInt64 + Wy a kd b ax 2)
abbrev farP (a : aT) (kd : Nat) (b : Int32) (ax p : Nat) (lim : Int32) : Prop := ¬ ab64 (offP a kd b ax p) ≤ lim.toInt64 * Wy a kd b ax 3
def fbP (a : aT) (kd : Nat) (b lim : Int32) : Int32 := fstI (fun p => bitOn b p ∧ (farP a kd b 0 p lim ∨ farP a kd b 1 p lim)) 0 12
abbrev agr (a : aT) (kd : Nat) (b lim : Int32) : Prop := okA a kd b ∧ fbP a kd b lim = -5
theorem fstI_congr {P Q : Nat → Prop} [DecidablePred P] [DecidablePred Q] (h : ∀ p, P p ↔ Q p) : ∀ (d k : Nat), fstI P k d = fstI Q k d
  | 0, _ => rfl
  | d + 1, k => by
    unfold fstI
    by_cases p : P k
    · rw [if_pos p, if_pos ((h k).mp p)]
    · rw [if_neg p, if_neg (fun q => p ((h k).mpr q)), fstI_congr h d (k + 1)]
theorem fit_off {I : hI} {J : hJ} {kd ax p : Nat} {b : Int32} (hF : Fit I J kd b) (ha : ax < 2) : offA I J ax p = offP (atC I) kd b ax p := by
  unfold offA offP abvW
  rw [hF.2.2.2.2 ax 0 ha (by decide), hF.2.2.2.2 ax 1 ha (by decide), hF.2.2.2.2 ax 2 ha (by decide), hF.2.2.2.2 ax 3 ha (by decide)]
  simp [atC, show ax + 2 < 4 by omega]
theorem fit_far {I : hI} {J : hJ} {kd ax p : Nat} {b lim : Int32} (hF : Fit I J kd b) (ha : ax < 2) : far I J ax p lim ↔ farP (atC I) kd b ax p lim := by
  unfold far farP
  rw [fit_off hF ha, hF.2.2.2.2 ax 3 ha (by decide)]
theorem fb_fit {I : hI} {J : hJ} {kd : Nat} {b lim : Int32} {a : aT} (hF : Fit I J kd b) (ha : atC I = a) : fstI (fun p => bitOn (I 55 5) p ∧ (far I J 0 p lim ∨ far I J 1 p lim)) 0 12 = fbP a kd b lim := by
  subst ha
  refine fstI_congr (fun p => ?_) 12 0
  rw [fit_far hF (by decide), fit_far hF (by decide), hF.2.1]
/-- the sets in their one order, from the fewest to more -/
def lsN (A : Int32 → Prop) [DecidablePred A] (cb : Int32) : Nat → Int32 → Int32
  | 0, _ => -5
  | f + 1, S => if S &&& (cb ^^^ -1) = 0 ∧ A S then S else lsN A cb f (nxS S)
def lyC (a : aT) (kd : Nat) (cb lim : Int32) : Int32 := if okA a kd cb then lsN (fun S => agr a kd (cb &&& (S ^^^ -1)) lim) cb 299 0 else -3
def lyK (a : aT) (kind cb lim : Int32) : Int32 := if isKd kind then lyC a kind.toNatClampNeg cb lim else -1
theorem kd_of {x : Int32} (h : isKd x) : ∃ k : Nat, k < 3 ∧ x = nI k := by
  obtain ⟨j, hj, e⟩ := nI_of2 (x := x) (M := 2) (n := 2) rfl (Int32.not_lt.mpr h.1) h.2
  exact ⟨j, by omega, e⟩
theorem isKd_n {k : Nat} (h : k < 3) : isKd (nI k) := by
  rcases (show k = 0 ∨ k = 1 ∨ k = 2 by omega) with rfl | rfl | rfl <;> decide
theorem lyK_n {a : aT} {k : Nat} {cb lim : Int32} (h : k < 3) : lyK a (nI k) cb lim = lyC a k cb lim := by
  unfold lyK
  rw [if_pos (isKd_n h), nI_clamp (by omega)]
theorem Scr.cb {I I1 : hI} {J J1 : hJ} (h : Scr I J I1 J1) : I1 2 2 &&& I1 2 3 = I 2 2 &&& I 2 3 := by rw [h.1 2 (by omega)]
theorem Scr.lim {I I1 : hI} {J J1 : hJ} (h : Scr I J I1 J1) : I1 0 5 = I 0 5 := by rw [h.1 0 (by omega)]
set_option maxHeartbeats 1000000 in
set_option maxRecDepth 100000 in
theorem c_X7_fits (l : Launch) (G : hQ) (I : hI) (J : hJ) (kd : Nat) (hk : kd < 3) : h_Mi l yX7_fits wsX7_fits 3 81 G [rr G 0, .int (nI kd)] I J (fun ρ I' J' => bz (okA (atC I) kd (I 2 2 &&& I 2 3)) = ρ ∧ Scr I J I' J' ∧ (okA (atC I) kd (I 2 2 &&& I 2 3) → Fit I' J' kd (I 2 2 &&& I 2 3))) := by
  refine h_Mi.of (ty := .boolean) (cc := cX7_fits) (maxL := 2) [(0, rr G 0), (1, .int (nI kd))] (by decide +kernel) rfl (Nat.le_of_ble_eq_true rfl) rfl ?_
  intro Γ K ret
  have i_X7 : ∀ w ∈ u_ws RX7 TX7 7, w ∈ wsX7_fits := by decide +kernel
  have i_X3 : ∀ w ∈ u_ws RX3 TX3 4, w ∈ wsX7_fits := by decide +kernel
  refine x_aload_n (pc := 0) K 0 dX7_fits_0 rfl rfl ?_
  refine x_getr (r0 := 55) (pc := 1) (index := 28) (C := RX7) (T := TX7) (N := 7) (j0 := 2) (ref := "OldMap") K (by decide) sh_0 rfl i_X7 (by decide) (by decide +kernel) rfl rfl rf_0_2 dX7_fits_1 ?_
  refine x_iload_n (pc := 4) K 1 dX7_fits_4 rfl rfl ?_
  refine x_aload_n (pc := 5) K 0 dX7_fits_5 rfl rfl ?_
  refine x_getr (r0 := 1) (pc := 6) (index := 10) (C := RX7) (T := TX7) (N := 7) (j0 := 0) (ref := "OldMap") K (by decide) sh_0 rfl i_X7 (by decide) (by decide +kernel) rfl rfl rf_0_0 dX7_fits_6 ?_
  refine x_getrN (r0 := 2) (pc := 9) (index := 21) (C := RX3) (T := TX3) (N := 4) (j0 := 0) (host := "OldMap") (ref := "OldMap$Table") K (by decide) sh_1 rfl i_X3 (by decide) (by decide +kernel) rfl rfl rf_1_0 dX7_fits_9 ?_
  refine x_calliN (pc := 12) (st := [_, _]) (n := 0) K (by decide) sh_2 rfl (c_X2_counting l G _ _ ) (host := "OldMap") gX7_fits_X2_counting_n225 (by decide +kernel) (by decide +kernel) (by decide +kernel) (by decide +kernel) (by decide +kernel) rfl (by decide) (by decide) rfl rfl (Nat.le_of_ble_eq_true rfl) dX7_fits_12 (fun r_12 I_12 J_12 hp_12 => ?_)
  obtain ⟨rfl, rfl, rfl⟩ := hp_12
  refine x_calliN (pc := 15) (st := []) (n := 2) K (by decide) sh_55 rfl (c_X0_fit l G _ _ kd _ (by omega)) (host := "OldMap") gX7_fits_X0_fit_n248 (by decide +kernel) (by decide +kernel) (by decide +kernel) (by decide +kernel) (by decide +kernel) rfl (by decide) (by decide) rfl rfl (Nat.le_of_ble_eq_true rfl) dX7_fits_15 (fun r_15 I_15 J_15 hp_15 => ?_)
  obtain ⟨rfl, hS_15, hF_15⟩ := hp_15
  exact ret (pc := 18) dX7_fits_18 (⟨rfl, hS_15, hF_15⟩) bz_nar

set_option maxHeartbeats 1000000 in
set_option maxRecDepth 100000 in
theorem c_X7_agreeWithout (l : Launch) (G : hQ) (I : hI) (J : hJ) (kd : Nat) (S : Int32) (a : aT) (cb lim : Int32) (ha : atC I = a) (hc : I 2 2 &&& I 2 3 = cb) (hl : I 0 5 = lim) (hk : kd < 3) : h_Mi l yX7_agreeWithout wsX7_agreeWithout 4 94 G [rr G 0, .int (nI kd), .int S] I J (fun ρ I' J' => bz (agr a kd (cb &&& (S ^^^ -1)) lim) = ρ ∧ Scr I J I' J') := by
  refine h_Mi.of (ty := .boolean) (cc := cX7_agreeWithout) (maxL := 3) [(0, rr G 0), (1, .int (nI kd)), (2, .int S)] (by decide +kernel) rfl (Nat.le_of_ble_eq_true rfl) rfl ?_
  intro Γ K ret
  have i_X7 : ∀ w ∈ u_ws RX7 TX7 7, w ∈ wsX7_agreeWithout := by decide +kernel
  have i_X3 : ∀ w ∈ u_ws RX3 TX3 4, w ∈ wsX7_agreeWithout := by decide +kernel
  refine x_aload_n (pc := 0) K 0 dX7_agreeWithout_0 rfl rfl ?_
  refine x_getr (r0 := 55) (pc := 1) (index := 28) (C := RX7) (T := TX7) (N := 7) (j0 := 2) (ref := "OldMap") K (by decide) sh_0 rfl i_X7 (by decide) (by decide +kernel) rfl rfl rf_0_2 dX7_agreeWithout_1 ?_
  refine x_iload_n (pc := 4) K 1 dX7_agreeWithout_4 rfl rfl ?_
  refine x_aload_n (pc := 5) K 0 dX7_agreeWithout_5 rfl rfl ?_
  refine x_getr (r0 := 1) (pc := 6) (index := 10) (C := RX7) (T := TX7) (N := 7) (j0 := 0) (ref := "OldMap") K (by decide) sh_0 rfl i_X7 (by decide) (by decide +kernel) rfl rfl rf_0_0 dX7_agreeWithout_6 ?_
  refine x_getrN (r0 := 2) (pc := 9) (index := 21) (C := RX3) (T := TX3) (N := 4) (j0 := 0) (host := "OldMap") (ref := "OldMap$Table") K (by decide) sh_1 rfl i_X3 (by decide) (by decide +kernel) rfl rfl rf_1_0 dX7_agreeWithout_9 ?_
  refine x_calliN (pc := 12) (st := [_, _]) (n := 0) K (by decide) sh_2 rfl (c_X2_counting l G _ _ ) (host := "OldMap") gX7_agreeWithout_X2_counting_n225 (by decide +kernel) (by decide +kernel) (by decide +kernel) (by decide +kernel) (by decide +kernel) rfl (by decide) (by decide) rfl rfl (Nat.le_of_ble_eq_true rfl) dX7_agreeWithout_12 (fun r_12 I_12 J_12 hp_12 => ?_)
  obtain ⟨rfl, rfl, rfl⟩ := hp_12
  refine x_topie cb hc ?_
  refine x_iload_n (pc := 15) K 2 dX7_agreeWithout_15 rfl rfl ?_
  refine x_iconst (pc := 16) (v := -1) K dX7_agreeWithout_16 (by decide) ?_
  refine x_ixor (pc := 17) K dX7_agreeWithout_17 ?_
  refine x_iand (pc := 18) K dX7_agreeWithout_18 ?_
  refine x_calliN (pc := 19) (st := []) (n := 2) K (by decide) sh_55 rfl (c_X0_fit l G _ _ kd _ (by omega)) (host := "OldMap") gX7_agreeWithout_X0_fit_n248 (by decide +kernel) (by decide +kernel) (by decide +kernel) (by decide +kernel) (by decide +kernel) rfl (by decide) (by decide) rfl rfl (Nat.le_of_ble_eq_true rfl) dX7_agreeWithout_19 (fun r_19 I_19 J_19 hp_19 => ?_)
  obtain ⟨rfl, hS_19, hF_19⟩ := hp_19
  refine x_if_eq (pc := 22) (tgt := 45) K dX7_agreeWithout_22 (by decide) (fun c_22 => ?_) (fun c_22 => ?_)
  · replace c_22 := bz_0.mp c_22
    rw [ha] at c_22
    refine x_iconst (pc := 45) (v := 0) K dX7_agreeWithout_45 (by decide) ?_
    exact ret (pc := 46) dX7_agreeWithout_46 (⟨bz_0.mpr (fun h => c_22 h.1), hS_19⟩) rfl
  · replace c_22 := bz_n0.mp c_22
    have hF := hF_19 c_22
    rw [ha] at c_22
    refine x_aload_n (pc := 25) K 0 dX7_agreeWithout_25 rfl rfl ?_
    refine x_getr (r0 := 55) (pc := 26) (index := 28) (C := RX7) (T := TX7) (N := 7) (j0 := 2) (ref := "OldMap") K (by decide) sh_0 rfl i_X7 (by decide) (by decide +kernel) rfl rfl rf_0_2 dX7_agreeWithout_26 ?_
    refine x_aload_n (pc := 29) K 0 dX7_agreeWithout_29 rfl rfl ?_
    refine x_geti (pc := 30) (index := 52) (C := RX7) (T := TX7) (N := 7) (j0 := 5) (ref := "OldMap") K (by decide) sh_0 rfl i_X7 (by decide) (by decide +kernel) rfl rfl dX7_agreeWithout_30 ?_
    refine x_topie lim (hS_19.lim.trans hl) ?_
    refine x_calliN (pc := 33) (st := []) (n := 1) K (by decide) sh_55 rfl (c_X0_firstBeyond l G _ _ _) (host := "OldMap") gX7_agreeWithout_X0_firstBeyond_n148 (by decide +kernel) (by decide +kernel) (by decide +kernel) (by decide +kernel) (by decide +kernel) rfl (by decide) (by decide) rfl rfl (Nat.le_of_ble_eq_true rfl) dX7_agreeWithout_33 (fun r_33 I_33 J_33 hp_33 => ?_)
    obtain ⟨rfl, rfl, rfl⟩ := hp_33
    refine x_bipush (pc := 36) (v := -5) K dX7_agreeWithout_36 (by decide) ?_
    refine x_icmp_ne (pc := 38) (tgt := 45) K dX7_agreeWithout_38 (by decide) (fun c_38 => ?_) (fun c_38 => ?_)
    · refine x_iconst (pc := 45) (v := 0) K dX7_agreeWithout_45 (by decide) ?_
      exact ret (pc := 46) dX7_agreeWithout_46 (⟨bz_0.mpr (fun h => c_38 ((fb_fit hF (hS_19.at.trans ha)).trans h.2)), hS_19⟩) rfl
    · refine x_iconst (pc := 41) (v := 1) K dX7_agreeWithout_41 (by decide) ?_
      refine x_goto (pc := 42) (tgt := 46) K dX7_agreeWithout_42 (by decide) ?_
      exact ret (pc := 46) dX7_agreeWithout_46 (⟨bz_1.mpr ⟨c_22, (fb_fit hF (hS_19.at.trans ha)).symm.trans c_38⟩, hS_19⟩) rfl

set_option maxHeartbeats 1000000 in
set_option maxRecDepth 100000 in
theorem c_X7_lyingSet (l : Launch) (G : hQ) (I : hI) (J : hJ) (kind : Int32) (a : aT) (cb lim : Int32) (ha : atC I = a) (hc : I 2 2 &&& I 2 3 = cb) (hl : I 0 5 = lim) : h_Mi l yX7_lyingSet wsX7_lyingSet 5 116 G [rr G 0, .int kind] I J (fun ρ I' J' => lyK a kind cb lim = ρ ∧ Scr I J I' J') := by
  refine h_Mi.of (ty := .int) (cc := cX7_lyingSet) (maxL := 5) [(0, rr G 0), (1, .int kind)] (by decide +kernel) rfl (Nat.le_of_ble_eq_true rfl) rfl ?_
  intro Γ K ret
  have i_X7 : ∀ w ∈ u_ws RX7 TX7 7, w ∈ wsX7_lyingSet := by decide +kernel
  have i_X3 : ∀ w ∈ u_ws RX3 TX3 4, w ∈ wsX7_lyingSet := by decide +kernel
  have loop : ∀ k, k ≤ 299 → ∀ (kd : Nat) (T : Int32) (I1 : hI) (J1 : hJ), (kd < 3) → (Scr I J I1 J1) → (lyK a kind cb lim = lsN (fun S => agr a kd (cb &&& (S ^^^ -1)) lim) cb (299 - k) T) → h_WW Γ G 36 [(4, .int (nI k)), (3, .int T), (2, .int cb), (0, rr G 0), (1, .int (nI kd))] [] I1 J1 := by
    refine loopU 299 (fun k hk ih => ?_)
    intro kd T I1 J1
    intro hkd hS hi
    refine x_iload (pc := 36) K 0 dX7_lyingSet_36 rfl ?_
    refine x_sipush (pc := 38) (v := 299) K dX7_lyingSet_38 (by decide) ?_
    refine x_icmp_ge (pc := 41) (tgt := 74) K dX7_lyingSet_41 (by decide) (fun c_41 => ?_) (fun c_41 => ?_)
    · replace c_41 := cI_le (a := 299) (b := k) rfl rfl (by omega) (by omega) c_41
      refine x_bipush (pc := 74) (v := -5) K dX7_lyingSet_74 (by decide) ?_
      exact ret (pc := 76) dX7_lyingSet_76 (⟨by rw [hi, show 299 - k = 0 by omega]; rfl, hS⟩) rfl
    · replace c_41 := cI_nle (a := 299) (b := k) rfl rfl (by omega) (by omega) c_41
      refine x_iload_n (pc := 44) K 1 dX7_lyingSet_44 rfl rfl ?_
      refine x_iload_n (pc := 45) K 2 dX7_lyingSet_45 rfl rfl ?_
      refine x_iconst (pc := 46) (v := -1) K dX7_lyingSet_46 (by decide) ?_
      refine x_ixor (pc := 47) K dX7_lyingSet_47 ?_
      refine x_iand (pc := 48) K dX7_lyingSet_48 ?_
      refine x_if_ne (pc := 49) (tgt := 63) K dX7_lyingSet_49 (by decide) (fun c_49 => ?_) (fun c_49 => ?_)
      · refine x_iload_n (pc := 63) K 1 dX7_lyingSet_63 rfl rfl ?_
        refine x_calliS (pc := 64) (st := []) (n := 1) K (c_X7_nextSet l G _ _ _) gX7_lyingSet_X7_nextSet (by decide +kernel) rfl (by decide) (by decide) rfl rfl (Nat.le_of_ble_eq_true rfl) dX7_lyingSet_64 (fun r_64 I_64 J_64 hp_64 => ?_)
        obtain ⟨rfl, rfl, rfl⟩ := hp_64
        refine x_istore_n (pc := 67) (lo' := [(3, _), (4, _), (2, _), (0, _), (1, _)]) K dX7_lyingSet_67 rfl (by decide) rfl ?_
        refine x_iinc (pc := 68) (q0 := 1) (v := nI (k + 1)) (lo' := [(4, _), (3, _), (2, _), (0, _), (1, _)]) K dX7_lyingSet_68 rfl (nI_incE rfl) (by decide) rfl ?_
        refine x_goto (pc := 71) (tgt := 36) K dX7_lyingSet_71 (by decide) ?_
        refine x_lo (lo' := [(4, _), (3, _), (2, _), (0, _), (1, _)]) [0, 1, 2, 3, 4] rfl ?_
        exact x_loe (by rfl) (ih (by omega) kd _ _ _ hkd hS (by rw [hi, show 299 - k = (299 - (k + 1)) + 1 by omega, lsN, if_neg (fun q => c_49 q.1)]))
      · refine x_aload_n (pc := 52) K 3 dX7_lyingSet_52 rfl rfl ?_
        refine x_iload_n (pc := 53) K 4 dX7_lyingSet_53 rfl rfl ?_
        refine x_iload_n (pc := 54) K 1 dX7_lyingSet_54 rfl rfl ?_
        refine x_calliV (pc := 55) (st := []) (n := 2) K (by decide) sh_0 rfl (c_X7_agreeWithout l G _ _ kd _ a cb lim (hS.at.trans ha) (hS.cb.trans hc) (hS.lim.trans hl) (by omega)) gX7_lyingSet_X7_agreeWithout (by decide +kernel) rfl (by decide) (by decide) rfl rfl (Nat.le_of_ble_eq_true rfl) dX7_lyingSet_55 (fun r_55 I_55 J_55 hp_55 => ?_)
        obtain ⟨rfl, hS_55⟩ := hp_55
        refine x_if_eq (pc := 58) (tgt := 63) K dX7_lyingSet_58 (by decide) (fun c_58 => ?_) (fun c_58 => ?_)
        · replace c_58 := bz_0.mp c_58
          refine x_iload_n (pc := 63) K 1 dX7_lyingSet_63 rfl rfl ?_
          refine x_calliS (pc := 64) (st := []) (n := 1) K (c_X7_nextSet l G _ _ _) gX7_lyingSet_X7_nextSet (by decide +kernel) rfl (by decide) (by decide) rfl rfl (Nat.le_of_ble_eq_true rfl) dX7_lyingSet_64 (fun r_64 I_64 J_64 hp_64 => ?_)
          obtain ⟨rfl, rfl, rfl⟩ := hp_64
          refine x_istore_n (pc := 67) (lo' := [(3, _), (4, _), (2, _), (0, _), (1, _)]) K dX7_lyingSet_67 rfl (by decide) rfl ?_
          refine x_iinc (pc := 68) (q0 := 1) (v := nI (k + 1)) (lo' := [(4, _), (3, _), (2, _), (0, _), (1, _)]) K dX7_lyingSet_68 rfl (nI_incE rfl) (by decide) rfl ?_
          refine x_goto (pc := 71) (tgt := 36) K dX7_lyingSet_71 (by decide) ?_
          refine x_lo (lo' := [(4, _), (3, _), (2, _), (0, _), (1, _)]) [0, 1, 2, 3, 4] rfl ?_
          exact x_loe (by rfl) (ih (by omega) kd _ _ _ hkd (hS.tr hS_55) (by rw [hi, show 299 - k = (299 - (k + 1)) + 1 by omega, lsN, if_neg (fun q => c_58 q.2)]))
        · replace c_58 := bz_n0.mp c_58
          refine x_iload_n (pc := 61) K 1 dX7_lyingSet_61 rfl rfl ?_
          exact ret (pc := 62) dX7_lyingSet_62 (⟨by rw [hi, show 299 - k = (299 - (k + 1)) + 1 by omega, lsN, if_pos (And.intro c_49 c_58)], hS.tr hS_55⟩) rfl
  refine x_iload_n (pc := 0) K 1 dX7_lyingSet_0 rfl rfl ?_
  refine x_calliS (pc := 1) (st := []) (n := 1) K (c_X7_isKind l G _ _ _) gX7_lyingSet_X7_isKind (by decide +kernel) rfl (by decide) (by decide) rfl rfl (Nat.le_of_ble_eq_true rfl) dX7_lyingSet_1 (fun r_1 I_1 J_1 hp_1 => ?_)
  obtain ⟨rfl, rfl, rfl⟩ := hp_1
  refine x_if_ne (pc := 4) (tgt := 9) K dX7_lyingSet_4 (by decide) (fun c_4 => ?_) (fun c_4 => ?_)
  · replace c_4 := bz_n0.mp c_4
    obtain ⟨kd, hkd, rfl⟩ := kd_of c_4
    refine x_aload_n (pc := 9) K 0 dX7_lyingSet_9 rfl rfl ?_
    refine x_iload_n (pc := 10) K 1 dX7_lyingSet_10 rfl rfl ?_
    refine x_calliV (pc := 11) (st := []) (n := 1) K (by decide) sh_0 rfl (c_X7_fits l G _ _ kd (by omega)) gX7_lyingSet_X7_fits (by decide +kernel) rfl (by decide) (by decide) rfl rfl (Nat.le_of_ble_eq_true rfl) dX7_lyingSet_11 (fun r_11 I_11 J_11 hp_11 => ?_)
    obtain ⟨rfl, hT, -⟩ := hp_11
    rw [ha, hc]
    refine x_if_ne (pc := 14) (tgt := 20) K dX7_lyingSet_14 (by decide) (fun c_14 => ?_) (fun c_14 => ?_)
    · replace c_14 := bz_n0.mp c_14
      refine x_aload_n (pc := 20) K 0 dX7_lyingSet_20 rfl rfl ?_
      refine x_getr (r0 := 1) (pc := 21) (index := 10) (C := RX7) (T := TX7) (N := 7) (j0 := 0) (ref := "OldMap") K (by decide) sh_0 rfl i_X7 (by decide) (by decide +kernel) rfl rfl rf_0_0 dX7_lyingSet_21 ?_
      refine x_getrN (r0 := 2) (pc := 24) (index := 21) (C := RX3) (T := TX3) (N := 4) (j0 := 0) (host := "OldMap") (ref := "OldMap$Table") K (by decide) sh_1 rfl i_X3 (by decide) (by decide +kernel) rfl rfl rf_1_0 dX7_lyingSet_24 ?_
      refine x_calliN (pc := 27) (st := []) (n := 0) K (by decide) sh_2 rfl (c_X2_counting l G _ _ ) (host := "OldMap") gX7_lyingSet_X2_counting_n225 (by decide +kernel) (by decide +kernel) (by decide +kernel) (by decide +kernel) (by decide +kernel) rfl (by decide) (by decide) rfl rfl (Nat.le_of_ble_eq_true rfl) dX7_lyingSet_27 (fun r_27 I_27 J_27 hp_27 => ?_)
      obtain ⟨rfl, rfl, rfl⟩ := hp_27
      refine x_topie cb (hT.cb.trans hc) ?_
      refine x_istore_n (pc := 30) (lo' := [(2, _), (0, _), (1, _)]) K dX7_lyingSet_30 rfl (by decide) rfl ?_
      refine x_iconst (pc := 31) (v := 0) K dX7_lyingSet_31 (by decide) ?_
      refine x_istore_n (pc := 32) (lo' := [(3, _), (2, _), (0, _), (1, _)]) K dX7_lyingSet_32 rfl (by decide) rfl ?_
      refine x_iconst (pc := 33) (v := 0) K dX7_lyingSet_33 (by decide) ?_
      refine x_istore (pc := 34) (lo' := [(4, _), (3, _), (2, _), (0, _), (1, _)]) K dX7_lyingSet_34 (by decide) rfl ?_
      refine x_lo (lo' := [(4, _), (3, _), (2, _), (0, _), (1, _)]) [0, 1, 2, 3, 4] rfl ?_
      exact x_loe (by rfl) (loop 0 (Nat.zero_le _) kd _ _ _ hkd hT ((lyK_n hkd).trans (if_pos c_14)))
    · replace c_14 := bz_0.mp c_14
      refine x_bipush (pc := 17) (v := -3) K dX7_lyingSet_17 (by decide) ?_
      exact ret (pc := 19) dX7_lyingSet_19 (⟨by rw [lyK_n hkd, lyC, if_neg c_14], hT⟩) rfl
  · replace c_4 := bz_0.mp c_4
    refine x_iconst (pc := 7) (v := -1) K dX7_lyingSet_7 (by decide) ?_
    exact ret (pc := 8) dX7_lyingSet_8 (⟨if_neg c_4, Scr.rf⟩) rfl

