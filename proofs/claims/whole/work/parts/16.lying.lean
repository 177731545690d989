/-! lying POINTS -/
def offP (a : aT) (kd : Nat) (b : Int32) (ax p : Nat) : Int64 := (a (ax + 2) p).toInt64 * Wy a kd b ax 3 - (Wy a kd b ax 0 * (a 0 p).toInt64 + Wy a kd b ax 1 * (a 1 p).toInt64 + Wy a kd b ax 2)
abbrev farP (a : aT) (kd : Nat) (b : Int32) (ax p : Nat) (lim : Int32) : Prop := ¬ ab64 (offP a kd b ax p) ≤ lim.toInt64 * Wy a kd b ax 3
def fbP (a : aT) (kd : Nat) (b lim : Int32) : Int32 := fstI (fun p => bitOn b p ∧ (farP a kd b 0 p lim ∨ farP a kd b 1 p lim)) 0 12
abbrev agr (a : aT) (kd : Nat) (b lim : Int32) : Prop := okA a kd b ∧ fbP a kd b lim = -5
theorem fstI_congr {P Q : Nat → Prop} [DecidablePred P] [DecidablePred Q] (h : ∀ p, P p ↔ Q p) : ∀ (d k : Nat), fstI P k d = fstI Q k d
  | 0, _ => rfl
  | d + 1, k => by
    unfold fstI
    by_cases p : P k
    · rw [if_pos p, if_pos ((h k).mp p)]
    · rw [if_neg p, if_neg (fun q => p ((h k).mpr q)), fstI_congr h d (k + 1)]
theorem fit_off {I : hI} {J : hJ} {kd ax p : Nat} {b : Int32} (hF : Fit I J kd b) (ha : ax < 2) : offA I J ax p = offP (atC I) kd b ax p := by
  unfold offA offP abvW
  rw [hF.2.2.2.2 ax 0 ha (by decide), hF.2.2.2.2 ax 1 ha (by decide), hF.2.2.2.2 ax 2 ha (by decide), hF.2.2.2.2 ax 3 ha (by decide)]
  simp [atC, show ax + 2 < 4 by omega]
theorem fit_far {I : hI} {J : hJ} {kd ax p : Nat} {b lim : Int32} (hF : Fit I J kd b) (ha : ax < 2) : far I J ax p lim ↔ farP (atC I) kd b ax p lim := by
  unfold far farP
  rw [fit_off hF ha, hF.2.2.2.2 ax 3 ha (by decide)]
theorem fb_fit {I : hI} {J : hJ} {kd : Nat} {b lim : Int32} {a : aT} (hF : Fit I J kd b) (ha : atC I = a) : fstI (fun p => bitOn (I 55 5) p ∧ (far I J 0 p lim ∨ far I J 1 p lim)) 0 12 = fbP a kd b lim := by
  subst ha
  refine fstI_congr (fun p => ?_) 12 0
  rw [fit_far hF (by decide), fit_far hF (by decide), hF.2.1]
def lsC (A : Int32 → Prop) [DecidablePred A] (cb : Int32) : Nat → Int32 → Int32
  | 0, _ => -5
  | f + 1, S => if cb < S then -5 else if S &&& (cb ^^^ -1) = 0 ∧ A S then S else lsC A cb f (nxt S)
def lsA (a : aT) (kd : Nat) (cb lim : Int32) (s : Nat) : Int32 := lsC (fun S => agr a kd (cb &&& (S ^^^ -1)) lim) cb 220 ((1 <<< (nI s &&& 31)) - 1)
def lyC (a : aT) (kd : Nat) (cb lim : Int32) : Int32 := if okA a kd cb then (if agr a kd (cb &&& (0 ^^^ -1)) lim then 0 else if lsA a kd cb lim 1 = -5 then (if lsA a kd cb lim 2 = -5 then lsA a kd cb lim 3 else lsA a kd cb lim 2) else lsA a kd cb lim 1) else -3
def lyK (a : aT) (kind cb lim : Int32) : Int32 := if isKd kind then lyC a kind.toNatClampNeg cb lim else -1
theorem kd_of {x : Int32} (h : isKd x) : ∃ k : Nat, k < 3 ∧ x = nI k := by
  obtain ⟨j, hj, e⟩ := nI_of2 (x := x) (M := 2) (n := 2) rfl (Int32.not_lt.mpr h.1) h.2
  exact ⟨j, by omega, e⟩
theorem isKd_n {k : Nat} (h : k < 3) : isKd (nI k) := by
  rcases (show k = 0 ∨ k = 1 ∨ k = 2 by omega) with rfl | rfl | rfl <;> decide
theorem lyK_n {a : aT} {k : Nat} {cb lim : Int32} (h : k < 3) : lyK a (nI k) cb lim = lyC a k cb lim := by
  unfold lyK
  rw [if_pos (isKd_n h), nI_clamp (by omega)]
theorem Scr.cb {I I1 : hI} {J J1 : hJ} (h : Scr I J I1 J1) : I1 2 2 &&& I1 2 3 = I 2 2 &&& I 2 3 := by rw [h.1 2 (by omega)]
theorem Scr.lim {I I1 : hI} {J J1 : hJ} (h : Scr I J I1 J1) : I1 0 5 = I 0 5 := by rw [h.1 0 (by omega)]
set_option maxHeartbeats 1000000 in
set_option maxRecDepth 100000 in
theorem c_X7_fits (l : Launch) (G : hQ) (I : hI) (J : hJ) (kd : Nat) (hk : kd < 3) : h_Mi l yX7_fits wsX7_fits 3 81 G [rr G 0, .int (nI kd)] I J (fun ρ I' J' => bz (okA (atC I) kd (I 2 2 &&& I 2 3)) = ρ ∧ Scr I J I' J' ∧ (okA (atC I) kd (I 2 2 &&& I 2 3) → Fit I' J' kd (I 2 2 &&& I 2 3))) := by
  refine h_Mi.of (ty := .boolean) (cc := cX7_fits) (maxL := 2) [(0, rr G 0), (1, .int (nI kd))] (by decide +kernel) rfl (Nat.le_of_ble_eq_true rfl) rfl ?_
  intro Γ K ret
  have i_X7 : ∀ w ∈ u_ws RX7 TX7 7, w ∈ wsX7_fits := by decide +kernel
  have i_X3 : ∀ w ∈ u_ws RX3 TX3 4, w ∈ wsX7_fits := by decide +kernel
  refine x_aload_n (pc := 0) K 0 dX7_fits_0 rfl rfl ?_
  refine x_getr (r0 := 55) (pc := 1) (index := 28) (C := RX7) (T := TX7) (N := 7) (j0 := 2) (ref := "OldMap") K (by decide) sh_0 rfl i_X7 (by decide) (by decide +kernel) rfl rfl rf_0_2 dX7_fits_1 ?_
  refine x_iload_n (pc := 4) K 1 dX7_fits_4 rfl rfl ?_
  refine x_aload_n (pc := 5) K 0 dX7_fits_5 rfl rfl ?_
  refine x_getr (r0 := 1) (pc := 6) (index := 10) (C := RX7) (T := TX7) (N := 7) (j0 := 0) (ref := "OldMap") K (by decide) sh_0 rfl i_X7 (by decide) (by decide +kernel) rfl rfl rf_0_0 dX7_fits_6 ?_
  refine x_getrN (r0 := 2) (pc := 9) (index := 21) (C := RX3) (T := TX3) (N := 4) (j0 := 0) (host := "OldMap") (ref := "OldMap$Table") K (by decide) sh_1 rfl i_X3 (by decide) (by decide +kernel) rfl rfl rf_1_0 dX7_fits_9 ?_
  refine x_calliN (pc := 12) (st := [_, _]) (n := 0) K (by decide) sh_2 rfl (c_X2_counting l G _ _ ) (host := "OldMap") gX7_fits_X2_counting_n225 (by decide +kernel) (by decide +kernel) (by decide +kernel) (by decide +kernel) (by decide +kernel) rfl (by decide) (by decide) rfl rfl (Nat.le_of_ble_eq_true rfl) dX7_fits_12 (fun r_12 I_12 J_12 hp_12 => ?_)
  obtain ⟨rfl, rfl, rfl⟩ := hp_12
  refine x_calliN (pc := 15) (st := []) (n := 2) K (by decide) sh_55 rfl (c_X0_fit l G _ _ kd _ (by omega)) (host := "OldMap") gX7_fits_X0_fit_n248 (by decide +kernel) (by decide +kernel) (by decide +kernel) (by decide +kernel) (by decide +kernel) rfl (by decide) (by decide) rfl rfl (Nat.le_of_ble_eq_true rfl) dX7_fits_15 (fun r_15 I_15 J_15 hp_15 => ?_)
  obtain ⟨rfl, hS_15, hF_15⟩ := hp_15
  exact ret (pc := 18) dX7_fits_18 (⟨rfl, hS_15, hF_15⟩) bz_nar

set_option maxHeartbeats 1000000 in
set_option maxRecDepth 100000 in
theorem c_X7_agreeWithout (l : Launch) (G : hQ) (I : hI) (J : hJ) (kd : Nat) (S : Int32) (a : aT) (cb lim : Int32) (ha : atC I = a) (hc : I 2 2 &&& I 2 3 = cb) (hl : I 0 5 = lim) (hk : kd < 3) : h_Mi l yX7_agreeWithout wsX7_agreeWithout 4 94 G [rr G 0, .int (nI kd), .int S] I J (fun ρ I' J' => bz (agr a kd (cb &&& (S ^^^ -1)) lim) = ρ ∧ Scr I J I' J') := by
  refine h_Mi.of (ty := .boolean) (cc := cX7_agreeWithout) (maxL := 3) [(0, rr G 0), (1, .int (nI kd)), (2, .int S)] (by decide +kernel) rfl (Nat.le_of_ble_eq_true rfl) rfl ?_
  intro Γ K ret
  have i_X7 : ∀ w ∈ u_ws RX7 TX7 7, w ∈ wsX7_agreeWithout := by decide +kernel
  have i_X3 : ∀ w ∈ u_ws RX3 TX3 4, w ∈ wsX7_agreeWithout := by decide +kernel
  refine x_aload_n (pc := 0) K 0 dX7_agreeWithout_0 rfl rfl ?_
  refine x_getr (r0 := 55) (pc := 1) (index := 28) (C := RX7) (T := TX7) (N := 7) (j0 := 2) (ref := "OldMap") K (by decide) sh_0 rfl i_X7 (by decide) (by decide +kernel) rfl rfl rf_0_2 dX7_agreeWithout_1 ?_
  refine x_iload_n (pc := 4) K 1 dX7_agreeWithout_4 rfl rfl ?_
  refine x_aload_n (pc := 5) K 0 dX7_agreeWithout_5 rfl rfl ?_
  refine x_getr (r0 := 1) (pc := 6) (index := 10) (C := RX7) (T := TX7) (N := 7) (j0 := 0) (ref := "OldMap") K (by decide) sh_0 rfl i_X7 (by decide) (by decide +kernel) rfl rfl rf_0_0 dX7_agreeWithout_6 ?_
  refine x_getrN (r0 := 2) (pc := 9) (index := 21) (C := RX3) (T := TX3) (N := 4) (j0 := 0) (host := "OldMap") (ref := "OldMap$Table") K (by decide) sh_1 rfl i_X3 (by decide) (by decide +kernel) rfl rfl rf_1_0 dX7_agreeWithout_9 ?_
  refine x_calliN (pc := 12) (st := [_, _]) (n := 0) K (by decide) sh_2 rfl (c_X2_counting l G _ _ ) (host := "OldMap") gX7_agreeWithout_X2_counting_n225 (by decide +kernel) (by decide +kernel) (by decide +kernel) (by decide +kernel) (by decide +kernel) rfl (by decide) (by decide) rfl rfl (Nat.le_of_ble_eq_true rfl) dX7_agreeWithout_12 (fun r_12 I_12 J_12 hp_12 => ?_)
  obtain ⟨rfl, rfl, rfl⟩ := hp_12
  refine x_topie cb hc ?_
  refine x_iload_n (pc := 15) K 2 dX7_agreeWithout_15 rfl rfl ?_
  refine x_iconst (pc := 16) (v := -1) K dX7_agreeWithout_16 (by decide) ?_
  refine x_ixor (pc := 17) K dX7_agreeWithout_17 ?_
  refine x_iand (pc := 18) K dX7_agreeWithout_18 ?_
  refine x_calliN (pc := 19) (st := []) (n := 2) K (by decide) sh_55 rfl (c_X0_fit l G _ _ kd _ (by omega)) (host := "OldMap") gX7_agreeWithout_X0_fit_n248 (by decide +kernel) (by decide +kernel) (by decide +kernel) (by decide +kernel) (by decide +kernel) rfl (by decide) (by decide) rfl rfl (Nat.le_of_ble_eq_true rfl) dX7_agreeWithout_19 (fun r_19 I_19 J_19 hp_19 => ?_)
  obtain ⟨rfl, hS_19, hF_19⟩ := hp_19
  refine x_if_eq (pc := 22) (tgt := 45) K dX7_agreeWithout_22 (by decide) (fun c_22 => ?_) (fun c_22 => ?_)
  · replace c_22 := bz_0.mp c_22
    rw [ha] at c_22
    refine x_iconst (pc := 45) (v := 0) K dX7_agreeWithout_45 (by decide) ?_
    exact ret (pc := 46) dX7_agreeWithout_46 (⟨bz_0.mpr (fun h => c_22 h.1), hS_19⟩) rfl
  · replace c_22 := bz_n0.mp c_22
    have hF := hF_19 c_22
    rw [ha] at c_22
    refine x_aload_n (pc := 25) K 0 dX7_agreeWithout_25 rfl rfl ?_
    refine x_getr (r0 := 55) (pc := 26) (index := 28) (C := RX7) (T := TX7) (N := 7) (j0 := 2) (ref := "OldMap") K (by decide) sh_0 rfl i_X7 (by decide) (by decide +kernel) rfl rfl rf_0_2 dX7_agreeWithout_26 ?_
    refine x_aload_n (pc := 29) K 0 dX7_agreeWithout_29 rfl rfl ?_
    refine x_geti (pc := 30) (index := 52) (C := RX7) (T := TX7) (N := 7) (j0 := 5) (ref := "OldMap") K (by decide) sh_0 rfl i_X7 (by decide) (by decide +kernel) rfl rfl dX7_agreeWithout_30 ?_
    refine x_topie lim (hS_19.lim.trans hl) ?_
    refine x_calliN (pc := 33) (st := []) (n := 1) K (by decide) sh_55 rfl (c_X0_firstBeyond l G _ _ _) (host := "OldMap") gX7_agreeWithout_X0_firstBeyond_n148 (by decide +kernel) (by decide +kernel) (by decide +kernel) (by decide +kernel) (by decide +kernel) rfl (by decide) (by decide) rfl rfl (Nat.le_of_ble_eq_true rfl) dX7_agreeWithout_33 (fun r_33 I_33 J_33 hp_33 => ?_)
    obtain ⟨rfl, rfl, rfl⟩ := hp_33
    refine x_bipush (pc := 36) (v := -5) K dX7_agreeWithout_36 (by decide) ?_
    refine x_icmp_ne (pc := 38) (tgt := 45) K dX7_agreeWithout_38 (by decide) (fun c_38 => ?_) (fun c_38 => ?_)
    · refine x_iconst (pc := 45) (v := 0) K dX7_agreeWithout_45 (by decide) ?_
      exact ret (pc := 46) dX7_agreeWithout_46 (⟨bz_0.mpr (fun h => c_38 ((fb_fit hF (hS_19.at.trans ha)).trans h.2)), hS_19⟩) rfl
    · refine x_iconst (pc := 41) (v := 1) K dX7_agreeWithout_41 (by decide) ?_
      refine x_goto (pc := 42) (tgt := 46) K dX7_agreeWithout_42 (by decide) ?_
      exact ret (pc := 46) dX7_agreeWithout_46 (⟨bz_1.mpr ⟨c_22, (fb_fit hF (hS_19.at.trans ha)).symm.trans c_38⟩, hS_19⟩) rfl

set_option maxHeartbeats 1000000 in
set_option maxRecDepth 100000 in
theorem c_X7_leastSet (l : Launch) (G : hQ) (I : hI) (J : hJ) (kd s : Nat) (a : aT) (cb lim : Int32) (ha : atC I = a) (hc : I 2 2 &&& I 2 3 = cb) (hl : I 0 5 = lim) (hk : kd < 3) : h_Mi l yX7_leastSet wsX7_leastSet 5 116 G [rr G 0, .int (nI kd), .int (nI s)] I J (fun ρ I' J' => lsA a kd cb lim s = ρ ∧ Scr I J I' J') := by
  refine h_Mi.of (ty := .int) (cc := cX7_leastSet) (maxL := 6) [(0, rr G 0), (1, .int (nI kd)), (2, .int (nI s))] (by decide +kernel) rfl (Nat.le_of_ble_eq_true rfl) rfl ?_
  intro Γ K ret
  have i_X7 : ∀ w ∈ u_ws RX7 TX7 7, w ∈ wsX7_leastSet := by decide +kernel
  have i_X3 : ∀ w ∈ u_ws RX3 TX3 4, w ∈ wsX7_leastSet := by decide +kernel
  have loop : ∀ k, k ≤ 220 → ∀ (T : Int32) (I1 : hI) (J1 : hJ), (Scr I J I1 J1) → (lsA a kd cb lim s = lsC (fun S => agr a kd (cb &&& (S ^^^ -1)) lim) cb (220 - k) T) → h_WW Γ G 21 [(5, .int (nI k)), (4, .int T), (3, .int cb), (0, rr G 0), (1, .int (nI kd)), (2, .int (nI s))] [] I1 J1 := by
    refine loopU 220 (fun k hk ih => ?_)
    intro T I1 J1
    intro hS hi
    refine x_iload (pc := 21) K 0 dX7_leastSet_21 rfl ?_
    refine x_sipush (pc := 23) (v := 220) K dX7_leastSet_23 (by decide) ?_
    refine x_icmp_ge (pc := 26) (tgt := 70) K dX7_leastSet_26 (by decide) (fun c_26 => ?_) (fun c_26 => ?_)
    · replace c_26 := cI_le (a := 220) (b := k) rfl rfl (by omega) (by omega) c_26
      refine x_bipush (pc := 70) (v := -5) K dX7_leastSet_70 (by decide) ?_
      exact ret (pc := 72) dX7_leastSet_72 (⟨by rw [hi, show 220 - k = 0 by omega]; rfl, hS⟩) rfl
    · replace c_26 := cI_nle (a := 220) (b := k) rfl rfl (by omega) (by omega) c_26
      refine x_iload (pc := 29) K 1 dX7_leastSet_29 rfl ?_
      refine x_iload_n (pc := 31) K 2 dX7_leastSet_31 rfl rfl ?_
      refine x_icmp_gt (pc := 32) (tgt := 70) K dX7_leastSet_32 (by decide) (fun c_32 => ?_) (fun c_32 => ?_)
      · refine x_bipush (pc := 70) (v := -5) K dX7_leastSet_70 (by decide) ?_
        exact ret (pc := 72) dX7_leastSet_72 (⟨by rw [hi, show 220 - k = (220 - (k + 1)) + 1 by omega, lsC, if_pos c_32], hS⟩) rfl
      · refine x_iload (pc := 35) K 1 dX7_leastSet_35 rfl ?_
        refine x_iload_n (pc := 37) K 2 dX7_leastSet_37 rfl rfl ?_
        refine x_iconst (pc := 38) (v := -1) K dX7_leastSet_38 (by decide) ?_
        refine x_ixor (pc := 39) K dX7_leastSet_39 ?_
        refine x_iand (pc := 40) K dX7_leastSet_40 ?_
        refine x_if_ne (pc := 41) (tgt := 57) K dX7_leastSet_41 (by decide) (fun c_41 => ?_) (fun c_41 => ?_)
        · refine x_iload (pc := 57) K 1 dX7_leastSet_57 rfl ?_
          refine x_calliS (pc := 59) (st := []) (n := 1) K (c_X7_nextOfSameSize l G _ _ _) gX7_leastSet_X7_nextOfSameSize (by decide +kernel) rfl (by decide) (by decide) rfl rfl (Nat.le_of_ble_eq_true rfl) dX7_leastSet_59 (fun r_59 I_59 J_59 hp_59 => ?_)
          obtain ⟨rfl, rfl, rfl⟩ := hp_59
          refine x_istore (pc := 62) (lo' := [(4, _), (5, _), (3, _), (0, _), (1, _), (2, _)]) K dX7_leastSet_62 (by decide) rfl ?_
          refine x_iinc (pc := 64) (q0 := 1) (v := nI (k + 1)) (lo' := [(5, _), (4, _), (3, _), (0, _), (1, _), (2, _)]) K dX7_leastSet_64 rfl (nI_incE rfl) (by decide) rfl ?_
          refine x_goto (pc := 67) (tgt := 21) K dX7_leastSet_67 (by decide) ?_
          refine x_lo (lo' := [(5, _), (4, _), (3, _), (0, _), (1, _), (2, _)]) [0, 1, 2, 3, 4, 5] rfl ?_
          exact x_loe (by rfl) (ih (by omega) _ _ _ hS (by rw [hi, show 220 - k = (220 - (k + 1)) + 1 by omega, lsC, if_neg c_32, if_neg (fun q => c_41 q.1)]))
        · refine x_aload_n (pc := 44) K 3 dX7_leastSet_44 rfl rfl ?_
          refine x_iload_n (pc := 45) K 4 dX7_leastSet_45 rfl rfl ?_
          refine x_iload (pc := 46) K 1 dX7_leastSet_46 rfl ?_
          refine x_calliV (pc := 48) (st := []) (n := 2) K (by decide) sh_0 rfl (c_X7_agreeWithout l G _ _ kd _ a cb lim (hS.at.trans ha) (hS.cb.trans hc) (hS.lim.trans hl) (by omega)) gX7_leastSet_X7_agreeWithout (by decide +kernel) rfl (by decide) (by decide) rfl rfl (Nat.le_of_ble_eq_true rfl) dX7_leastSet_48 (fun r_48 I_48 J_48 hp_48 => ?_)
          obtain ⟨rfl, hS_48⟩ := hp_48
          refine x_if_eq (pc := 51) (tgt := 57) K dX7_leastSet_51 (by decide) (fun c_51 => ?_) (fun c_51 => ?_)
          · replace c_51 := bz_0.mp c_51
            refine x_iload (pc := 57) K 1 dX7_leastSet_57 rfl ?_
            refine x_calliS (pc := 59) (st := []) (n := 1) K (c_X7_nextOfSameSize l G _ _ _) gX7_leastSet_X7_nextOfSameSize (by decide +kernel) rfl (by decide) (by decide) rfl rfl (Nat.le_of_ble_eq_true rfl) dX7_leastSet_59 (fun r_59 I_59 J_59 hp_59 => ?_)
            obtain ⟨rfl, rfl, rfl⟩ := hp_59
            refine x_istore (pc := 62) (lo' := [(4, _), (5, _), (3, _), (0, _), (1, _), (2, _)]) K dX7_leastSet_62 (by decide) rfl ?_
            refine x_iinc (pc := 64) (q0 := 1) (v := nI (k + 1)) (lo' := [(5, _), (4, _), (3, _), (0, _), (1, _), (2, _)]) K dX7_leastSet_64 rfl (nI_incE rfl) (by decide) rfl ?_
            refine x_goto (pc := 67) (tgt := 21) K dX7_leastSet_67 (by decide) ?_
            refine x_lo (lo' := [(5, _), (4, _), (3, _), (0, _), (1, _), (2, _)]) [0, 1, 2, 3, 4, 5] rfl ?_
            exact x_loe (by rfl) (ih (by omega) _ _ _ (hS.tr hS_48) (by rw [hi, show 220 - k = (220 - (k + 1)) + 1 by omega, lsC, if_neg c_32, if_neg (fun q => c_51 q.2)]))
          · replace c_51 := bz_n0.mp c_51
            refine x_iload (pc := 54) K 1 dX7_leastSet_54 rfl ?_
            exact ret (pc := 56) dX7_leastSet_56 (⟨by rw [hi, show 220 - k = (220 - (k + 1)) + 1 by omega, lsC, if_neg c_32, if_pos (And.intro c_41 c_51)], hS.tr hS_48⟩) rfl
  refine x_aload_n (pc := 0) K 0 dX7_leastSet_0 rfl rfl ?_
  refine x_getr (r0 := 1) (pc := 1) (index := 10) (C := RX7) (T := TX7) (N := 7) (j0 := 0) (ref := "OldMap") K (by decide) sh_0 rfl i_X7 (by decide) (by decide +kernel) rfl rfl rf_0_0 dX7_leastSet_1 ?_
  refine x_getrN (r0 := 2) (pc := 4) (index := 21) (C := RX3) (T := TX3) (N := 4) (j0 := 0) (host := "OldMap") (ref := "OldMap$Table") K (by decide) sh_1 rfl i_X3 (by decide) (by decide +kernel) rfl rfl rf_1_0 dX7_leastSet_4 ?_
  refine x_calliN (pc := 7) (st := []) (n := 0) K (by decide) sh_2 rfl (c_X2_counting l G _ _ ) (host := "OldMap") gX7_leastSet_X2_counting_n225 (by decide +kernel) (by decide +kernel) (by decide +kernel) (by decide +kernel) (by decide +kernel) rfl (by decide) (by decide) rfl rfl (Nat.le_of_ble_eq_true rfl) dX7_leastSet_7 (fun r_7 I_7 J_7 hp_7 => ?_)
  obtain ⟨rfl, rfl, rfl⟩ := hp_7
  refine x_topie cb hc ?_
  refine x_istore_n (pc := 10) (lo' := [(3, _), (0, _), (1, _), (2, _)]) K dX7_leastSet_10 rfl (by decide) rfl ?_
  refine x_iconst (pc := 11) (v := 1) K dX7_leastSet_11 (by decide) ?_
  refine x_iload_n (pc := 12) K 3 dX7_leastSet_12 rfl rfl ?_
  refine x_ishl (pc := 13) K dX7_leastSet_13 ?_
  refine x_iconst (pc := 14) (v := 1) K dX7_leastSet_14 (by decide) ?_
  refine x_isub (pc := 15) K dX7_leastSet_15 ?_
  refine x_istore (pc := 16) (lo' := [(4, _), (3, _), (0, _), (1, _), (2, _)]) K dX7_leastSet_16 (by decide) rfl ?_
  refine x_iconst (pc := 18) (v := 0) K dX7_leastSet_18 (by decide) ?_
  refine x_istore (pc := 19) (lo' := [(5, _), (4, _), (3, _), (0, _), (1, _), (2, _)]) K dX7_leastSet_19 (by decide) rfl ?_
  refine x_lo (lo' := [(5, _), (4, _), (3, _), (0, _), (1, _), (2, _)]) [0, 1, 2, 3, 4, 5] rfl ?_
  exact x_loe (by rfl) (loop 0 (Nat.zero_le _) _ _ _ Scr.rf rfl)

set_option maxHeartbeats 1000000 in
set_option maxRecDepth 100000 in
theorem c_X7_lyingSet (l : Launch) (G : hQ) (I : hI) (J : hJ) (kind : Int32) (a : aT) (cb lim : Int32) (ha : atC I = a) (hc : I 2 2 &&& I 2 3 = cb) (hl : I 0 5 = lim) : h_Mi l yX7_lyingSet wsX7_lyingSet 6 141 G [rr G 0, .int kind] I J (fun ρ I' J' => lyK a kind cb lim = ρ ∧ Scr I J I' J') := by
  refine h_Mi.of (ty := .int) (cc := cX7_lyingSet) (maxL := 4) [(0, rr G 0), (1, .int kind)] (by decide +kernel) rfl (Nat.le_of_ble_eq_true rfl) rfl ?_
  intro Γ K ret
  refine x_iload_n (pc := 0) K 1 dX7_lyingSet_0 rfl rfl ?_
  refine x_calliS (pc := 1) (st := []) (n := 1) K (c_X7_isKind l G _ _ _) gX7_lyingSet_X7_isKind (by decide +kernel) rfl (by decide) (by decide) rfl rfl (Nat.le_of_ble_eq_true rfl) dX7_lyingSet_1 (fun r_1 I_1 J_1 hp_1 => ?_)
  obtain ⟨rfl, rfl, rfl⟩ := hp_1
  refine x_if_ne (pc := 4) (tgt := 9) K dX7_lyingSet_4 (by decide) (fun c_4 => ?_) (fun c_4 => ?_)
  · replace c_4 := bz_n0.mp c_4
    obtain ⟨kd, hkd, rfl⟩ := kd_of c_4
    refine x_aload_n (pc := 9) K 0 dX7_lyingSet_9 rfl rfl ?_
    refine x_iload_n (pc := 10) K 1 dX7_lyingSet_10 rfl rfl ?_
    refine x_calliV (pc := 11) (st := []) (n := 1) K (by decide) sh_0 rfl (c_X7_fits l G _ _ kd (by omega)) gX7_lyingSet_X7_fits (by decide +kernel) rfl (by decide) (by decide) rfl rfl (Nat.le_of_ble_eq_true rfl) dX7_lyingSet_11 (fun r_11 I_11 J_11 hp_11 => ?_)
    obtain ⟨rfl, hT, -⟩ := hp_11
    rw [ha, hc]
    refine x_if_ne (pc := 14) (tgt := 20) K dX7_lyingSet_14 (by decide) (fun c_14 => ?_) (fun c_14 => ?_)
    · replace c_14 := bz_n0.mp c_14
      refine x_aload_n (pc := 20) K 0 dX7_lyingSet_20 rfl rfl ?_
      refine x_iload_n (pc := 21) K 1 dX7_lyingSet_21 rfl rfl ?_
      refine x_iconst (pc := 22) (v := 0) K dX7_lyingSet_22 (by decide) ?_
      refine x_calliV (pc := 23) (st := []) (n := 2) K (by decide) sh_0 rfl (c_X7_agreeWithout l G _ _ kd _ a cb lim (hT.at.trans ha) (hT.cb.trans hc) (hT.lim.trans hl) (by omega)) gX7_lyingSet_X7_agreeWithout (by decide +kernel) rfl (by decide) (by decide) rfl rfl (Nat.le_of_ble_eq_true rfl) dX7_lyingSet_23 (fun r_23 I_23 J_23 hp_23 => ?_)
      obtain ⟨rfl, hS_23⟩ := hp_23
      replace hT := hT.tr hS_23
      refine x_if_eq (pc := 26) (tgt := 33) K dX7_lyingSet_26 (by decide) (fun c_26 => ?_) (fun c_26 => ?_)
      · replace c_26 := bz_0.mp c_26
        refine x_bipush (pc := 33) (v := -5) K dX7_lyingSet_33 (by decide) ?_
        refine x_istore_n (pc := 35) (lo' := [(2, _), (0, _), (1, _)]) K dX7_lyingSet_35 rfl (by decide) rfl ?_
        refine x_iconst (pc := 36) (v := 1) K dX7_lyingSet_36 (by decide) ?_
        refine x_istore_n (pc := 37) (lo' := [(3, _), (2, _), (0, _), (1, _)]) K dX7_lyingSet_37 rfl (by decide) rfl ?_
        refine x_iload_n (pc := 38) K 0 dX7_lyingSet_38 rfl rfl ?_
        refine x_iconst (pc := 39) (v := 3) K dX7_lyingSet_39 (by decide) ?_
        refine x_icmp_gt (pc := 40) (tgt := 62) K dX7_lyingSet_40 (by decide) (fun c_40 => ?_) (fun c_40 => ?_)
        · replace c_40 := cI_lt (a := 3) (b := 1) rfl rfl (by omega) (by omega) c_40
          omega
        · replace c_40 := cI_nlt (a := 3) (b := 1) rfl rfl (by omega) (by omega) c_40
          refine x_iload_n (pc := 43) K 1 dX7_lyingSet_43 rfl rfl ?_
          refine x_bipush (pc := 44) (v := -5) K dX7_lyingSet_44 (by decide) ?_
          refine x_icmp_ne (pc := 46) (tgt := 62) K dX7_lyingSet_46 (by decide) (fun c_46 => ?_) (fun c_46 => ?_)
          · exact absurd c_46 (by decide)
          · refine x_aload_n (pc := 49) K 2 dX7_lyingSet_49 rfl rfl ?_
            refine x_iload_n (pc := 50) K 3 dX7_lyingSet_50 rfl rfl ?_
            refine x_iload_n (pc := 51) K 0 dX7_lyingSet_51 rfl rfl ?_
            refine x_calliV (pc := 52) (st := []) (n := 2) K (by decide) sh_0 rfl (c_X7_leastSet l G _ _ kd 1 a cb lim (hT.at.trans ha) (hT.cb.trans hc) (hT.lim.trans hl) (by omega)) gX7_lyingSet_X7_leastSet (by decide +kernel) rfl (by decide) (by decide) rfl rfl (Nat.le_of_ble_eq_true rfl) dX7_lyingSet_52 (fun r_52 I_52 J_52 hp_52 => ?_)
            obtain ⟨e_1, hS_52⟩ := hp_52
            replace hT := hT.tr hS_52
            subst e_1
            refine x_istore_n (pc := 55) (lo' := [(2, _), (3, _), (0, _), (1, _)]) K dX7_lyingSet_55 rfl (by decide) rfl ?_
            refine x_iinc (pc := 56) (q0 := 1) (v := nI (1 + 1)) (lo' := [(3, _), (2, _), (0, _), (1, _)]) K dX7_lyingSet_56 rfl (nI_incE rfl) (by decide) rfl ?_
            refine x_goto (pc := 59) (tgt := 38) K dX7_lyingSet_59 (by decide) ?_
            refine x_iload_n (pc := 38) K 0 dX7_lyingSet_38 rfl rfl ?_
            refine x_iconst (pc := 39) (v := 3) K dX7_lyingSet_39 (by decide) ?_
            refine x_icmp_gt (pc := 40) (tgt := 62) K dX7_lyingSet_40 (by decide) (fun c_40_1 => ?_) (fun c_40_1 => ?_)
            · replace c_40_1 := cI_lt (a := 3) (b := (1 + 1)) rfl rfl (by omega) (by omega) c_40_1
              omega
            · replace c_40_1 := cI_nlt (a := 3) (b := (1 + 1)) rfl rfl (by omega) (by omega) c_40_1
              refine x_iload_n (pc := 43) K 1 dX7_lyingSet_43 rfl rfl ?_
              refine x_bipush (pc := 44) (v := -5) K dX7_lyingSet_44 (by decide) ?_
              refine x_icmp_ne (pc := 46) (tgt := 62) K dX7_lyingSet_46 (by decide) (fun c_46_1 => ?_) (fun c_46_1 => ?_)
              · refine x_iload_n (pc := 62) K 1 dX7_lyingSet_62 rfl rfl ?_
                exact ret (pc := 63) dX7_lyingSet_63 (⟨by rw [lyK_n hkd, lyC, if_pos c_14, if_neg c_26]; first | rw [if_neg c_46_1] | rw [if_pos c_46_1, if_neg c_46_2] | rw [if_pos c_46_1, if_pos c_46_2], hT⟩) rfl
              · refine x_aload_n (pc := 49) K 2 dX7_lyingSet_49 rfl rfl ?_
                refine x_iload_n (pc := 50) K 3 dX7_lyingSet_50 rfl rfl ?_
                refine x_iload_n (pc := 51) K 0 dX7_lyingSet_51 rfl rfl ?_
                refine x_calliV (pc := 52) (st := []) (n := 2) K (by decide) sh_0 rfl (c_X7_leastSet l G _ _ kd (1 + 1) a cb lim (hT.at.trans ha) (hT.cb.trans hc) (hT.lim.trans hl) (by omega)) gX7_lyingSet_X7_leastSet (by decide +kernel) rfl (by decide) (by decide) rfl rfl (Nat.le_of_ble_eq_true rfl) dX7_lyingSet_52 (fun r_52 I_52 J_52 hp_52 => ?_)
                obtain ⟨e_2, hS_52⟩ := hp_52
                replace hT := hT.tr hS_52
                subst e_2
                refine x_istore_n (pc := 55) (lo' := [(2, _), (3, _), (0, _), (1, _)]) K dX7_lyingSet_55 rfl (by decide) rfl ?_
                refine x_iinc (pc := 56) (q0 := 1) (v := nI ((1 + 1) + 1)) (lo' := [(3, _), (2, _), (0, _), (1, _)]) K dX7_lyingSet_56 rfl (nI_incE rfl) (by decide) rfl ?_
                refine x_goto (pc := 59) (tgt := 38) K dX7_lyingSet_59 (by decide) ?_
                refine x_iload_n (pc := 38) K 0 dX7_lyingSet_38 rfl rfl ?_
                refine x_iconst (pc := 39) (v := 3) K dX7_lyingSet_39 (by decide) ?_
                refine x_icmp_gt (pc := 40) (tgt := 62) K dX7_lyingSet_40 (by decide) (fun c_40_2 => ?_) (fun c_40_2 => ?_)
                · replace c_40_2 := cI_lt (a := 3) (b := ((1 + 1) + 1)) rfl rfl (by omega) (by omega) c_40_2
                  omega
                · replace c_40_2 := cI_nlt (a := 3) (b := ((1 + 1) + 1)) rfl rfl (by omega) (by omega) c_40_2
                  refine x_iload_n (pc := 43) K 1 dX7_lyingSet_43 rfl rfl ?_
                  refine x_bipush (pc := 44) (v := -5) K dX7_lyingSet_44 (by decide) ?_
                  refine x_icmp_ne (pc := 46) (tgt := 62) K dX7_lyingSet_46 (by decide) (fun c_46_2 => ?_) (fun c_46_2 => ?_)
                  · refine x_iload_n (pc := 62) K 1 dX7_lyingSet_62 rfl rfl ?_
                    exact ret (pc := 63) dX7_lyingSet_63 (⟨by rw [lyK_n hkd, lyC, if_pos c_14, if_neg c_26]; first | rw [if_neg c_46_1] | rw [if_pos c_46_1, if_neg c_46_2] | rw [if_pos c_46_1, if_pos c_46_2], hT⟩) rfl
                  · refine x_aload_n (pc := 49) K 2 dX7_lyingSet_49 rfl rfl ?_
                    refine x_iload_n (pc := 50) K 3 dX7_lyingSet_50 rfl rfl ?_
                    refine x_iload_n (pc := 51) K 0 dX7_lyingSet_51 rfl rfl ?_
                    refine x_calliV (pc := 52) (st := []) (n := 2) K (by decide) sh_0 rfl (c_X7_leastSet l G _ _ kd ((1 + 1) + 1) a cb lim (hT.at.trans ha) (hT.cb.trans hc) (hT.lim.trans hl) (by omega)) gX7_lyingSet_X7_leastSet (by decide +kernel) rfl (by decide) (by decide) rfl rfl (Nat.le_of_ble_eq_true rfl) dX7_lyingSet_52 (fun r_52 I_52 J_52 hp_52 => ?_)
                    obtain ⟨e_3, hS_52⟩ := hp_52
                    replace hT := hT.tr hS_52
                    subst e_3
                    refine x_istore_n (pc := 55) (lo' := [(2, _), (3, _), (0, _), (1, _)]) K dX7_lyingSet_55 rfl (by decide) rfl ?_
                    refine x_iinc (pc := 56) (q0 := 1) (v := nI (((1 + 1) + 1) + 1)) (lo' := [(3, _), (2, _), (0, _), (1, _)]) K dX7_lyingSet_56 rfl (nI_incE rfl) (by decide) rfl ?_
                    refine x_goto (pc := 59) (tgt := 38) K dX7_lyingSet_59 (by decide) ?_
                    refine x_iload_n (pc := 38) K 0 dX7_lyingSet_38 rfl rfl ?_
                    refine x_iconst (pc := 39) (v := 3) K dX7_lyingSet_39 (by decide) ?_
                    refine x_icmp_gt (pc := 40) (tgt := 62) K dX7_lyingSet_40 (by decide) (fun c_40_3 => ?_) (fun c_40_3 => ?_)
                    · replace c_40_3 := cI_lt (a := 3) (b := (((1 + 1) + 1) + 1)) rfl rfl (by omega) (by omega) c_40_3
                      refine x_iload_n (pc := 62) K 1 dX7_lyingSet_62 rfl rfl ?_
                      exact ret (pc := 63) dX7_lyingSet_63 (⟨by rw [lyK_n hkd, lyC, if_pos c_14, if_neg c_26]; first | rw [if_neg c_46_1] | rw [if_pos c_46_1, if_neg c_46_2] | rw [if_pos c_46_1, if_pos c_46_2], hT⟩) rfl
                    · replace c_40_3 := cI_nlt (a := 3) (b := (((1 + 1) + 1) + 1)) rfl rfl (by omega) (by omega) c_40_3
                      omega
      · replace c_26 := bz_n0.mp c_26
        refine x_iconst (pc := 29) (v := 0) K dX7_lyingSet_29 (by decide) ?_
        refine x_goto (pc := 30) (tgt := 35) K dX7_lyingSet_30 (by decide) ?_
        refine x_istore_n (pc := 35) (lo' := [(2, _), (0, _), (1, _)]) K dX7_lyingSet_35 rfl (by decide) rfl ?_
        refine x_iconst (pc := 36) (v := 1) K dX7_lyingSet_36 (by decide) ?_
        refine x_istore_n (pc := 37) (lo' := [(3, _), (2, _), (0, _), (1, _)]) K dX7_lyingSet_37 rfl (by decide) rfl ?_
        refine x_iload_n (pc := 38) K 0 dX7_lyingSet_38 rfl rfl ?_
        refine x_iconst (pc := 39) (v := 3) K dX7_lyingSet_39 (by decide) ?_
        refine x_icmp_gt (pc := 40) (tgt := 62) K dX7_lyingSet_40 (by decide) (fun c_40 => ?_) (fun c_40 => ?_)
        · replace c_40 := cI_lt (a := 3) (b := 1) rfl rfl (by omega) (by omega) c_40
          omega
        · replace c_40 := cI_nlt (a := 3) (b := 1) rfl rfl (by omega) (by omega) c_40
          refine x_iload_n (pc := 43) K 1 dX7_lyingSet_43 rfl rfl ?_
          refine x_bipush (pc := 44) (v := -5) K dX7_lyingSet_44 (by decide) ?_
          refine x_icmp_ne (pc := 46) (tgt := 62) K dX7_lyingSet_46 (by decide) (fun c_46 => ?_) (fun c_46 => ?_)
          · refine x_iload_n (pc := 62) K 1 dX7_lyingSet_62 rfl rfl ?_
            exact ret (pc := 63) dX7_lyingSet_63 (⟨by rw [lyK_n hkd, lyC, if_pos c_14, if_pos c_26], hT⟩) rfl
          · exact absurd c_46 (by decide)
    · replace c_14 := bz_0.mp c_14
      refine x_bipush (pc := 17) (v := -3) K dX7_lyingSet_17 (by decide) ?_
      exact ret (pc := 19) dX7_lyingSet_19 (⟨by rw [lyK_n hkd, lyC, if_neg c_14], hT⟩) rfl
  · replace c_4 := bz_0.mp c_4
    refine x_iconst (pc := 7) (v := -1) K dX7_lyingSet_7 (by decide) ?_
    exact ret (pc := 8) dX7_lyingSet_8 (⟨if_neg c_4, Scr.rf⟩) rfl

