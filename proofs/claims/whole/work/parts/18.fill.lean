/-! THE MATCH: measure, fillLeast, give, find -/
theorem fstI_cB {P Q : Nat → Prop} [DecidablePred P] [DecidablePred Q] : ∀ (d k : Nat), (∀ p, k ≤ p → p < k + d → (P p ↔ Q p)) → fstI P k d = fstI Q k d
  | 0, _, _ => rfl
  | d + 1, k, h => by
    unfold fstI
    have hk := h k (Nat.le_refl k) (by omega)
    by_cases p : P k
    · rw [if_pos p, if_pos (hk.mp p)]
    · rw [if_neg p, if_neg (fun q => p (hk.mpr q)), fstI_cB d (k + 1) (fun p h1 h2 => h p (by omega) (by omega))]
theorem fstI_in {P : Nat → Prop} [DecidablePred P] : ∀ (d k : Nat), fstI P k d = -5 ∨ ∃ g, k ≤ g ∧ g < k + d ∧ P g ∧ fstI P k d = nI g
  | 0, _ => Or.inl rfl
  | d + 1, k => by
    unfold fstI
    by_cases p : P k
    · rw [if_pos p]; exact Or.inr ⟨k, Nat.le_refl k, by omega, p, rfl⟩
    · rw [if_neg p]
      rcases fstI_in (P := P) d (k + 1) with h | ⟨g, h1, h2, h3, h4⟩
      · exact Or.inl h
      · exact Or.inr ⟨g, by omega, by omega, h3, h4⟩
theorem lfG_c {ap ap' nx nx' : Nat → Int32} {nn s : Nat} {lost : Int32} (h6 : nn ≤ 6) (ha : ∀ j, j < nn → ap j = ap' j) (hx : ∀ s, s < 2 ^ nn → nx s = nx' s) (hs : s < 2 ^ nn) : ∀ k, k ≤ nn → lfG ap nx s lost k = lfG ap' nx' s lost k
  | 0, _ => by unfold lfG; rw [hx s hs]
  | k + 1, hk => by
    unfold lfG
    have e1 := ha k (by omega)
    have e2 := hx _ (orB_lt nn h6 k (by omega) s hs)
    rw [lfG_c h6 ha hx hs k (by omega)]
    simp only [fre, e1, e2]
theorem dec_e (x : Int32) : x + Int32.ofInt (-1) = x - 1 := by rw [Int32.sub_eq_add_neg]; rfl
def lsT (AP : Nat → Nat → Int32) (no nn : Nat) (lost : Int32) : Nat → Nat → Int32
  | 0, _ => 0
  | d + 1, s => lfG (AP (no - (d + 1))) (lsT AP no nn lost d) s lost nn
theorem lsT_c {AP AP' : Nat → Nat → Int32} {no nn : Nat} {lost : Int32} (h6 : nn ≤ 6) (ha : ∀ o j, o < no → j < nn → AP o j = AP' o j) : ∀ d, d ≤ no → ∀ s, s < 2 ^ nn → lsT AP no nn lost d s = lsT AP' no nn lost d s
  | 0, _, _, _ => rfl
  | d + 1, hd, s, hs => by
    unfold lsT
    exact lfG_c h6 (fun j hj => ha _ j (by omega) hj) (fun s hs => lsT_c h6 ha d (by omega) s hs) hs nn (Nat.le_refl nn)
theorem fbG_c {ap ap' nx nx' ls ls' : Nat → Int32} {nn s : Nat} (h6 : nn ≤ 6) (ha : ∀ j, j < nn → ap j = ap' j) (hx : ∀ s, s < 2 ^ nn → nx s = nx' s) (hl : ∀ s, s < 2 ^ nn → ls s = ls' s) (hs : s < 2 ^ nn) : fbG ap nx ls s nn = fbG ap' nx' ls' s nn := by
  refine fstI_cB nn 0 (fun p _ hp => ?_)
  have e1 := ha p (by omega)
  have e2 := hx _ (orB_lt nn h6 p (by omega) s hs)
  have e3 := hl s hs
  simp only [fre, e1, e2, e3]
def usG (FB : Nat → Nat → Int32) : Nat → Nat
  | 0 => 0
  | k + 1 => if FB k (usG FB k) = -5 then usG FB k else orB (usG FB k) (FB k (usG FB k)).toNatClampNeg
theorem usG_c {FB FB' : Nat → Nat → Int32} {m no : Nat} (hb : ∀ k, k < no → ∀ s, s < m → FB k s = FB' k s) (hl : ∀ k, k ≤ no → usG FB k < m) : ∀ k, k ≤ no → usG FB k = usG FB' k
  | 0, _ => rfl
  | k + 1, hk => by
    unfold usG
    rw [← usG_c hb hl k (by omega), hb k (by omega) _ (hl k (by omega))]
theorem usG_lt {FB : Nat → Nat → Int32} {nn no : Nat} (h6 : nn ≤ 6) (hf : ∀ k, k < no → ∀ s, FB k s = -5 ∨ ∃ g, g < nn ∧ FB k s = nI g) : ∀ k, k ≤ no → usG FB k < 2 ^ nn
  | 0, _ => Nat.pow_pos (by decide)
  | k + 1, hk => by
    unfold usG
    have ih := usG_lt h6 hf k (by omega)
    rcases hf k (by omega) (usG FB k) with h | ⟨g, hg, h⟩
    · rw [if_pos h]; exact ih
    · split
      · exact ih
      · rw [h, nI_clamp (by omega)]; exact orB_lt nn h6 g hg _ ih
theorem pow_le : ∀ n, n ≤ 6 → 2 ^ n ≤ 64 := by decide
def apH (I : hI) (J : hJ) (o j : Nat) : Int32 := if I 21 o = I 25 j then (ab64 (rndW J 56 (I 22 o).toInt64 (I 23 o).toInt64 - (I 26 j).toInt64) + ab64 (rndW J 57 (I 22 o).toInt64 (I 23 o).toInt64 - (I 27 j).toInt64)).toInt32 else -1
theorem meas_step {I I1 : hI} {J : hJ} {old nn k : Nat} {v : Int32} (hE : ∀ c, c ≠ 61 + old → I1 c = I c) (hj : ∀ j, j < k → I1 (61 + old) j = apH I J old j) (hv : v = apH I J old k) : (∀ c, c ≠ 61 + old → h_up I1 (61 + old) k v c = I c) ∧ ∀ j, j < k + 1 → h_up I1 (61 + old) k v (61 + old) j = apH I J old j := by
  refine ⟨fun c hc => by rw [h_up_ne hc, hE c hc], fun j hj2 => ?_⟩
  by_cases e : j = k
  · subst e; simp [h_up, hv]
  · simp only [h_up, e, and_false, if_false]
    exact hj j (by omega)
set_option maxHeartbeats 1000000 in
set_option maxRecDepth 100000 in
theorem c_X1_measure (l : Launch) (G : hQ) (I : hI) (J : hJ) (old : Nat) (h1 : old < 6) (hz6 : ¬ J 56 3 ≤ 0 → ¬ 2 * J 56 3 = 0) (hz7 : ¬ J 57 3 ≤ 0 → ¬ 2 * J 57 3 = 0) (nn : Nat) (hn : I 24 0 = nI nn) (h6 : nn ≤ 6) : h_Mv l yX1_measure wsX1_measure 2 49 G [rr G 59, .int (nI old)] I J (fun I' J' => J = J' ∧ (∀ c, c ≠ 61 + old → I' c = I c) ∧ ∀ j, j < nn → I' (61 + old) j = apH I J old j) := by
  refine h_Mv.of (cc := cX1_measure) (maxL := 9) [(0, rr G 59), (1, .int (nI old))] (by decide +kernel) rfl (Nat.le_of_ble_eq_true rfl) rfl ?_
  intro Γ K ret
  have i_X1 : ∀ w ∈ u_ws RX1 TX1 7, w ∈ wsX1_measure := by decide +kernel
  have i_X0 : ∀ w ∈ u_ws RX0 TX0 7, w ∈ wsX1_measure := by decide +kernel
  have i_X4 : ∀ w ∈ u_ws RX4 TX4 4, w ∈ wsX1_measure := by decide +kernel
  have loop : ∀ k, k ≤ nn → ∀ (I1 : hI), ((∀ c, c ≠ 61 + old → I1 c = I c)) → (∀ j, j < k → I1 (61 + old) j = apH I J old j) → h_WW Γ G 66 [(6, .int (nI k)), (4, .long (rndW J 57 (I 22 old).toInt64 (I 23 old).toInt64)), (2, .long (rndW J 56 (I 22 old).toInt64 (I 23 old).toInt64)), (0, rr G 59), (1, .int (nI old))] [] I1 J := by
    refine loopU nn (fun k hk ih => ?_)
    intro I1 hE hj
    refine x_iload (pc := 66) K 0 dX1_measure_66 rfl ?_
    refine x_aload_n (pc := 68) K 3 dX1_measure_68 rfl rfl ?_
    refine x_getr (r0 := 24) (pc := 69) (index := 31) (C := RX1) (T := TX1) (N := 7) (j0 := 1) (ref := "OldMap$Match") K (by decide) sh_59 rfl i_X1 (by decide) (by decide +kernel) rfl rfl rf_59_1 dX1_measure_69 ?_
    refine x_getiN (pc := 72) (index := 38) (C := RX4) (T := TX4) (N := 4) (j0 := 0) (host := "OldMap") (ref := "OldMap$Things") K (by decide) sh_24 rfl i_X4 (by decide) (by decide +kernel) rfl rfl dX1_measure_72 ?_
    refine x_topie (nI nn) ((congrFun (hE 24 (by omega)) 0).trans hn) ?_
    refine x_icmp_ge (pc := 75) (tgt := 158) K dX1_measure_75 (by decide) (fun c_75 => ?_) (fun c_75 => ?_)
    · replace c_75 := cI_le (a := nn) (b := k) rfl rfl (by omega) (by omega) c_75
      exact ret (pc := 158) dX1_measure_158 (⟨rfl, hE, fun j hj2 => hj j (by omega)⟩)
    · replace c_75 := cI_nle (a := nn) (b := k) rfl rfl (by omega) (by omega) c_75
      refine x_lload_n (pc := 78) K 2 dX1_measure_78 rfl rfl ?_
      refine x_aload_n (pc := 79) K 3 dX1_measure_79 rfl rfl ?_
      refine x_getr (r0 := 24) (pc := 80) (index := 31) (C := RX1) (T := TX1) (N := 7) (j0 := 1) (ref := "OldMap$Match") K (by decide) sh_59 rfl i_X1 (by decide) (by decide +kernel) rfl rfl rf_59_1 dX1_measure_80 ?_
      refine x_getrN (r0 := 26) (pc := 83) (index := 59) (C := RX4) (T := TX4) (N := 4) (j0 := 2) (host := "OldMap") (ref := "OldMap$Things") K (by decide) sh_24 rfl i_X4 (by decide) (by decide +kernel) rfl rfl rf_24_2 dX1_measure_83 ?_
      refine x_iload (pc := 86) K 0 dX1_measure_86 rfl ?_
      refine y_iald (j := k) (pc := 88) K (by decide) sh_26 rfl (by omega) (by decide) dX1_measure_88 ?_
      refine x_topie (I 26 k) (congrFun (hE 26 (by omega)) _) ?_
      refine x_i2l (pc := 89) K dX1_measure_89 ?_
      refine x_lsub (pc := 90) K dX1_measure_90 ?_
      refine y_absl (pc := 91) (st := []) K (by decide +kernel) (by decide +kernel) (by decide +kernel) (by decide +kernel) (by decide) (Nat.le_of_ble_eq_true rfl) dX1_measure_91 ?_
      refine x_lload (pc := 94) K 1 dX1_measure_94 rfl ?_
      refine x_aload_n (pc := 96) K 3 dX1_measure_96 rfl rfl ?_
      refine x_getr (r0 := 24) (pc := 97) (index := 31) (C := RX1) (T := TX1) (N := 7) (j0 := 1) (ref := "OldMap$Match") K (by decide) sh_59 rfl i_X1 (by decide) (by decide +kernel) rfl rfl rf_59_1 dX1_measure_97 ?_
      refine x_getrN (r0 := 27) (pc := 100) (index := 62) (C := RX4) (T := TX4) (N := 4) (j0 := 3) (host := "OldMap") (ref := "OldMap$Things") K (by decide) sh_24 rfl i_X4 (by decide) (by decide +kernel) rfl rfl rf_24_3 dX1_measure_100 ?_
      refine x_iload (pc := 103) K 0 dX1_measure_103 rfl ?_
      refine y_iald (j := k) (pc := 105) K (by decide) sh_27 rfl (by omega) (by decide) dX1_measure_105 ?_
      refine x_topie (I 27 k) (congrFun (hE 27 (by omega)) _) ?_
      refine x_i2l (pc := 106) K dX1_measure_106 ?_
      refine x_lsub (pc := 107) K dX1_measure_107 ?_
      refine y_absl (pc := 108) (st := [_]) K (by decide +kernel) (by decide +kernel) (by decide +kernel) (by decide +kernel) (by decide) (Nat.le_of_ble_eq_true rfl) dX1_measure_108 ?_
      refine x_ladd (pc := 111) K dX1_measure_111 ?_
      refine x_lstore (pc := 112) (lo' := [(7, _), (6, _), (4, _), (2, _), (0, _), (1, _)]) K dX1_measure_112 (by decide) rfl ?_
      refine x_aload_n (pc := 114) K 4 dX1_measure_114 rfl rfl ?_
      refine x_getr (r0 := 60) (pc := 115) (index := 11) (C := RX1) (T := TX1) (N := 7) (j0 := 3) (ref := "OldMap$Match") K (by decide) sh_59 rfl i_X1 (by decide) (by decide +kernel) rfl rfl rf_59_3 dX1_measure_115 ?_
      refine x_iload_n (pc := 118) K 5 dX1_measure_118 rfl rfl ?_
      refine y_aald (r0 := (61 + old)) (j := old) (pc := 119) K (by decide) sh_60 rfl (by omega) (by decide) (rf_60 _) dX1_measure_119 ?_
      refine x_iload (pc := 120) K 1 dX1_measure_120 rfl ?_
      refine x_aload_n (pc := 122) K 4 dX1_measure_122 rfl rfl ?_
      refine x_getr (r0 := 20) (pc := 123) (index := 27) (C := RX1) (T := TX1) (N := 7) (j0 := 0) (ref := "OldMap$Match") K (by decide) sh_59 rfl i_X1 (by decide) (by decide +kernel) rfl rfl rf_59_0 dX1_measure_123 ?_
      refine x_getrN (r0 := 21) (pc := 126) (index := 80) (C := RX4) (T := TX4) (N := 4) (j0 := 1) (host := "OldMap") (ref := "OldMap$Things") K (by decide) sh_20 rfl i_X4 (by decide) (by decide +kernel) rfl rfl rf_20_1 dX1_measure_126 ?_
      refine x_iload_n (pc := 129) K 5 dX1_measure_129 rfl rfl ?_
      refine y_iald (j := old) (pc := 130) K (by decide) sh_21 rfl (by omega) (by decide) dX1_measure_130 ?_
      refine x_topie (I 21 old) (congrFun (hE 21 (by omega)) _) ?_
      refine x_aload_n (pc := 131) K 4 dX1_measure_131 rfl rfl ?_
      refine x_getr (r0 := 24) (pc := 132) (index := 31) (C := RX1) (T := TX1) (N := 7) (j0 := 1) (ref := "OldMap$Match") K (by decide) sh_59 rfl i_X1 (by decide) (by decide +kernel) rfl rfl rf_59_1 dX1_measure_132 ?_
      refine x_getrN (r0 := 25) (pc := 135) (index := 80) (C := RX4) (T := TX4) (N := 4) (j0 := 1) (host := "OldMap") (ref := "OldMap$Things") K (by decide) sh_24 rfl i_X4 (by decide) (by decide +kernel) rfl rfl rf_24_1 dX1_measure_135 ?_
      refine x_iload (pc := 138) K 1 dX1_measure_138 rfl ?_
      refine y_iald (j := k) (pc := 140) K (by decide) sh_25 rfl (by omega) (by decide) dX1_measure_140 ?_
      refine x_topie (I 25 k) (congrFun (hE 25 (by omega)) _) ?_
      refine x_icmp_ne (pc := 141) (tgt := 150) K dX1_measure_141 (by decide) (fun c_141 => ?_) (fun c_141 => ?_)
      · refine x_iconst (pc := 150) (v := -1) K dX1_measure_150 (by decide) ?_
        refine y_iast (j := k) (pc := 151) K (shk_apart (show old < 6 by omega)) (shr_apart _ (show old < 6 by omega)) rfl (by omega) (by decide) dX1_measure_151 ?_
        refine x_iinc (pc := 152) (q0 := 1) (v := nI (k + 1)) (lo' := [(6, _), (7, _), (4, _), (2, _), (0, _), (1, _)]) K dX1_measure_152 rfl (nI_incE rfl) (by decide) rfl ?_
        refine x_goto (pc := 155) (tgt := 66) K dX1_measure_155 (by decide) ?_
        refine x_lo (lo' := [(6, _), (4, _), (2, _), (0, _), (1, _)]) [0, 2, 3, 4, 5] rfl ?_
        exact x_loe (by rfl) (ih (by omega) _ (meas_step (nn := nn) hE hj (by rw [apH, if_neg c_141])).1 (meas_step (nn := nn) hE hj (by rw [apH, if_neg c_141])).2)
      · refine x_lload (pc := 144) K 0 dX1_measure_144 rfl ?_
        refine x_l2i (pc := 146) K dX1_measure_146 ?_
        refine x_goto (pc := 147) (tgt := 151) K dX1_measure_147 (by decide) ?_
        refine y_iast (j := k) (pc := 151) K (shk_apart (show old < 6 by omega)) (shr_apart _ (show old < 6 by omega)) rfl (by omega) (by decide) dX1_measure_151 ?_
        refine x_iinc (pc := 152) (q0 := 1) (v := nI (k + 1)) (lo' := [(6, _), (7, _), (4, _), (2, _), (0, _), (1, _)]) K dX1_measure_152 rfl (nI_incE rfl) (by decide) rfl ?_
        refine x_goto (pc := 155) (tgt := 66) K dX1_measure_155 (by decide) ?_
        refine x_lo (lo' := [(6, _), (4, _), (2, _), (0, _), (1, _)]) [0, 2, 3, 4, 5] rfl ?_
        exact x_loe (by rfl) (ih (by omega) _ (meas_step (nn := nn) hE hj (by rw [apH, if_pos c_141])).1 (meas_step (nn := nn) hE hj (by rw [apH, if_pos c_141])).2)
  refine x_aload_n (pc := 0) K 0 dX1_measure_0 rfl rfl ?_
  refine x_getr (r0 := 55) (pc := 1) (index := 34) (C := RX1) (T := TX1) (N := 7) (j0 := 2) (ref := "OldMap$Match") K (by decide) sh_59 rfl i_X1 (by decide) (by decide +kernel) rfl rfl rf_59_2 dX1_measure_1 ?_
  refine x_getrN (r0 := 56) (pc := 4) (index := 53) (C := RX0) (T := TX0) (N := 7) (j0 := 1) (host := "OldMap") (ref := "OldMap$Bend") K (by decide) sh_55 rfl i_X0 (by decide) (by decide +kernel) rfl rfl rf_55_1 dX1_measure_4 ?_
  refine x_aload_n (pc := 7) K 0 dX1_measure_7 rfl rfl ?_
  refine x_getr (r0 := 20) (pc := 8) (index := 27) (C := RX1) (T := TX1) (N := 7) (j0 := 0) (ref := "OldMap$Match") K (by decide) sh_59 rfl i_X1 (by decide) (by decide +kernel) rfl rfl rf_59_0 dX1_measure_8 ?_
  refine x_getrN (r0 := 22) (pc := 11) (index := 59) (C := RX4) (T := TX4) (N := 4) (j0 := 2) (host := "OldMap") (ref := "OldMap$Things") K (by decide) sh_20 rfl i_X4 (by decide) (by decide +kernel) rfl rfl rf_20_2 dX1_measure_11 ?_
  refine x_iload_n (pc := 14) K 1 dX1_measure_14 rfl rfl ?_
  refine y_iald (j := old) (pc := 15) K (by decide) sh_22 rfl (by omega) (by decide) dX1_measure_15 ?_
  refine x_i2l (pc := 16) K dX1_measure_16 ?_
  refine x_aload_n (pc := 17) K 0 dX1_measure_17 rfl rfl ?_
  refine x_getr (r0 := 20) (pc := 18) (index := 27) (C := RX1) (T := TX1) (N := 7) (j0 := 0) (ref := "OldMap$Match") K (by decide) sh_59 rfl i_X1 (by decide) (by decide +kernel) rfl rfl rf_59_0 dX1_measure_18 ?_
  refine x_getrN (r0 := 23) (pc := 21) (index := 62) (C := RX4) (T := TX4) (N := 4) (j0 := 3) (host := "OldMap") (ref := "OldMap$Things") K (by decide) sh_20 rfl i_X4 (by decide) (by decide +kernel) rfl rfl rf_20_3 dX1_measure_21 ?_
  refine x_iload_n (pc := 24) K 1 dX1_measure_24 rfl rfl ?_
  refine y_iald (j := old) (pc := 25) K (by decide) sh_23 rfl (by omega) (by decide) dX1_measure_25 ?_
  refine x_i2l (pc := 26) K dX1_measure_26 ?_
  refine x_calllN (pc := 27) (st := []) (n := 2) K (by decide) sh_56 rfl (c_X6_rounded56 l G _ _ _ _ hz6) (host := "OldMap") gX1_measure_X6_rounded_n65 (by decide +kernel) (by decide +kernel) (by decide +kernel) (by decide +kernel) (by decide +kernel) rfl (by decide) (by decide) rfl rfl (Nat.le_of_ble_eq_true rfl) dX1_measure_27 (fun r_27 I_27 J_27 hp_27 => ?_)
  obtain ⟨rfl, rfl, rfl⟩ := hp_27
  refine x_lstore_n (pc := 30) (lo' := [(2, _), (0, _), (1, _)]) K dX1_measure_30 rfl (by decide) rfl ?_
  refine x_aload_n (pc := 31) K 1 dX1_measure_31 rfl rfl ?_
  refine x_getr (r0 := 55) (pc := 32) (index := 34) (C := RX1) (T := TX1) (N := 7) (j0 := 2) (ref := "OldMap$Match") K (by decide) sh_59 rfl i_X1 (by decide) (by decide +kernel) rfl rfl rf_59_2 dX1_measure_32 ?_
  refine x_getrN (r0 := 57) (pc := 35) (index := 71) (C := RX0) (T := TX0) (N := 7) (j0 := 2) (host := "OldMap") (ref := "OldMap$Bend") K (by decide) sh_55 rfl i_X0 (by decide) (by decide +kernel) rfl rfl rf_55_2 dX1_measure_35 ?_
  refine x_aload_n (pc := 38) K 1 dX1_measure_38 rfl rfl ?_
  refine x_getr (r0 := 20) (pc := 39) (index := 27) (C := RX1) (T := TX1) (N := 7) (j0 := 0) (ref := "OldMap$Match") K (by decide) sh_59 rfl i_X1 (by decide) (by decide +kernel) rfl rfl rf_59_0 dX1_measure_39 ?_
  refine x_getrN (r0 := 22) (pc := 42) (index := 59) (C := RX4) (T := TX4) (N := 4) (j0 := 2) (host := "OldMap") (ref := "OldMap$Things") K (by decide) sh_20 rfl i_X4 (by decide) (by decide +kernel) rfl rfl rf_20_2 dX1_measure_42 ?_
  refine x_iload_n (pc := 45) K 2 dX1_measure_45 rfl rfl ?_
  refine y_iald (j := old) (pc := 46) K (by decide) sh_22 rfl (by omega) (by decide) dX1_measure_46 ?_
  refine x_i2l (pc := 47) K dX1_measure_47 ?_
  refine x_aload_n (pc := 48) K 1 dX1_measure_48 rfl rfl ?_
  refine x_getr (r0 := 20) (pc := 49) (index := 27) (C := RX1) (T := TX1) (N := 7) (j0 := 0) (ref := "OldMap$Match") K (by decide) sh_59 rfl i_X1 (by decide) (by decide +kernel) rfl rfl rf_59_0 dX1_measure_49 ?_
  refine x_getrN (r0 := 23) (pc := 52) (index := 62) (C := RX4) (T := TX4) (N := 4) (j0 := 3) (host := "OldMap") (ref := "OldMap$Things") K (by decide) sh_20 rfl i_X4 (by decide) (by decide +kernel) rfl rfl rf_20_3 dX1_measure_52 ?_
  refine x_iload_n (pc := 55) K 2 dX1_measure_55 rfl rfl ?_
  refine y_iald (j := old) (pc := 56) K (by decide) sh_23 rfl (by omega) (by decide) dX1_measure_56 ?_
  refine x_i2l (pc := 57) K dX1_measure_57 ?_
  refine x_calllN (pc := 58) (st := []) (n := 2) K (by decide) sh_57 rfl (c_X6_rounded57 l G _ _ _ _ hz7) (host := "OldMap") gX1_measure_X6_rounded_n65 (by decide +kernel) (by decide +kernel) (by decide +kernel) (by decide +kernel) (by decide +kernel) rfl (by decide) (by decide) rfl rfl (Nat.le_of_ble_eq_true rfl) dX1_measure_58 (fun r_58 I_58 J_58 hp_58 => ?_)
  obtain ⟨rfl, rfl, rfl⟩ := hp_58
  refine x_lstore (pc := 61) (lo' := [(4, _), (2, _), (0, _), (1, _)]) K dX1_measure_61 (by decide) rfl ?_
  refine x_iconst (pc := 63) (v := 0) K dX1_measure_63 (by decide) ?_
  refine x_istore (pc := 64) (lo' := [(6, _), (4, _), (2, _), (0, _), (1, _)]) K dX1_measure_64 (by decide) rfl ?_
  refine x_lo (lo' := [(6, _), (4, _), (2, _), (0, _), (1, _)]) [0, 1, 2, 3, 4] rfl ?_
  exact x_loe (by rfl) (loop 0 (Nat.zero_le _) I (fun _ _ => rfl) (fun j h => absurd h (by omega)))

abbrev lsR (I : hI) (no nn : Nat) (lost : Int32) : Nat → Nat → Int32 := lsT (fun o => I (61 + o)) no nn lost
theorem fl_stepA {I I1 : hI} {no k : Nat} (hE : ∀ c, ¬ (68 ≤ c ∧ c ≤ 74) → I1 c = I c) (hno : no ≤ 6) (hj : ∀ s, s < k → I1 (68 + no) s = 0) : (∀ c, ¬ (68 ≤ c ∧ c ≤ 74) → h_up I1 (68 + no) k 0 c = I c) ∧ ∀ s, s < k + 1 → h_up I1 (68 + no) k 0 (68 + no) s = 0 := by
  refine ⟨fun c hc => by rw [h_up_ne (by omega), hE c hc], fun s hs => ?_⟩
  by_cases e : s = k
  · subst e; simp [h_up]
  · simp only [h_up, e, and_false, if_false]
    exact hj s (by omega)
theorem fl_stepC {I I1 : hI} {no nn e k : Nat} {lost v : Int32} (he : e < no) (hno : no ≤ 6) (hE : ∀ c, ¬ (68 ≤ c ∧ c ≤ 74) → I1 c = I c) (hB : ∀ o, e + 1 ≤ o → o ≤ no → ∀ s, s < 2 ^ nn → I1 (68 + o) s = lsR I no nn lost (no - o) s) (hj : ∀ s, s < k → I1 (68 + e) s = lsR I no nn lost (no - e) s) (hv : v = lsR I no nn lost (no - e) k) :
    (∀ c, ¬ (68 ≤ c ∧ c ≤ 74) → h_up I1 (68 + e) k v c = I c) ∧ (∀ o, e + 1 ≤ o → o ≤ no → ∀ s, s < 2 ^ nn → h_up I1 (68 + e) k v (68 + o) s = lsR I no nn lost (no - o) s) ∧ ∀ s, s < k + 1 → h_up I1 (68 + e) k v (68 + e) s = lsR I no nn lost (no - e) s := by
  refine ⟨fun c hc => by rw [h_up_ne (by omega), hE c hc], fun o h1 h2 s hs => by rw [h_up_ne (by omega)]; exact hB o h1 h2 s hs, fun s hs => ?_⟩
  by_cases e1 : s = k
  · subst e1; simp [h_up, hv]
  · simp only [h_up, e1, and_false, if_false]
    exact hj s (by omega)
theorem fl_val {I I1 : hI} {no nn e k : Nat} {lost : Int32} (h6 : nn ≤ 6) (he : e < no) (hno : no ≤ 6) (hk : k < 2 ^ nn) (hE : ∀ c, ¬ (68 ≤ c ∧ c ≤ 74) → I1 c = I c) (hB : ∀ o, e + 1 ≤ o → o ≤ no → ∀ s, s < 2 ^ nn → I1 (68 + o) s = lsR I no nn lost (no - o) s) : lfG (I1 (61 + e)) (I1 (68 + (e + 1))) k lost nn = lsR I no nn lost (no - e) k := by
  obtain ⟨d, hd⟩ : ∃ d, no - e = d + 1 := ⟨no - e - 1, by omega⟩
  unfold lsR
  rw [hd]
  show _ = lfG (I (61 + (no - (d + 1)))) (lsT (fun o => I (61 + o)) no nn lost d) k lost nn
  refine lfG_c h6 (fun j _ => by rw [hE _ (by omega), show no - (d + 1) = e by omega]) (fun s hs => ?_) hk nn (Nat.le_refl nn)
  rw [hB (e + 1) (by omega) (by omega) s hs, show no - (e + 1) = d by omega]
set_option maxHeartbeats 1000000 in
set_option maxRecDepth 100000 in
theorem c_X1_fillLeast (l : Launch) (G : hQ) (I : hI) (J : hJ) (lost : Int32) (no : Nat) (ho : I 20 0 = nI no) (h60 : no ≤ 6) (nn : Nat) (hn : I 24 0 = nI nn) (h6 : nn ≤ 6) : h_Mv l yX1_fillLeast wsX1_fillLeast 2 48 G [rr G 59, .int lost] I J (fun I' J' => J = J' ∧ (∀ c, ¬ (68 ≤ c ∧ c ≤ 74) → I' c = I c) ∧ ∀ o, o ≤ no → ∀ s, s < 2 ^ nn → I' (68 + o) s = lsR I no nn lost (no - o) s) := by
  refine h_Mv.of (cc := cX1_fillLeast) (maxL := 5) [(0, rr G 59), (1, .int lost)] (by decide +kernel) rfl (Nat.le_of_ble_eq_true rfl) rfl ?_
  intro Γ K ret
  have i_X1 : ∀ w ∈ u_ws RX1 TX1 7, w ∈ wsX1_fillLeast := by decide +kernel
  have i_X4 : ∀ w ∈ u_ws RX4 TX4 4, w ∈ wsX1_fillLeast := by decide +kernel
  have hp64 := pow_le nn h6
  have outer : ∀ d, d ≤ no → ∀ I1 : hI, (∀ c, ¬ (68 ≤ c ∧ c ≤ 74) → I1 c = I c) → (∀ o, d ≤ o → o ≤ no → ∀ s, s < 2 ^ nn → I1 (68 + o) s = lsR I no nn lost (no - o) s) → h_WW Γ G 48 [(3, .int (nI d - 1)), (2, .int (nI (2 ^ nn))), (0, rr G 59), (1, .int lost)] [] I1 J := by
    intro d
    induction d with
    | zero =>
      intro hd I1 hE hB
      refine x_iload_n (pc := 48) K 0 dX1_fillLeast_48 rfl rfl ?_
      refine x_if_lt (pc := 49) (tgt := 90) K dX1_fillLeast_49 (by decide) (fun c_49 => ?_) (fun c_49 => ?_)
      · exact ret (pc := 90) dX1_fillLeast_90 (⟨rfl, hE, fun o ho2 s hs => hB o (Nat.zero_le _) ho2 s hs⟩)
      · exact absurd (show (nI 0 - 1 : Int32) < 0 by decide) c_49
    | succ e ihO =>
      intro hd I1 hE hB
      have inner : ∀ k, k ≤ (2 ^ nn) → ∀ (I1 : hI), (∀ c, ¬ (68 ≤ c ∧ c ≤ 74) → I1 c = I c) → ((∀ o, e + 1 ≤ o → o ≤ no → ∀ s, s < 2 ^ nn → I1 (68 + o) s = lsR I no nn lost (no - o) s)) → ((∀ s, s < k → I1 (68 + e) s = lsR I no nn lost (no - e) s)) → h_WW Γ G 55 [(4, .int (nI k)), (3, .int (nI e)), (2, .int (nI (2 ^ nn))), (0, rr G 59), (1, .int lost)] [] I1 J := by
        refine loopU (2 ^ nn) (fun k hk ih => ?_)
        intro I1 hE hB hj
        refine x_iload (pc := 55) K 0 dX1_fillLeast_55 rfl ?_
        refine x_iload_n (pc := 57) K 2 dX1_fillLeast_57 rfl rfl ?_
        refine x_icmp_ge (pc := 58) (tgt := 84) K dX1_fillLeast_58 (by decide) (fun c_58 => ?_) (fun c_58 => ?_)
        · replace c_58 := cI_le (a := (2 ^ nn)) (b := k) rfl rfl (by omega) (by omega) c_58
          refine x_iinc (pc := 84) (q0 := 1) (lo' := [(3, _), (4, _), (2, _), (0, _), (1, _)]) K dX1_fillLeast_84 rfl rfl (by decide) rfl ?_
          refine x_goto (pc := 87) (tgt := 48) K dX1_fillLeast_87 (by decide) ?_
          refine x_lo (lo' := [(3, _), (2, _), (0, _), (1, _)]) [0, 2, 3, 4] rfl ?_
          refine x_loe (by rw [dec_e]) (ihO (by omega) I1 hE (fun o h1 h2 s hs => ?_))
          by_cases e1 : o = e
          · subst e1; exact hj s (by omega)
          · exact hB o (by omega) h2 s hs
        · replace c_58 := cI_nle (a := (2 ^ nn)) (b := k) rfl rfl (by omega) (by omega) c_58
          refine x_aload_n (pc := 61) K 3 dX1_fillLeast_61 rfl rfl ?_
          refine x_getr (r0 := 67) (pc := 62) (index := 16) (C := RX1) (T := TX1) (N := 7) (j0 := 4) (ref := "OldMap$Match") K (by decide) sh_59 rfl i_X1 (by decide) (by decide +kernel) rfl rfl rf_59_4 dX1_fillLeast_62 ?_
          refine x_iload_n (pc := 65) K 1 dX1_fillLeast_65 rfl rfl ?_
          refine y_aald (r0 := (68 + e)) (j := e) (pc := 66) K (by decide) sh_67 rfl (by omega) (by decide) (rf_67 _) dX1_fillLeast_66 ?_
          refine x_iload (pc := 67) K 0 dX1_fillLeast_67 rfl ?_
          refine x_aload_n (pc := 69) K 3 dX1_fillLeast_69 rfl rfl ?_
          refine x_iload_n (pc := 70) K 1 dX1_fillLeast_70 rfl rfl ?_
          refine x_iload (pc := 71) K 0 dX1_fillLeast_71 rfl ?_
          refine x_iload_n (pc := 73) K 4 dX1_fillLeast_73 rfl rfl ?_
          refine x_calliV (pc := 74) (st := [_, _]) (n := 3) K (by decide) sh_59 rfl (c_X1_leastFrom l G _ _ e k _ (by omega) (by omega) nn ((congrFun (hE 24 (by omega)) 0).trans hn) h6) gX1_fillLeast_X1_leastFrom (by decide +kernel) rfl (by decide) (by decide) rfl rfl (Nat.le_of_ble_eq_true rfl) dX1_fillLeast_74 (fun r_74 I_74 J_74 hp_74 => ?_)
          obtain ⟨rfl, rfl, rfl⟩ := hp_74
          refine x_topie (lsR I no nn lost (no - e) k) (fl_val h6 (by omega) h60 (by omega) hE hB) ?_
          refine y_iast (j := k) (pc := 77) K (shk_least (show e < 7 by omega)) (shr_least _ (show e < 7 by omega)) rfl (by omega) (by decide) dX1_fillLeast_77 ?_
          refine x_iinc (pc := 78) (q0 := 0) (v := nI (k + 1)) (lo' := [(4, _), (3, _), (2, _), (0, _), (1, _)]) K dX1_fillLeast_78 rfl (nI_incE rfl) (by decide) rfl ?_
          refine x_goto (pc := 81) (tgt := 55) K dX1_fillLeast_81 (by decide) ?_
          refine x_lo (lo' := [(4, _), (3, _), (2, _), (0, _), (1, _)]) [0, 1, 2, 3, 4] rfl ?_
          exact x_loe (by rfl) (ih (by omega) _ (fl_stepC (by omega) h60 hE hB hj rfl).1 (fl_stepC (by omega) h60 hE hB hj rfl).2.1 (fl_stepC (by omega) h60 hE hB hj rfl).2.2)
      refine x_loe (lo' := [(3, .int (nI e)), (2, .int (nI (2 ^ nn))), (0, rr G 59), (1, .int lost)]) (by rw [nI_pred]) ?_
      refine x_iload_n (pc := 48) K 0 dX1_fillLeast_48 rfl rfl ?_
      refine x_if_lt (pc := 49) (tgt := 90) K dX1_fillLeast_49 (by decide) (fun c_49 => ?_) (fun c_49 => ?_)
      · replace c_49 := cI_lt (a := e) (b := 0) rfl rfl (by omega) (by omega) c_49
        omega
      · replace c_49 := cI_nlt (a := e) (b := 0) rfl rfl (by omega) (by omega) c_49
        refine x_iconst (pc := 52) (v := 0) K dX1_fillLeast_52 (by decide) ?_
        refine x_istore (pc := 53) (lo' := [(4, _), (3, _), (2, _), (0, _), (1, _)]) K dX1_fillLeast_53 (by decide) rfl ?_
        refine x_lo (lo' := [(4, _), (3, _), (2, _), (0, _), (1, _)]) [0, 1, 2, 3, 4] rfl ?_
        exact x_loe (by rfl) (inner 0 (Nat.zero_le _) I1 hE hB (fun s h => absurd h (by omega)))
  have first : ∀ k, k ≤ (2 ^ nn) → ∀ (I1 : hI), (∀ c, ¬ (68 ≤ c ∧ c ≤ 74) → I1 c = I c) → ((∀ s, s < k → I1 (68 + no) s = 0)) → h_WW Γ G 12 [(3, .int (nI k)), (2, .int (nI (2 ^ nn))), (0, rr G 59), (1, .int lost)] [] I1 J := by
    refine loopU (2 ^ nn) (fun k hk ih => ?_)
    intro I1 hE hj
    refine x_iload_n (pc := 12) K 0 dX1_fillLeast_12 rfl rfl ?_
    refine x_iload_n (pc := 13) K 1 dX1_fillLeast_13 rfl rfl ?_
    refine x_icmp_ge (pc := 14) (tgt := 38) K dX1_fillLeast_14 (by decide) (fun c_14 => ?_) (fun c_14 => ?_)
    · replace c_14 := cI_le (a := (2 ^ nn)) (b := k) rfl rfl (by omega) (by omega) c_14
      refine x_aload_n (pc := 38) K 2 dX1_fillLeast_38 rfl rfl ?_
      refine x_getr (r0 := 20) (pc := 39) (index := 27) (C := RX1) (T := TX1) (N := 7) (j0 := 0) (ref := "OldMap$Match") K (by decide) sh_59 rfl i_X1 (by decide) (by decide +kernel) rfl rfl rf_59_0 dX1_fillLeast_39 ?_
      refine x_getiN (pc := 42) (index := 38) (C := RX4) (T := TX4) (N := 4) (j0 := 0) (host := "OldMap") (ref := "OldMap$Things") K (by decide) sh_20 rfl i_X4 (by decide) (by decide +kernel) rfl rfl dX1_fillLeast_42 ?_
      refine x_topie (nI no) ((congrFun (hE 20 (by omega)) 0).trans ho) ?_
      refine x_iconst (pc := 45) (v := 1) K dX1_fillLeast_45 (by decide) ?_
      refine x_isub (pc := 46) K dX1_fillLeast_46 ?_
      refine x_istore_n (pc := 47) (lo' := [(3, _), (2, _), (0, _), (1, _)]) K dX1_fillLeast_47 rfl (by decide) rfl ?_
      refine x_lo (lo' := [(3, _), (2, _), (0, _), (1, _)]) [0, 1, 2, 3] rfl ?_
      exact outer no (Nat.le_refl _) I1 hE (fun o h1 h2 s hs => by
        obtain rfl : o = no := by omega
        rw [hj s (by omega), Nat.sub_self]
        rfl)
    · replace c_14 := cI_nle (a := (2 ^ nn)) (b := k) rfl rfl (by omega) (by omega) c_14
      refine x_aload_n (pc := 17) K 2 dX1_fillLeast_17 rfl rfl ?_
      refine x_getr (r0 := 67) (pc := 18) (index := 16) (C := RX1) (T := TX1) (N := 7) (j0 := 4) (ref := "OldMap$Match") K (by decide) sh_59 rfl i_X1 (by decide) (by decide +kernel) rfl rfl rf_59_4 dX1_fillLeast_18 ?_
      refine x_aload_n (pc := 21) K 2 dX1_fillLeast_21 rfl rfl ?_
      refine x_getr (r0 := 20) (pc := 22) (index := 27) (C := RX1) (T := TX1) (N := 7) (j0 := 0) (ref := "OldMap$Match") K (by decide) sh_59 rfl i_X1 (by decide) (by decide +kernel) rfl rfl rf_59_0 dX1_fillLeast_22 ?_
      refine x_getiN (pc := 25) (index := 38) (C := RX4) (T := TX4) (N := 4) (j0 := 0) (host := "OldMap") (ref := "OldMap$Things") K (by decide) sh_20 rfl i_X4 (by decide) (by decide +kernel) rfl rfl dX1_fillLeast_25 ?_
      refine x_topie (nI no) ((congrFun (hE 20 (by omega)) 0).trans ho) ?_
      refine y_aald (r0 := (68 + no)) (j := no) (pc := 28) K (by decide) sh_67 rfl (by omega) (by decide) (rf_67 _) dX1_fillLeast_28 ?_
      refine x_iload_n (pc := 29) K 0 dX1_fillLeast_29 rfl rfl ?_
      refine x_iconst (pc := 30) (v := 0) K dX1_fillLeast_30 (by decide) ?_
      refine y_iast (j := k) (pc := 31) K (shk_least (show no < 7 by omega)) (shr_least _ (show no < 7 by omega)) rfl (by omega) (by decide) dX1_fillLeast_31 ?_
      refine x_iinc (pc := 32) (q0 := 0) (v := nI (k + 1)) (lo' := [(3, _), (2, _), (0, _), (1, _)]) K dX1_fillLeast_32 rfl (nI_incE rfl) (by decide) rfl ?_
      refine x_goto (pc := 35) (tgt := 12) K dX1_fillLeast_35 (by decide) ?_
      refine x_lo (lo' := [(3, _), (2, _), (0, _), (1, _)]) [0, 1, 2, 3] rfl ?_
      exact x_loe (by rfl) (ih (by omega) _ (fl_stepA hE h60 hj).1 (fl_stepA hE h60 hj).2)
  refine x_iconst (pc := 0) (v := 1) K dX1_fillLeast_0 (by decide) ?_
  refine x_aload_n (pc := 1) K 0 dX1_fillLeast_1 rfl rfl ?_
  refine x_getr (r0 := 24) (pc := 2) (index := 31) (C := RX1) (T := TX1) (N := 7) (j0 := 1) (ref := "OldMap$Match") K (by decide) sh_59 rfl i_X1 (by decide) (by decide +kernel) rfl rfl rf_59_1 dX1_fillLeast_2 ?_
  refine x_getiN (pc := 5) (index := 38) (C := RX4) (T := TX4) (N := 4) (j0 := 0) (host := "OldMap") (ref := "OldMap$Things") K (by decide) sh_24 rfl i_X4 (by decide) (by decide +kernel) rfl rfl dX1_fillLeast_5 ?_
  refine x_topie (nI nn) hn ?_
  refine x_ishl (pc := 8) K dX1_fillLeast_8 ?_
  refine x_topie (nI (2 ^ nn)) (shl_ok nn h6) ?_
  refine x_istore_n (pc := 9) (lo' := [(2, _), (0, _), (1, _)]) K dX1_fillLeast_9 rfl (by decide) rfl ?_
  refine x_iconst (pc := 10) (v := 0) K dX1_fillLeast_10 (by decide) ?_
  refine x_istore_n (pc := 11) (lo' := [(3, _), (2, _), (0, _), (1, _)]) K dX1_fillLeast_11 rfl (by decide) rfl ?_
  refine x_lo (lo' := [(3, _), (2, _), (0, _), (1, _)]) [0, 1, 2, 3] rfl ?_
  exact x_loe (by rfl) (first 0 (Nat.zero_le _) I (fun _ _ => rfl) (fun s h => absurd h (by omega)))

