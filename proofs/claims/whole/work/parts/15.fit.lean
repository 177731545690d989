/-! the bend, purely: of the rows a of places, a kind and a set b -/
abbrev aT : Type := Nat → Nat → Int32
def atC (I : hI) : aT := fun r k => if r < 4 then I (4 + r) k else 0
def smA (a : aT) (b : Int32) (r : Nat) : Int64 := sumTo (fun k => if bitOn b k then (a r k).toInt64 else 0) 12
def spA (a : aT) (b : Int32) (r q : Nat) : Int64 := sumTo (fun k => if bitOn b k then (a r k * a q k).toInt64 else 0) 12
def nB (b : Int32) : Int64 := (pop b).toInt64
def SP (a : aT) (b : Int32) (r q : Nat) : Int64 := nB b * spA a b r q - smA a b r * smA a b q
def dT (a : aT) (b : Int32) : Int64 := SP a b 0 0 + SP a b 1 1
def pT (a : aT) (b : Int32) : Int64 := SP a b 0 2 + SP a b 1 3
def qT (a : aT) (b : Int32) : Int64 := SP a b 0 3 - SP a b 1 2
abbrev okA (a : aT) (kd : Nat) (b : Int32) : Prop := (kd = 0 ∧ ¬ nB b ≤ 0) ∨ (kd = 1 ∧ ¬ dT a b ≤ 0) ∨ (kd = 2 ∧ ¬ SP a b 0 0 ≤ 0 ∧ ¬ SP a b 1 1 ≤ 0)
def Wy (a : aT) (kd : Nat) (b : Int32) (ax j : Nat) : Int64 :=
  if kd = 0 then (if j = 0 then (if ax = 0 then nB b else 0) else if j = 1 then (if ax = 0 then 0 else nB b) else if j = 2 then smA a b (ax + 2) - smA a b ax else nB b)
  else if kd = 1 then (if ax = 0 then (if j = 0 then nB b * pT a b else if j = 1 then -(nB b) * qT a b else if j = 2 then dT a b * smA a b 2 - pT a b * smA a b 0 + qT a b * smA a b 1 else nB b * dT a b)
    else (if j = 0 then nB b * qT a b else if j = 1 then nB b * pT a b else if j = 2 then dT a b * smA a b 3 - qT a b * smA a b 0 - pT a b * smA a b 1 else nB b * dT a b))
  else (if j = 0 then (if ax = 0 then nB b * SP a b ax (ax + 2) else 0) else if j = 1 then (if ax = 0 then 0 else nB b * SP a b ax (ax + 2)) else if j = 2 then SP a b ax ax * smA a b (ax + 2) - SP a b ax (ax + 2) * smA a b ax else nB b * SP a b ax ax)
def Fit (I : hI) (J : hJ) (kd : Nat) (b : Int32) : Prop := I 55 4 = nI kd ∧ I 55 5 = b ∧ J 55 6 = nB b ∧ (∀ r, r < 4 → J 58 r = smA (atC I) b r) ∧ ∀ ax j, ax < 2 → j < 4 → J (56 + ax) j = Wy (atC I) kd b ax j
/-- only the class's scratch cells differ -/
def Scr (I : hI) (J : hJ) (I' : hI) (J' : hJ) : Prop := (∀ k, k < 55 ∨ 76 ≤ k → I' k = I k) ∧ ∀ k, k < 55 ∨ 76 ≤ k → J' k = J k
theorem Scr.rf {I : hI} {J : hJ} : Scr I J I J := ⟨fun _ _ => rfl, fun _ _ => rfl⟩
theorem Scr.tr {I I1 I2 : hI} {J J1 J2 : hJ} (h : Scr I J I1 J1) (h2 : Scr I1 J1 I2 J2) : Scr I J I2 J2 := ⟨fun k hk => (h2.1 k hk).trans (h.1 k hk), fun k hk => (h2.2 k hk).trans (h.2 k hk)⟩
theorem Scr.at {I I1 : hI} {J J1 : hJ} (h : Scr I J I1 J1) : atC I1 = atC I := by
  funext r k
  unfold atC
  by_cases hr : r < 4
  · rw [if_pos hr, if_pos hr, h.1 (4 + r) (by omega)]
  · rw [if_neg hr, if_neg hr]
theorem sm_A {I : hI} {b : Int32} {r : Nat} (hr : r < 4) : sm I b r = smA (atC I) b r := by simp [sm, smA, atC, hr]
theorem sp2_A {I : hI} {b : Int32} {r q : Nat} (hr : r < 4) (hq : q < 4) : sp2 I b r q = spA (atC I) b r q := by simp [sp2, spA, atC, hr, hq]
def kbI (I : hI) (kd : Nat) (b : Int32) : hI := h_up (h_up I 55 4 (nI kd)) 55 5 b
theorem kbI_ne {I : hI} {kd k : Nat} {b : Int32} (h : k ≠ 55) : kbI I kd b k = I k := by unfold kbI; rw [h_up_ne h, h_up_ne h]
theorem kbI_4 {I : hI} {kd : Nat} {b : Int32} : kbI I kd b 55 4 = nI kd := by simp [kbI, h_up]
theorem kbI_5 {I : hI} {kd : Nat} {b : Int32} : kbI I kd b 55 5 = b := by simp [kbI, h_up]
theorem kbI_at {I : hI} {kd : Nat} {b : Int32} : atC (kbI I kd b) = atC I := by
  funext r k
  unfold atC
  by_cases hr : r < 4
  · rw [if_pos hr, if_pos hr, kbI_ne (by omega)]
  · rw [if_neg hr, if_neg hr]
theorem kbI_sm {I : hI} {kd r : Nat} {b : Int32} (hr : r < 4) : sm (kbI I kd b) (kbI I kd b 55 5) r = smA (atC I) b r := by rw [kbI_5, sm_A hr, kbI_at]
def sumsJ (J : hJ) (b : Int32) (a : aT) : hJ := h_upL (h_upL (h_upL (h_upL (h_upL J 55 6 (nB b)) 58 0 (smA a b 0)) 58 1 (smA a b 1)) 58 2 (smA a b 2)) 58 3 (smA a b 3)
theorem sumsJ_n {J : hJ} {b : Int32} {a : aT} : sumsJ J b a 55 6 = nB b := by simp [sumsJ, h_upL]
theorem sumsJ_s {J : hJ} {b : Int32} {a : aT} {r : Nat} (hr : r < 4) : sumsJ J b a 58 r = smA a b r := by
  rcases (show r = 0 ∨ r = 1 ∨ r = 2 ∨ r = 3 by omega) with rfl | rfl | rfl | rfl <;> simp [sumsJ, h_upL]
theorem sumsJ_o {J : hJ} {b : Int32} {a : aT} {k : Nat} (h : k ≠ 55) (h2 : k ≠ 58) : sumsJ J b a k = J k := by
  unfold sumsJ
  rw [h_upL_ne h2, h_upL_ne h2, h_upL_ne h2, h_upL_ne h2, h_upL_ne h]
theorem setW_ne {J : hJ} {k a : Nat} {x y z t : Int64} (h : a ≠ k) : setW J k x y z t a = J a := by
  unfold setW
  rw [h_upL_ne h, h_upL_ne h, h_upL_ne h, h_upL_ne h]
theorem setW_0 {J : hJ} {k : Nat} {x y z t : Int64} : setW J k x y z t k 0 = x := by simp [setW, h_upL]
theorem setW_1 {J : hJ} {k : Nat} {x y z t : Int64} : setW J k x y z t k 1 = y := by simp [setW, h_upL]
theorem setW_2 {J : hJ} {k : Nat} {x y z t : Int64} : setW J k x y z t k 2 = z := by simp [setW, h_upL]
theorem setW_3 {J : hJ} {k : Nat} {x y z t : Int64} : setW J k x y z t k 3 = t := by simp [setW, h_upL]
theorem spr_fit {I : hI} {J J' : hJ} {kd r q : Nat} {b : Int32} (h5 : J' 55 = sumsJ J b (atC I) 55) (h8 : J' 58 = sumsJ J b (atC I) 58) (hr : r < 4) (hq : q < 4) : spr (kbI I kd b) J' r q = SP (atC I) b r q := by
  unfold spr SP
  rw [h5, h8, kbI_5, sp2_A hr hq, kbI_at, sumsJ_n, sumsJ_s hr, sumsJ_s hq]
theorem fit_scr {I : hI} {J J' : hJ} {kd : Nat} {b : Int32} (ho : ∀ k, k < 55 ∨ 76 ≤ k → J' k = J k) : Scr I J (kbI I kd b) J' := ⟨fun k hk => kbI_ne (by omega), ho⟩
theorem fit_mk {I : hI} {J J' : hJ} {kd : Nat} {b : Int32} (h5 : J' 55 = sumsJ J b (atC I) 55) (h8 : J' 58 = sumsJ J b (atC I) 58) (hw : ∀ ax j, ax < 2 → j < 4 → J' (56 + ax) j = Wy (atC I) kd b ax j) : Fit (kbI I kd b) J' kd b := by
  refine ⟨kbI_4, kbI_5, by rw [h5, sumsJ_n], fun r hr => by rw [h8, sumsJ_s hr, kbI_at], fun ax j ha hj => by rw [hw ax j ha hj, kbI_at]⟩
theorem fit0_fin {I : hI} {J : hJ} {b : Int32} : bz (okA (atC I) 0 b) = bz (¬ sumsJ J b (atC I) 55 6 ≤ 0) ∧ Scr I J (kbI I 0 b) (fsJ (sumsJ J b (atC I))) ∧ (okA (atC I) 0 b → Fit (kbI I 0 b) (fsJ (sumsJ J b (atC I))) 0 b) := by
  refine ⟨by rw [sumsJ_n]; simp [okA], fit_scr (fun k hk => ?_), fun _ => fit_mk (J := J) ?_ ?_ ?_⟩
  · unfold fsJ; rw [setW_ne (by omega), setW_ne (by omega), sumsJ_o (by omega) (by omega)]
  · unfold fsJ; rw [setW_ne (by decide), setW_ne (by decide)]
  · unfold fsJ; rw [setW_ne (by decide), setW_ne (by decide)]
  · intro ax j ha hj
    unfold fsJ
    rcases (show ax = 0 ∨ ax = 1 by omega) with rfl | rfl <;> rcases (show j = 0 ∨ j = 1 ∨ j = 2 ∨ j = 3 by omega) with rfl | rfl | rfl | rfl <;>
      first
      | (rw [setW_0]; simp [Wy, sumsJ_n]; done) | (rw [setW_1]; simp [Wy, sumsJ_n]; done) | (rw [setW_2, sumsJ_s (by decide), sumsJ_s (by decide)]; simp [Wy]; done) | (rw [setW_3]; simp [Wy, sumsJ_n]; done)
      | (rw [setW_ne (by decide), setW_0]; simp [Wy, sumsJ_n]; done) | (rw [setW_ne (by decide), setW_1]; simp [Wy, sumsJ_n]; done) | (rw [setW_ne (by decide), setW_2, sumsJ_s (by decide), sumsJ_s (by decide)]; simp [Wy]; done) | (rw [setW_ne (by decide), setW_3]; simp [Wy, sumsJ_n]; done)
theorem ft_D {I : hI} {J : hJ} {kd : Nat} {b : Int32} : ftD (kbI I kd b) (sumsJ J b (atC I)) = dT (atC I) b := by unfold ftD dT; rw [spr_fit rfl rfl (by decide) (by decide), spr_fit rfl rfl (by decide) (by decide)]
theorem ft_P {I : hI} {J : hJ} {kd : Nat} {b : Int32} : ftP (kbI I kd b) (sumsJ J b (atC I)) = pT (atC I) b := by unfold ftP pT; rw [spr_fit rfl rfl (by decide) (by decide), spr_fit rfl rfl (by decide) (by decide)]
theorem ft_Q {I : hI} {J : hJ} {kd : Nat} {b : Int32} : ftQ (kbI I kd b) (sumsJ J b (atC I)) = qT (atC I) b := by unfold ftQ qT; rw [spr_fit rfl rfl (by decide) (by decide), spr_fit rfl rfl (by decide) (by decide)]
theorem fit1_fin {I : hI} {J : hJ} {b : Int32} : bz (okA (atC I) 1 b) = bz (¬ ftD (kbI I 1 b) (sumsJ J b (atC I)) ≤ 0) ∧ Scr I J (kbI I 1 b) (ftJ (kbI I 1 b) (sumsJ J b (atC I))) ∧ (okA (atC I) 1 b → Fit (kbI I 1 b) (ftJ (kbI I 1 b) (sumsJ J b (atC I))) 1 b) := by
  refine ⟨by rw [ft_D]; simp [okA], fit_scr (fun k hk => ?_), fun _ => fit_mk (J := J) ?_ ?_ ?_⟩
  · unfold ftJ; rw [setW_ne (by omega), setW_ne (by omega), sumsJ_o (by omega) (by omega)]
  · unfold ftJ; rw [setW_ne (by decide), setW_ne (by decide)]
  · unfold ftJ; rw [setW_ne (by decide), setW_ne (by decide)]
  · intro ax j ha hj
    unfold ftJ
    rw [ft_D, ft_P, ft_Q, sumsJ_n, sumsJ_s (by decide), sumsJ_s (by decide), sumsJ_s (by decide), sumsJ_s (by decide)]
    rcases (show ax = 0 ∨ ax = 1 by omega) with rfl | rfl <;> rcases (show j = 0 ∨ j = 1 ∨ j = 2 ∨ j = 3 by omega) with rfl | rfl | rfl | rfl <;>
      first
      | (rw [setW_0]; simp [Wy]; done) | (rw [setW_1]; simp [Wy]; done) | (rw [setW_2]; simp [Wy]; done) | (rw [setW_3]; simp [Wy]; done)
      | (rw [setW_ne (by decide), setW_0]; simp [Wy]; done) | (rw [setW_ne (by decide), setW_1]; simp [Wy]; done) | (rw [setW_ne (by decide), setW_2]; simp [Wy]; done) | (rw [setW_ne (by decide), setW_3]; simp [Wy]; done)
theorem fit2_a {I : hI} {J : hJ} {b : Int32} : spr (kbI I 2 b) (sumsJ J b (atC I)) 0 0 = SP (atC I) b 0 0 := spr_fit rfl rfl (by decide) (by decide)
theorem fit2_b {I : hI} {J : hJ} {b : Int32} : spr (kbI I 2 b) (fkJ (kbI I 2 b) (sumsJ J b (atC I)) 0) 1 1 = SP (atC I) b 1 1 := spr_fit (by unfold fkJ; rw [setW_ne (by decide)]) (by unfold fkJ; rw [setW_ne (by decide)]) (by decide) (by decide)
theorem fit2_s0 {I : hI} {J : hJ} {b : Int32} : Scr I J (kbI I 2 b) (fkJ (kbI I 2 b) (sumsJ J b (atC I)) 0) := fit_scr (fun k hk => by unfold fkJ; rw [setW_ne (by omega), sumsJ_o (by omega) (by omega)])
theorem fit2_s1 {I : hI} {J : hJ} {b : Int32} : Scr I J (kbI I 2 b) (fkJ (kbI I 2 b) (fkJ (kbI I 2 b) (sumsJ J b (atC I)) 0) 1) := fit_scr (fun k hk => by unfold fkJ; rw [setW_ne (by omega), setW_ne (by omega), sumsJ_o (by omega) (by omega)])
theorem fit2_f {I : hI} {J : hJ} {b : Int32} : Fit (kbI I 2 b) (fkJ (kbI I 2 b) (fkJ (kbI I 2 b) (sumsJ J b (atC I)) 0) 1) 2 b := by
  have h5 : fkJ (kbI I 2 b) (sumsJ J b (atC I)) 0 55 = sumsJ J b (atC I) 55 := by unfold fkJ; rw [setW_ne (by decide)]
  have h8 : fkJ (kbI I 2 b) (sumsJ J b (atC I)) 0 58 = sumsJ J b (atC I) 58 := by unfold fkJ; rw [setW_ne (by decide)]
  refine fit_mk (J := J) ?_ ?_ ?_
  · unfold fkJ; rw [setW_ne (by decide), setW_ne (by decide)]
  · unfold fkJ; rw [setW_ne (by decide), setW_ne (by decide)]
  · intro ax j ha hj
    rcases (show ax = 0 ∨ ax = 1 by omega) with rfl | rfl
    · have e : fkJ (kbI I 2 b) (fkJ (kbI I 2 b) (sumsJ J b (atC I)) 0) 1 (56 + 0) = fkJ (kbI I 2 b) (sumsJ J b (atC I)) 0 (56 + 0) := by rw [fkJ, setW_ne (by decide)]
      rw [e]
      unfold fkJ
      rw [spr_fit rfl rfl (by decide) (by decide), spr_fit rfl rfl (by decide) (by decide), sumsJ_n, sumsJ_s (by decide), sumsJ_s (by decide)]
      rcases (show j = 0 ∨ j = 1 ∨ j = 2 ∨ j = 3 by omega) with rfl | rfl | rfl | rfl
      · rw [setW_0]; simp [Wy]
      · rw [setW_1]; simp [Wy]
      · rw [setW_2]; simp [Wy]
      · rw [setW_3]; simp [Wy]
    · rw [fkJ, spr_fit h5 h8 (by decide) (by decide), spr_fit h5 h8 (by decide) (by decide), h5, h8, sumsJ_n, sumsJ_s (by decide), sumsJ_s (by decide)]
      rcases (show j = 0 ∨ j = 1 ∨ j = 2 ∨ j = 3 by omega) with rfl | rfl | rfl | rfl
      · rw [setW_0]; simp [Wy]
      · rw [setW_1]; simp [Wy]
      · rw [setW_2]; simp [Wy]
      · rw [setW_3]; simp [Wy]
set_option maxHeartbeats 1000000 in
set_option maxRecDepth 100000 in
theorem c_X0_fit0 (l : Launch) (G : hQ) (I : hI) (J : hJ) (b : Int32) : h_Mi l yX0_fit wsX0_fit 2 58 G [rr G 55, .int (nI 0), .int b] I J (fun ρ I' J' => bz (okA (atC I) 0 b) = ρ ∧ Scr I J I' J' ∧ (okA (atC I) 0 b → Fit I' J' 0 b)) := by
  refine h_Mi.of (ty := .boolean) (cc := cX0_fit) (maxL := 4) [(0, rr G 55), (1, .int (nI 0)), (2, .int b)] (by decide +kernel) rfl (Nat.le_of_ble_eq_true rfl) rfl ?_
  intro Γ K ret
  have i_X0 : ∀ w ∈ u_ws RX0 TX0 7, w ∈ wsX0_fit := by decide +kernel
  refine x_aload_n (pc := 0) K 0 dX0_fit_0 rfl rfl ?_
  refine x_iload_n (pc := 1) K 1 dX0_fit_1 rfl rfl ?_
  refine x_puti (ty := .int) (pc := 2) (index := 27) (C := RX0) (T := TX0) (N := 7) (j0 := 4) (ref := "OldMap$Bend") K (by decide) sh_55 rfl i_X0 (by decide) (by decide +kernel) rfl tyX0 tyX0_ok nmX0 rfl (by decide +kernel) rfl rfl rfl dX0_fit_2 ?_
  refine x_aload_n (pc := 5) K 0 dX0_fit_5 rfl rfl ?_
  refine x_iload_n (pc := 6) K 2 dX0_fit_6 rfl rfl ?_
  refine x_puti (ty := .int) (pc := 7) (index := 31) (C := RX0) (T := TX0) (N := 7) (j0 := 5) (ref := "OldMap$Bend") K (by decide) sh_55 rfl i_X0 (by decide) (by decide +kernel) rfl tyX0 tyX0_ok nmX0 rfl (by decide +kernel) rfl rfl rfl dX0_fit_7 ?_
  refine x_aload_n (pc := 10) K 0 dX0_fit_10 rfl rfl ?_
  refine x_iload_n (pc := 11) K 2 dX0_fit_11 rfl rfl ?_
  refine x_calliS (pc := 12) (st := [_]) (n := 1) K (c_J6_bitCount_0f7a4 l G _ _ _) gX0_fit_J6_bitCount_0f7a4 (by decide +kernel) rfl (by decide) (by decide) rfl rfl (Nat.le_of_ble_eq_true rfl) dX0_fit_12 (fun r_12 I_12 J_12 hp_12 => ?_)
  obtain ⟨rfl, rfl, rfl⟩ := hp_12
  refine x_i2l (pc := 15) K dX0_fit_15 ?_
  refine x_putl (ty := .long) (pc := 16) (index := 34) (C := RX0) (T := TX0) (N := 7) (j0 := 6) (ref := "OldMap$Bend") K (by decide) sh_55 rfl i_X0 (by decide) (by decide +kernel) rfl tyX0 tyX0_ok nmX0 rfl (by decide +kernel) rfl rfl rfl dX0_fit_16 ?_
  refine x_iconst (pc := 19) (v := 0) K dX0_fit_19 (by decide) ?_
  refine x_istore_n (pc := 20) (lo' := [(3, _), (0, _), (1, _), (2, _)]) K dX0_fit_20 rfl (by decide) rfl ?_
  refine x_iload_n (pc := 21) K 0 dX0_fit_21 rfl rfl ?_
  refine x_iconst (pc := 22) (v := 4) K dX0_fit_22 (by decide) ?_
  refine x_icmp_ge (pc := 23) (tgt := 43) K dX0_fit_23 (by decide) (fun c_23 => ?_) (fun c_23 => ?_)
  · replace c_23 := cI_le (a := 4) (b := 0) rfl rfl (by omega) (by omega) c_23
    omega
  · replace c_23 := cI_nle (a := 4) (b := 0) rfl rfl (by omega) (by omega) c_23
    refine x_aload_n (pc := 26) K 1 dX0_fit_26 rfl rfl ?_
    refine x_getr (r0 := 58) (pc := 27) (index := 23) (C := RX0) (T := TX0) (N := 7) (j0 := 3) (ref := "OldMap$Bend") K (by decide) sh_55 rfl i_X0 (by decide) (by decide +kernel) rfl rfl rf_55_3 dX0_fit_27 ?_
    refine x_iload_n (pc := 30) K 0 dX0_fit_30 rfl rfl ?_
    refine x_aload_n (pc := 31) K 1 dX0_fit_31 rfl rfl ?_
    refine x_iload_n (pc := 32) K 0 dX0_fit_32 rfl rfl ?_
    refine x_calllV (pc := 33) (st := [_, _]) (n := 1) K (by decide) sh_55 rfl (c_X0_sumOf l G _ _ 0 (by omega)) gX0_fit_X0_sumOf (by decide +kernel) rfl (by decide) (by decide) rfl rfl (Nat.le_of_ble_eq_true rfl) dX0_fit_33 (fun r_33 I_33 J_33 hp_33 => ?_)
    obtain ⟨rfl, rfl, rfl⟩ := hp_33
    refine x_tople (smA (atC I) b 0) (kbI_sm (by decide)) ?_
    refine y_last (j := 0) (pc := 36) K (by decide) sh_58 rfl (by omega) (by decide) dX0_fit_36 ?_
    refine x_iinc (pc := 37) (q0 := 0) (v := nI (0 + 1)) (lo' := [(3, _), (0, _), (1, _), (2, _)]) K dX0_fit_37 rfl (nI_incE rfl) (by decide) rfl ?_
    refine x_goto (pc := 40) (tgt := 21) K dX0_fit_40 (by decide) ?_
    refine x_iload_n (pc := 21) K 0 dX0_fit_21 rfl rfl ?_
    refine x_iconst (pc := 22) (v := 4) K dX0_fit_22 (by decide) ?_
    refine x_icmp_ge (pc := 23) (tgt := 43) K dX0_fit_23 (by decide) (fun c_23_1 => ?_) (fun c_23_1 => ?_)
    · replace c_23_1 := cI_le (a := 4) (b := (0 + 1)) rfl rfl (by omega) (by omega) c_23_1
      omega
    · replace c_23_1 := cI_nle (a := 4) (b := (0 + 1)) rfl rfl (by omega) (by omega) c_23_1
      refine x_aload_n (pc := 26) K 1 dX0_fit_26 rfl rfl ?_
      refine x_getr (r0 := 58) (pc := 27) (index := 23) (C := RX0) (T := TX0) (N := 7) (j0 := 3) (ref := "OldMap$Bend") K (by decide) sh_55 rfl i_X0 (by decide) (by decide +kernel) rfl rfl rf_55_3 dX0_fit_27 ?_
      refine x_iload_n (pc := 30) K 0 dX0_fit_30 rfl rfl ?_
      refine x_aload_n (pc := 31) K 1 dX0_fit_31 rfl rfl ?_
      refine x_iload_n (pc := 32) K 0 dX0_fit_32 rfl rfl ?_
      refine x_calllV (pc := 33) (st := [_, _]) (n := 1) K (by decide) sh_55 rfl (c_X0_sumOf l G _ _ (0 + 1) (by omega)) gX0_fit_X0_sumOf (by decide +kernel) rfl (by decide) (by decide) rfl rfl (Nat.le_of_ble_eq_true rfl) dX0_fit_33 (fun r_33 I_33 J_33 hp_33 => ?_)
      obtain ⟨rfl, rfl, rfl⟩ := hp_33
      refine x_tople (smA (atC I) b 1) (kbI_sm (by decide)) ?_
      refine y_last (j := (0 + 1)) (pc := 36) K (by decide) sh_58 rfl (by omega) (by decide) dX0_fit_36 ?_
      refine x_iinc (pc := 37) (q0 := 0) (v := nI ((0 + 1) + 1)) (lo' := [(3, _), (0, _), (1, _), (2, _)]) K dX0_fit_37 rfl (nI_incE rfl) (by decide) rfl ?_
      refine x_goto (pc := 40) (tgt := 21) K dX0_fit_40 (by decide) ?_
      refine x_iload_n (pc := 21) K 0 dX0_fit_21 rfl rfl ?_
      refine x_iconst (pc := 22) (v := 4) K dX0_fit_22 (by decide) ?_
      refine x_icmp_ge (pc := 23) (tgt := 43) K dX0_fit_23 (by decide) (fun c_23_2 => ?_) (fun c_23_2 => ?_)
      · replace c_23_2 := cI_le (a := 4) (b := ((0 + 1) + 1)) rfl rfl (by omega) (by omega) c_23_2
        omega
      · replace c_23_2 := cI_nle (a := 4) (b := ((0 + 1) + 1)) rfl rfl (by omega) (by omega) c_23_2
        refine x_aload_n (pc := 26) K 1 dX0_fit_26 rfl rfl ?_
        refine x_getr (r0 := 58) (pc := 27) (index := 23) (C := RX0) (T := TX0) (N := 7) (j0 := 3) (ref := "OldMap$Bend") K (by decide) sh_55 rfl i_X0 (by decide) (by decide +kernel) rfl rfl rf_55_3 dX0_fit_27 ?_
        refine x_iload_n (pc := 30) K 0 dX0_fit_30 rfl rfl ?_
        refine x_aload_n (pc := 31) K 1 dX0_fit_31 rfl rfl ?_
        refine x_iload_n (pc := 32) K 0 dX0_fit_32 rfl rfl ?_
        refine x_calllV (pc := 33) (st := [_, _]) (n := 1) K (by decide) sh_55 rfl (c_X0_sumOf l G _ _ ((0 + 1) + 1) (by omega)) gX0_fit_X0_sumOf (by decide +kernel) rfl (by decide) (by decide) rfl rfl (Nat.le_of_ble_eq_true rfl) dX0_fit_33 (fun r_33 I_33 J_33 hp_33 => ?_)
        obtain ⟨rfl, rfl, rfl⟩ := hp_33
        refine x_tople (smA (atC I) b 2) (kbI_sm (by decide)) ?_
        refine y_last (j := ((0 + 1) + 1)) (pc := 36) K (by decide) sh_58 rfl (by omega) (by decide) dX0_fit_36 ?_
        refine x_iinc (pc := 37) (q0 := 0) (v := nI (((0 + 1) + 1) + 1)) (lo' := [(3, _), (0, _), (1, _), (2, _)]) K dX0_fit_37 rfl (nI_incE rfl) (by decide) rfl ?_
        refine x_goto (pc := 40) (tgt := 21) K dX0_fit_40 (by decide) ?_
        refine x_iload_n (pc := 21) K 0 dX0_fit_21 rfl rfl ?_
        refine x_iconst (pc := 22) (v := 4) K dX0_fit_22 (by decide) ?_
        refine x_icmp_ge (pc := 23) (tgt := 43) K dX0_fit_23 (by decide) (fun c_23_3 => ?_) (fun c_23_3 => ?_)
        · replace c_23_3 := cI_le (a := 4) (b := (((0 + 1) + 1) + 1)) rfl rfl (by omega) (by omega) c_23_3
          omega
        · replace c_23_3 := cI_nle (a := 4) (b := (((0 + 1) + 1) + 1)) rfl rfl (by omega) (by omega) c_23_3
          refine x_aload_n (pc := 26) K 1 dX0_fit_26 rfl rfl ?_
          refine x_getr (r0 := 58) (pc := 27) (index := 23) (C := RX0) (T := TX0) (N := 7) (j0 := 3) (ref := "OldMap$Bend") K (by decide) sh_55 rfl i_X0 (by decide) (by decide +kernel) rfl rfl rf_55_3 dX0_fit_27 ?_
          refine x_iload_n (pc := 30) K 0 dX0_fit_30 rfl rfl ?_
          refine x_aload_n (pc := 31) K 1 dX0_fit_31 rfl rfl ?_
          refine x_iload_n (pc := 32) K 0 dX0_fit_32 rfl rfl ?_
          refine x_calllV (pc := 33) (st := [_, _]) (n := 1) K (by decide) sh_55 rfl (c_X0_sumOf l G _ _ (((0 + 1) + 1) + 1) (by omega)) gX0_fit_X0_sumOf (by decide +kernel) rfl (by decide) (by decide) rfl rfl (Nat.le_of_ble_eq_true rfl) dX0_fit_33 (fun r_33 I_33 J_33 hp_33 => ?_)
          obtain ⟨rfl, rfl, rfl⟩ := hp_33
          refine x_tople (smA (atC I) b 3) (kbI_sm (by decide)) ?_
          refine y_last (j := (((0 + 1) + 1) + 1)) (pc := 36) K (by decide) sh_58 rfl (by omega) (by decide) dX0_fit_36 ?_
          refine x_iinc (pc := 37) (q0 := 0) (v := nI ((((0 + 1) + 1) + 1) + 1)) (lo' := [(3, _), (0, _), (1, _), (2, _)]) K dX0_fit_37 rfl (nI_incE rfl) (by decide) rfl ?_
          refine x_goto (pc := 40) (tgt := 21) K dX0_fit_40 (by decide) ?_
          refine x_iload_n (pc := 21) K 0 dX0_fit_21 rfl rfl ?_
          refine x_iconst (pc := 22) (v := 4) K dX0_fit_22 (by decide) ?_
          refine x_icmp_ge (pc := 23) (tgt := 43) K dX0_fit_23 (by decide) (fun c_23_4 => ?_) (fun c_23_4 => ?_)
          · replace c_23_4 := cI_le (a := 4) (b := ((((0 + 1) + 1) + 1) + 1)) rfl rfl (by omega) (by omega) c_23_4
            refine x_eqI (I' := kbI I 0 b) (J' := sumsJ J b (atC I)) rfl rfl ?_
            refine x_aload_n (pc := 43) K 1 dX0_fit_43 rfl rfl ?_
            refine x_geti (pc := 44) (index := 27) (C := RX0) (T := TX0) (N := 7) (j0 := 4) (ref := "OldMap$Bend") K (by decide) sh_55 rfl i_X0 (by decide) (by decide +kernel) rfl rfl dX0_fit_44 ?_
            refine x_topie (nI 0) kbI_4 ?_
            refine x_lookup (pc := 47) (tgt := 72) (off := 25) K dX0_fit_47 (by decide) (by decide) (by decide) ?_
            refine x_aload_n (pc := 72) K 1 dX0_fit_72 rfl rfl ?_
            refine x_calliV (pc := 73) (st := []) (n := 0) K (by decide) sh_55 rfl (c_X0_fitShift l G _ _) gX0_fit_X0_fitShift (by decide +kernel) rfl (by decide) (by decide) rfl rfl (Nat.le_of_ble_eq_true rfl) dX0_fit_73 (fun r_73 I_73 J_73 hp_73 => ?_)
            obtain ⟨rfl, rfl, rfl⟩ := hp_73
            exact ret (pc := 76) dX0_fit_76 (fit0_fin) bz_nar
          · replace c_23_4 := cI_nle (a := 4) (b := ((((0 + 1) + 1) + 1) + 1)) rfl rfl (by omega) (by omega) c_23_4
            omega

set_option maxHeartbeats 1000000 in
set_option maxRecDepth 100000 in
theorem c_X0_fit1 (l : Launch) (G : hQ) (I : hI) (J : hJ) (b : Int32) : h_Mi l yX0_fit wsX0_fit 2 58 G [rr G 55, .int (nI 1), .int b] I J (fun ρ I' J' => bz (okA (atC I) 1 b) = ρ ∧ Scr I J I' J' ∧ (okA (atC I) 1 b → Fit I' J' 1 b)) := by
  refine h_Mi.of (ty := .boolean) (cc := cX0_fit) (maxL := 4) [(0, rr G 55), (1, .int (nI 1)), (2, .int b)] (by decide +kernel) rfl (Nat.le_of_ble_eq_true rfl) rfl ?_
  intro Γ K ret
  have i_X0 : ∀ w ∈ u_ws RX0 TX0 7, w ∈ wsX0_fit := by decide +kernel
  refine x_aload_n (pc := 0) K 0 dX0_fit_0 rfl rfl ?_
  refine x_iload_n (pc := 1) K 1 dX0_fit_1 rfl rfl ?_
  refine x_puti (ty := .int) (pc := 2) (index := 27) (C := RX0) (T := TX0) (N := 7) (j0 := 4) (ref := "OldMap$Bend") K (by decide) sh_55 rfl i_X0 (by decide) (by decide +kernel) rfl tyX0 tyX0_ok nmX0 rfl (by decide +kernel) rfl rfl rfl dX0_fit_2 ?_
  refine x_aload_n (pc := 5) K 0 dX0_fit_5 rfl rfl ?_
  refine x_iload_n (pc := 6) K 2 dX0_fit_6 rfl rfl ?_
  refine x_puti (ty := .int) (pc := 7) (index := 31) (C := RX0) (T := TX0) (N := 7) (j0 := 5) (ref := "OldMap$Bend") K (by decide) sh_55 rfl i_X0 (by decide) (by decide +kernel) rfl tyX0 tyX0_ok nmX0 rfl (by decide +kernel) rfl rfl rfl dX0_fit_7 ?_
  refine x_aload_n (pc := 10) K 0 dX0_fit_10 rfl rfl ?_
  refine x_iload_n (pc := 11) K 2 dX0_fit_11 rfl rfl ?_
  refine x_calliS (pc := 12) (st := [_]) (n := 1) K (c_J6_bitCount_0f7a4 l G _ _ _) gX0_fit_J6_bitCount_0f7a4 (by decide +kernel) rfl (by decide) (by decide) rfl rfl (Nat.le_of_ble_eq_true rfl) dX0_fit_12 (fun r_12 I_12 J_12 hp_12 => ?_)
  obtain ⟨rfl, rfl, rfl⟩ := hp_12
  refine x_i2l (pc := 15) K dX0_fit_15 ?_
  refine x_putl (ty := .long) (pc := 16) (index := 34) (C := RX0) (T := TX0) (N := 7) (j0 := 6) (ref := "OldMap$Bend") K (by decide) sh_55 rfl i_X0 (by decide) (by decide +kernel) rfl tyX0 tyX0_ok nmX0 rfl (by decide +kernel) rfl rfl rfl dX0_fit_16 ?_
  refine x_iconst (pc := 19) (v := 0) K dX0_fit_19 (by decide) ?_
  refine x_istore_n (pc := 20) (lo' := [(3, _), (0, _), (1, _), (2, _)]) K dX0_fit_20 rfl (by decide) rfl ?_
  refine x_iload_n (pc := 21) K 0 dX0_fit_21 rfl rfl ?_
  refine x_iconst (pc := 22) (v := 4) K dX0_fit_22 (by decide) ?_
  refine x_icmp_ge (pc := 23) (tgt := 43) K dX0_fit_23 (by decide) (fun c_23 => ?_) (fun c_23 => ?_)
  · replace c_23 := cI_le (a := 4) (b := 0) rfl rfl (by omega) (by omega) c_23
    omega
  · replace c_23 := cI_nle (a := 4) (b := 0) rfl rfl (by omega) (by omega) c_23
    refine x_aload_n (pc := 26) K 1 dX0_fit_26 rfl rfl ?_
    refine x_getr (r0 := 58) (pc := 27) (index := 23) (C := RX0) (T := TX0) (N := 7) (j0 := 3) (ref := "OldMap$Bend") K (by decide) sh_55 rfl i_X0 (by decide) (by decide +kernel) rfl rfl rf_55_3 dX0_fit_27 ?_
    refine x_iload_n (pc := 30) K 0 dX0_fit_30 rfl rfl ?_
    refine x_aload_n (pc := 31) K 1 dX0_fit_31 rfl rfl ?_
    refine x_iload_n (pc := 32) K 0 dX0_fit_32 rfl rfl ?_
    refine x_calllV (pc := 33) (st := [_, _]) (n := 1) K (by decide) sh_55 rfl (c_X0_sumOf l G _ _ 0 (by omega)) gX0_fit_X0_sumOf (by decide +kernel) rfl (by decide) (by decide) rfl rfl (Nat.le_of_ble_eq_true rfl) dX0_fit_33 (fun r_33 I_33 J_33 hp_33 => ?_)
    obtain ⟨rfl, rfl, rfl⟩ := hp_33
    refine x_tople (smA (atC I) b 0) (kbI_sm (by decide)) ?_
    refine y_last (j := 0) (pc := 36) K (by decide) sh_58 rfl (by omega) (by decide) dX0_fit_36 ?_
    refine x_iinc (pc := 37) (q0 := 0) (v := nI (0 + 1)) (lo' := [(3, _), (0, _), (1, _), (2, _)]) K dX0_fit_37 rfl (nI_incE rfl) (by decide) rfl ?_
    refine x_goto (pc := 40) (tgt := 21) K dX0_fit_40 (by decide) ?_
    refine x_iload_n (pc := 21) K 0 dX0_fit_21 rfl rfl ?_
    refine x_iconst (pc := 22) (v := 4) K dX0_fit_22 (by decide) ?_
    refine x_icmp_ge (pc := 23) (tgt := 43) K dX0_fit_23 (by decide) (fun c_23_1 => ?_) (fun c_23_1 => ?_)
    · replace c_23_1 := cI_le (a := 4) (b := (0 + 1)) rfl rfl (by omega) (by omega) c_23_1
      omega
    · replace c_23_1 := cI_nle (a := 4) (b := (0 + 1)) rfl rfl (by omega) (by omega) c_23_1
      refine x_aload_n (pc := 26) K 1 dX0_fit_26 rfl rfl ?_
      refine x_getr (r0 := 58) (pc := 27) (index := 23) (C := RX0) (T := TX0) (N := 7) (j0 := 3) (ref := "OldMap$Bend") K (by decide) sh_55 rfl i_X0 (by decide) (by decide +kernel) rfl rfl rf_55_3 dX0_fit_27 ?_
      refine x_iload_n (pc := 30) K 0 dX0_fit_30 rfl rfl ?_
      refine x_aload_n (pc := 31) K 1 dX0_fit_31 rfl rfl ?_
      refine x_iload_n (pc := 32) K 0 dX0_fit_32 rfl rfl ?_
      refine x_calllV (pc := 33) (st := [_, _]) (n := 1) K (by decide) sh_55 rfl (c_X0_sumOf l G _ _ (0 + 1) (by omega)) gX0_fit_X0_sumOf (by decide +kernel) rfl (by decide) (by decide) rfl rfl (Nat.le_of_ble_eq_true rfl) dX0_fit_33 (fun r_33 I_33 J_33 hp_33 => ?_)
      obtain ⟨rfl, rfl, rfl⟩ := hp_33
      refine x_tople (smA (atC I) b 1) (kbI_sm (by decide)) ?_
      refine y_last (j := (0 + 1)) (pc := 36) K (by decide) sh_58 rfl (by omega) (by decide) dX0_fit_36 ?_
      refine x_iinc (pc := 37) (q0 := 0) (v := nI ((0 + 1) + 1)) (lo' := [(3, _), (0, _), (1, _), (2, _)]) K dX0_fit_37 rfl (nI_incE rfl) (by decide) rfl ?_
      refine x_goto (pc := 40) (tgt := 21) K dX0_fit_40 (by decide) ?_
      refine x_iload_n (pc := 21) K 0 dX0_fit_21 rfl rfl ?_
      refine x_iconst (pc := 22) (v := 4) K dX0_fit_22 (by decide) ?_
      refine x_icmp_ge (pc := 23) (tgt := 43) K dX0_fit_23 (by decide) (fun c_23_2 => ?_) (fun c_23_2 => ?_)
      · replace c_23_2 := cI_le (a := 4) (b := ((0 + 1) + 1)) rfl rfl (by omega) (by omega) c_23_2
        omega
      · replace c_23_2 := cI_nle (a := 4) (b := ((0 + 1) + 1)) rfl rfl (by omega) (by omega) c_23_2
        refine x_aload_n (pc := 26) K 1 dX0_fit_26 rfl rfl ?_
        refine x_getr (r0 := 58) (pc := 27) (index := 23) (C := RX0) (T := TX0) (N := 7) (j0 := 3) (ref := "OldMap$Bend") K (by decide) sh_55 rfl i_X0 (by decide) (by decide +kernel) rfl rfl rf_55_3 dX0_fit_27 ?_
        refine x_iload_n (pc := 30) K 0 dX0_fit_30 rfl rfl ?_
        refine x_aload_n (pc := 31) K 1 dX0_fit_31 rfl rfl ?_
        refine x_iload_n (pc := 32) K 0 dX0_fit_32 rfl rfl ?_
        refine x_calllV (pc := 33) (st := [_, _]) (n := 1) K (by decide) sh_55 rfl (c_X0_sumOf l G _ _ ((0 + 1) + 1) (by omega)) gX0_fit_X0_sumOf (by decide +kernel) rfl (by decide) (by decide) rfl rfl (Nat.le_of_ble_eq_true rfl) dX0_fit_33 (fun r_33 I_33 J_33 hp_33 => ?_)
        obtain ⟨rfl, rfl, rfl⟩ := hp_33
        refine x_tople (smA (atC I) b 2) (kbI_sm (by decide)) ?_
        refine y_last (j := ((0 + 1) + 1)) (pc := 36) K (by decide) sh_58 rfl (by omega) (by decide) dX0_fit_36 ?_
        refine x_iinc (pc := 37) (q0 := 0) (v := nI (((0 + 1) + 1) + 1)) (lo' := [(3, _), (0, _), (1, _), (2, _)]) K dX0_fit_37 rfl (nI_incE rfl) (by decide) rfl ?_
        refine x_goto (pc := 40) (tgt := 21) K dX0_fit_40 (by decide) ?_
        refine x_iload_n (pc := 21) K 0 dX0_fit_21 rfl rfl ?_
        refine x_iconst (pc := 22) (v := 4) K dX0_fit_22 (by decide) ?_
        refine x_icmp_ge (pc := 23) (tgt := 43) K dX0_fit_23 (by decide) (fun c_23_3 => ?_) (fun c_23_3 => ?_)
        · replace c_23_3 := cI_le (a := 4) (b := (((0 + 1) + 1) + 1)) rfl rfl (by omega) (by omega) c_23_3
          omega
        · replace c_23_3 := cI_nle (a := 4) (b := (((0 + 1) + 1) + 1)) rfl rfl (by omega) (by omega) c_23_3
          refine x_aload_n (pc := 26) K 1 dX0_fit_26 rfl rfl ?_
          refine x_getr (r0 := 58) (pc := 27) (index := 23) (C := RX0) (T := TX0) (N := 7) (j0 := 3) (ref := "OldMap$Bend") K (by decide) sh_55 rfl i_X0 (by decide) (by decide +kernel) rfl rfl rf_55_3 dX0_fit_27 ?_
          refine x_iload_n (pc := 30) K 0 dX0_fit_30 rfl rfl ?_
          refine x_aload_n (pc := 31) K 1 dX0_fit_31 rfl rfl ?_
          refine x_iload_n (pc := 32) K 0 dX0_fit_32 rfl rfl ?_
          refine x_calllV (pc := 33) (st := [_, _]) (n := 1) K (by decide) sh_55 rfl (c_X0_sumOf l G _ _ (((0 + 1) + 1) + 1) (by omega)) gX0_fit_X0_sumOf (by decide +kernel) rfl (by decide) (by decide) rfl rfl (Nat.le_of_ble_eq_true rfl) dX0_fit_33 (fun r_33 I_33 J_33 hp_33 => ?_)
          obtain ⟨rfl, rfl, rfl⟩ := hp_33
          refine x_tople (smA (atC I) b 3) (kbI_sm (by decide)) ?_
          refine y_last (j := (((0 + 1) + 1) + 1)) (pc := 36) K (by decide) sh_58 rfl (by omega) (by decide) dX0_fit_36 ?_
          refine x_iinc (pc := 37) (q0 := 0) (v := nI ((((0 + 1) + 1) + 1) + 1)) (lo' := [(3, _), (0, _), (1, _), (2, _)]) K dX0_fit_37 rfl (nI_incE rfl) (by decide) rfl ?_
          refine x_goto (pc := 40) (tgt := 21) K dX0_fit_40 (by decide) ?_
          refine x_iload_n (pc := 21) K 0 dX0_fit_21 rfl rfl ?_
          refine x_iconst (pc := 22) (v := 4) K dX0_fit_22 (by decide) ?_
          refine x_icmp_ge (pc := 23) (tgt := 43) K dX0_fit_23 (by decide) (fun c_23_4 => ?_) (fun c_23_4 => ?_)
          · replace c_23_4 := cI_le (a := 4) (b := ((((0 + 1) + 1) + 1) + 1)) rfl rfl (by omega) (by omega) c_23_4
            refine x_eqI (I' := kbI I 1 b) (J' := sumsJ J b (atC I)) rfl rfl ?_
            refine x_aload_n (pc := 43) K 1 dX0_fit_43 rfl rfl ?_
            refine x_geti (pc := 44) (index := 27) (C := RX0) (T := TX0) (N := 7) (j0 := 4) (ref := "OldMap$Bend") K (by decide) sh_55 rfl i_X0 (by decide) (by decide +kernel) rfl rfl dX0_fit_44 ?_
            refine x_topie (nI 1) kbI_4 ?_
            refine x_lookup (pc := 47) (tgt := 77) (off := 30) K dX0_fit_47 (by decide) (by decide) (by decide) ?_
            refine x_aload_n (pc := 77) K 1 dX0_fit_77 rfl rfl ?_
            refine x_calliV (pc := 78) (st := []) (n := 0) K (by decide) sh_55 rfl (c_X0_fitTurned l G _ _) gX0_fit_X0_fitTurned (by decide +kernel) rfl (by decide) (by decide) rfl rfl (Nat.le_of_ble_eq_true rfl) dX0_fit_78 (fun r_78 I_78 J_78 hp_78 => ?_)
            obtain ⟨rfl, rfl, rfl⟩ := hp_78
            exact ret (pc := 81) dX0_fit_81 (fit1_fin) bz_nar
          · replace c_23_4 := cI_nle (a := 4) (b := ((((0 + 1) + 1) + 1) + 1)) rfl rfl (by omega) (by omega) c_23_4
            omega

theorem fit2_n0 {I : hI} {J : hJ} {b : Int32} (h : ¬ ¬ spr (kbI I 2 b) (sumsJ J b (atC I)) 0 0 ≤ 0) : ¬ okA (atC I) 2 b := by
  rw [fit2_a] at h
  intro q
  rcases q with ⟨e, -⟩ | ⟨e, -⟩ | ⟨-, q, -⟩
  · cases e
  · cases e
  · exact h q
theorem fit2_n1 {I : hI} {J : hJ} {b : Int32} (h : ¬ ¬ spr (kbI I 2 b) (fkJ (kbI I 2 b) (sumsJ J b (atC I)) 0) 1 1 ≤ 0) : ¬ okA (atC I) 2 b := by
  rw [fit2_b] at h
  intro q
  rcases q with ⟨e, -⟩ | ⟨e, -⟩ | ⟨-, -, q⟩
  · cases e
  · cases e
  · exact h q
theorem fit2_y {I : hI} {J : hJ} {b : Int32} (h : ¬ spr (kbI I 2 b) (sumsJ J b (atC I)) 0 0 ≤ 0) (h1 : ¬ spr (kbI I 2 b) (fkJ (kbI I 2 b) (sumsJ J b (atC I)) 0) 1 1 ≤ 0) : okA (atC I) 2 b := by
  rw [fit2_a] at h
  rw [fit2_b] at h1
  exact Or.inr (Or.inr ⟨rfl, h, h1⟩)
set_option maxHeartbeats 1000000 in
set_option maxRecDepth 100000 in
theorem c_X0_fit2 (l : Launch) (G : hQ) (I : hI) (J : hJ) (b : Int32) : h_Mi l yX0_fit wsX0_fit 2 58 G [rr G 55, .int (nI 2), .int b] I J (fun ρ I' J' => bz (okA (atC I) 2 b) = ρ ∧ Scr I J I' J' ∧ (okA (atC I) 2 b → Fit I' J' 2 b)) := by
  refine h_Mi.of (ty := .boolean) (cc := cX0_fit) (maxL := 4) [(0, rr G 55), (1, .int (nI 2)), (2, .int b)] (by decide +kernel) rfl (Nat.le_of_ble_eq_true rfl) rfl ?_
  intro Γ K ret
  have i_X0 : ∀ w ∈ u_ws RX0 TX0 7, w ∈ wsX0_fit := by decide +kernel
  refine x_aload_n (pc := 0) K 0 dX0_fit_0 rfl rfl ?_
  refine x_iload_n (pc := 1) K 1 dX0_fit_1 rfl rfl ?_
  refine x_puti (ty := .int) (pc := 2) (index := 27) (C := RX0) (T := TX0) (N := 7) (j0 := 4) (ref := "OldMap$Bend") K (by decide) sh_55 rfl i_X0 (by decide) (by decide +kernel) rfl tyX0 tyX0_ok nmX0 rfl (by decide +kernel) rfl rfl rfl dX0_fit_2 ?_
  refine x_aload_n (pc := 5) K 0 dX0_fit_5 rfl rfl ?_
  refine x_iload_n (pc := 6) K 2 dX0_fit_6 rfl rfl ?_
  refine x_puti (ty := .int) (pc := 7) (index := 31) (C := RX0) (T := TX0) (N := 7) (j0 := 5) (ref := "OldMap$Bend") K (by decide) sh_55 rfl i_X0 (by decide) (by decide +kernel) rfl tyX0 tyX0_ok nmX0 rfl (by decide +kernel) rfl rfl rfl dX0_fit_7 ?_
  refine x_aload_n (pc := 10) K 0 dX0_fit_10 rfl rfl ?_
  refine x_iload_n (pc := 11) K 2 dX0_fit_11 rfl rfl ?_
  refine x_calliS (pc := 12) (st := [_]) (n := 1) K (c_J6_bitCount_0f7a4 l G _ _ _) gX0_fit_J6_bitCount_0f7a4 (by decide +kernel) rfl (by decide) (by decide) rfl rfl (Nat.le_of_ble_eq_true rfl) dX0_fit_12 (fun r_12 I_12 J_12 hp_12 => ?_)
  obtain ⟨rfl, rfl, rfl⟩ := hp_12
  refine x_i2l (pc := 15) K dX0_fit_15 ?_
  refine x_putl (ty := .long) (pc := 16) (index := 34) (C := RX0) (T := TX0) (N := 7) (j0 := 6) (ref := "OldMap$Bend") K (by decide) sh_55 rfl i_X0 (by decide) (by decide +kernel) rfl tyX0 tyX0_ok nmX0 rfl (by decide +kernel) rfl rfl rfl dX0_fit_16 ?_
  refine x_iconst (pc := 19) (v := 0) K dX0_fit_19 (by decide) ?_
  refine x_istore_n (pc := 20) (lo' := [(3, _), (0, _), (1, _), (2, _)]) K dX0_fit_20 rfl (by decide) rfl ?_
  refine x_iload_n (pc := 21) K 0 dX0_fit_21 rfl rfl ?_
  refine x_iconst (pc := 22) (v := 4) K dX0_fit_22 (by decide) ?_
  refine x_icmp_ge (pc := 23) (tgt := 43) K dX0_fit_23 (by decide) (fun c_23 => ?_) (fun c_23 => ?_)
  · replace c_23 := cI_le (a := 4) (b := 0) rfl rfl (by omega) (by omega) c_23
    omega
  · replace c_23 := cI_nle (a := 4) (b := 0) rfl rfl (by omega) (by omega) c_23
    refine x_aload_n (pc := 26) K 1 dX0_fit_26 rfl rfl ?_
    refine x_getr (r0 := 58) (pc := 27) (index := 23) (C := RX0) (T := TX0) (N := 7) (j0 := 3) (ref := "OldMap$Bend") K (by decide) sh_55 rfl i_X0 (by decide) (by decide +kernel) rfl rfl rf_55_3 dX0_fit_27 ?_
    refine x_iload_n (pc := 30) K 0 dX0_fit_30 rfl rfl ?_
    refine x_aload_n (pc := 31) K 1 dX0_fit_31 rfl rfl ?_
    refine x_iload_n (pc := 32) K 0 dX0_fit_32 rfl rfl ?_
    refine x_calllV (pc := 33) (st := [_, _]) (n := 1) K (by decide) sh_55 rfl (c_X0_sumOf l G _ _ 0 (by omega)) gX0_fit_X0_sumOf (by decide +kernel) rfl (by decide) (by decide) rfl rfl (Nat.le_of_ble_eq_true rfl) dX0_fit_33 (fun r_33 I_33 J_33 hp_33 => ?_)
    obtain ⟨rfl, rfl, rfl⟩ := hp_33
    refine x_tople (smA (atC I) b 0) (kbI_sm (by decide)) ?_
    refine y_last (j := 0) (pc := 36) K (by decide) sh_58 rfl (by omega) (by decide) dX0_fit_36 ?_
    refine x_iinc (pc := 37) (q0 := 0) (v := nI (0 + 1)) (lo' := [(3, _), (0, _), (1, _), (2, _)]) K dX0_fit_37 rfl (nI_incE rfl) (by decide) rfl ?_
    refine x_goto (pc := 40) (tgt := 21) K dX0_fit_40 (by decide) ?_
    refine x_iload_n (pc := 21) K 0 dX0_fit_21 rfl rfl ?_
    refine x_iconst (pc := 22) (v := 4) K dX0_fit_22 (by decide) ?_
    refine x_icmp_ge (pc := 23) (tgt := 43) K dX0_fit_23 (by decide) (fun c_23_1 => ?_) (fun c_23_1 => ?_)
    · replace c_23_1 := cI_le (a := 4) (b := (0 + 1)) rfl rfl (by omega) (by omega) c_23_1
      omega
    · replace c_23_1 := cI_nle (a := 4) (b := (0 + 1)) rfl rfl (by omega) (by omega) c_23_1
      refine x_aload_n (pc := 26) K 1 dX0_fit_26 rfl rfl ?_
      refine x_getr (r0 := 58) (pc := 27) (index := 23) (C := RX0) (T := TX0) (N := 7) (j0 := 3) (ref := "OldMap$Bend") K (by decide) sh_55 rfl i_X0 (by decide) (by decide +kernel) rfl rfl rf_55_3 dX0_fit_27 ?_
      refine x_iload_n (pc := 30) K 0 dX0_fit_30 rfl rfl ?_
      refine x_aload_n (pc := 31) K 1 dX0_fit_31 rfl rfl ?_
      refine x_iload_n (pc := 32) K 0 dX0_fit_32 rfl rfl ?_
      refine x_calllV (pc := 33) (st := [_, _]) (n := 1) K (by decide) sh_55 rfl (c_X0_sumOf l G _ _ (0 + 1) (by omega)) gX0_fit_X0_sumOf (by decide +kernel) rfl (by decide) (by decide) rfl rfl (Nat.le_of_ble_eq_true rfl) dX0_fit_33 (fun r_33 I_33 J_33 hp_33 => ?_)
      obtain ⟨rfl, rfl, rfl⟩ := hp_33
      refine x_tople (smA (atC I) b 1) (kbI_sm (by decide)) ?_
      refine y_last (j := (0 + 1)) (pc := 36) K (by decide) sh_58 rfl (by omega) (by decide) dX0_fit_36 ?_
      refine x_iinc (pc := 37) (q0 := 0) (v := nI ((0 + 1) + 1)) (lo' := [(3, _), (0, _), (1, _), (2, _)]) K dX0_fit_37 rfl (nI_incE rfl) (by decide) rfl ?_
      refine x_goto (pc := 40) (tgt := 21) K dX0_fit_40 (by decide) ?_
      refine x_iload_n (pc := 21) K 0 dX0_fit_21 rfl rfl ?_
      refine x_iconst (pc := 22) (v := 4) K dX0_fit_22 (by decide) ?_
      refine x_icmp_ge (pc := 23) (tgt := 43) K dX0_fit_23 (by decide) (fun c_23_2 => ?_) (fun c_23_2 => ?_)
      · replace c_23_2 := cI_le (a := 4) (b := ((0 + 1) + 1)) rfl rfl (by omega) (by omega) c_23_2
        omega
      · replace c_23_2 := cI_nle (a := 4) (b := ((0 + 1) + 1)) rfl rfl (by omega) (by omega) c_23_2
        refine x_aload_n (pc := 26) K 1 dX0_fit_26 rfl rfl ?_
        refine x_getr (r0 := 58) (pc := 27) (index := 23) (C := RX0) (T := TX0) (N := 7) (j0 := 3) (ref := "OldMap$Bend") K (by decide) sh_55 rfl i_X0 (by decide) (by decide +kernel) rfl rfl rf_55_3 dX0_fit_27 ?_
        refine x_iload_n (pc := 30) K 0 dX0_fit_30 rfl rfl ?_
        refine x_aload_n (pc := 31) K 1 dX0_fit_31 rfl rfl ?_
        refine x_iload_n (pc := 32) K 0 dX0_fit_32 rfl rfl ?_
        refine x_calllV (pc := 33) (st := [_, _]) (n := 1) K (by decide) sh_55 rfl (c_X0_sumOf l G _ _ ((0 + 1) + 1) (by omega)) gX0_fit_X0_sumOf (by decide +kernel) rfl (by decide) (by decide) rfl rfl (Nat.le_of_ble_eq_true rfl) dX0_fit_33 (fun r_33 I_33 J_33 hp_33 => ?_)
        obtain ⟨rfl, rfl, rfl⟩ := hp_33
        refine x_tople (smA (atC I) b 2) (kbI_sm (by decide)) ?_
        refine y_last (j := ((0 + 1) + 1)) (pc := 36) K (by decide) sh_58 rfl (by omega) (by decide) dX0_fit_36 ?_
        refine x_iinc (pc := 37) (q0 := 0) (v := nI (((0 + 1) + 1) + 1)) (lo' := [(3, _), (0, _), (1, _), (2, _)]) K dX0_fit_37 rfl (nI_incE rfl) (by decide) rfl ?_
        refine x_goto (pc := 40) (tgt := 21) K dX0_fit_40 (by decide) ?_
        refine x_iload_n (pc := 21) K 0 dX0_fit_21 rfl rfl ?_
        refine x_iconst (pc := 22) (v := 4) K dX0_fit_22 (by decide) ?_
        refine x_icmp_ge (pc := 23) (tgt := 43) K dX0_fit_23 (by decide) (fun c_23_3 => ?_) (fun c_23_3 => ?_)
        · replace c_23_3 := cI_le (a := 4) (b := (((0 + 1) + 1) + 1)) rfl rfl (by omega) (by omega) c_23_3
          omega
        · replace c_23_3 := cI_nle (a := 4) (b := (((0 + 1) + 1) + 1)) rfl rfl (by omega) (by omega) c_23_3
          refine x_aload_n (pc := 26) K 1 dX0_fit_26 rfl rfl ?_
          refine x_getr (r0 := 58) (pc := 27) (index := 23) (C := RX0) (T := TX0) (N := 7) (j0 := 3) (ref := "OldMap$Bend") K (by decide) sh_55 rfl i_X0 (by decide) (by decide +kernel) rfl rfl rf_55_3 dX0_fit_27 ?_
          refine x_iload_n (pc := 30) K 0 dX0_fit_30 rfl rfl ?_
          refine x_aload_n (pc := 31) K 1 dX0_fit_31 rfl rfl ?_
          refine x_iload_n (pc := 32) K 0 dX0_fit_32 rfl rfl ?_
          refine x_calllV (pc := 33) (st := [_, _]) (n := 1) K (by decide) sh_55 rfl (c_X0_sumOf l G _ _ (((0 + 1) + 1) + 1) (by omega)) gX0_fit_X0_sumOf (by decide +kernel) rfl (by decide) (by decide) rfl rfl (Nat.le_of_ble_eq_true rfl) dX0_fit_33 (fun r_33 I_33 J_33 hp_33 => ?_)
          obtain ⟨rfl, rfl, rfl⟩ := hp_33
          refine x_tople (smA (atC I) b 3) (kbI_sm (by decide)) ?_
          refine y_last (j := (((0 + 1) + 1) + 1)) (pc := 36) K (by decide) sh_58 rfl (by omega) (by decide) dX0_fit_36 ?_
          refine x_iinc (pc := 37) (q0 := 0) (v := nI ((((0 + 1) + 1) + 1) + 1)) (lo' := [(3, _), (0, _), (1, _), (2, _)]) K dX0_fit_37 rfl (nI_incE rfl) (by decide) rfl ?_
          refine x_goto (pc := 40) (tgt := 21) K dX0_fit_40 (by decide) ?_
          refine x_iload_n (pc := 21) K 0 dX0_fit_21 rfl rfl ?_
          refine x_iconst (pc := 22) (v := 4) K dX0_fit_22 (by decide) ?_
          refine x_icmp_ge (pc := 23) (tgt := 43) K dX0_fit_23 (by decide) (fun c_23_4 => ?_) (fun c_23_4 => ?_)
          · replace c_23_4 := cI_le (a := 4) (b := ((((0 + 1) + 1) + 1) + 1)) rfl rfl (by omega) (by omega) c_23_4
            refine x_eqI (I' := kbI I 2 b) (J' := sumsJ J b (atC I)) rfl rfl ?_
            refine x_aload_n (pc := 43) K 1 dX0_fit_43 rfl rfl ?_
            refine x_geti (pc := 44) (index := 27) (C := RX0) (T := TX0) (N := 7) (j0 := 4) (ref := "OldMap$Bend") K (by decide) sh_55 rfl i_X0 (by decide) (by decide +kernel) rfl rfl dX0_fit_44 ?_
            refine x_topie (nI 2) kbI_4 ?_
            refine x_lookup (pc := 47) (tgt := 82) (off := 35) K dX0_fit_47 (by decide) (by decide) (by decide) ?_
            refine x_aload_n (pc := 82) K 1 dX0_fit_82 rfl rfl ?_
            refine x_iconst (pc := 83) (v := 0) K dX0_fit_83 (by decide) ?_
            refine x_aload_n (pc := 84) K 1 dX0_fit_84 rfl rfl ?_
            refine x_getr (r0 := 56) (pc := 85) (index := 12) (C := RX0) (T := TX0) (N := 7) (j0 := 1) (ref := "OldMap$Bend") K (by decide) sh_55 rfl i_X0 (by decide) (by decide +kernel) rfl rfl rf_55_1 dX0_fit_85 ?_
            refine x_calliV (pc := 88) (st := []) (n := 2) K (by decide) sh_55 rfl (c_X0_fitShrunk0 l G _ _) gX0_fit_X0_fitShrunk (by decide +kernel) rfl (by decide) (by decide) rfl rfl (Nat.le_of_ble_eq_true rfl) dX0_fit_88 (fun r_88 I_88 J_88 hp_88 => ?_)
            obtain ⟨rfl, rfl, rfl⟩ := hp_88
            refine x_if_eq (pc := 91) (tgt := 110) K dX0_fit_91 (by decide) (fun c_91 => ?_) (fun c_91 => ?_)
            · replace c_91 := bz_0.mp c_91
              refine x_iconst (pc := 110) (v := 0) K dX0_fit_110 (by decide) ?_
              exact ret (pc := 111) dX0_fit_111 (⟨bz_0.mpr (fit2_n0 c_91), fit2_s0, fun h => absurd h (fit2_n0 c_91)⟩) rfl
            · replace c_91 := bz_n0.mp c_91
              refine x_aload_n (pc := 94) K 1 dX0_fit_94 rfl rfl ?_
              refine x_iconst (pc := 95) (v := 1) K dX0_fit_95 (by decide) ?_
              refine x_aload_n (pc := 96) K 1 dX0_fit_96 rfl rfl ?_
              refine x_getr (r0 := 57) (pc := 97) (index := 18) (C := RX0) (T := TX0) (N := 7) (j0 := 2) (ref := "OldMap$Bend") K (by decide) sh_55 rfl i_X0 (by decide) (by decide +kernel) rfl rfl rf_55_2 dX0_fit_97 ?_
              refine x_calliV (pc := 100) (st := []) (n := 2) K (by decide) sh_55 rfl (c_X0_fitShrunk1 l G _ _) gX0_fit_X0_fitShrunk (by decide +kernel) rfl (by decide) (by decide) rfl rfl (Nat.le_of_ble_eq_true rfl) dX0_fit_100 (fun r_100 I_100 J_100 hp_100 => ?_)
              obtain ⟨rfl, rfl, rfl⟩ := hp_100
              refine x_if_eq (pc := 103) (tgt := 110) K dX0_fit_103 (by decide) (fun c_103 => ?_) (fun c_103 => ?_)
              · replace c_103 := bz_0.mp c_103
                refine x_iconst (pc := 110) (v := 0) K dX0_fit_110 (by decide) ?_
                exact ret (pc := 111) dX0_fit_111 (⟨bz_0.mpr (fit2_n1 c_103), fit2_s1, fun h => absurd h (fit2_n1 c_103)⟩) rfl
              · replace c_103 := bz_n0.mp c_103
                refine x_iconst (pc := 106) (v := 1) K dX0_fit_106 (by decide) ?_
                refine x_goto (pc := 107) (tgt := 111) K dX0_fit_107 (by decide) ?_
                exact ret (pc := 111) dX0_fit_111 (⟨bz_1.mpr (fit2_y c_91 c_103), fit2_s1, fun _ => fit2_f⟩) rfl
          · replace c_23_4 := cI_nle (a := 4) (b := ((((0 + 1) + 1) + 1) + 1)) rfl rfl (by omega) (by omega) c_23_4
            omega

theorem c_X0_fit (l : Launch) (G : hQ) (I : hI) (J : hJ) (kd : Nat) (b : Int32) (hk : kd < 3) : h_Mi l yX0_fit wsX0_fit 2 58 G [rr G 55, .int (nI kd), .int b] I J (fun ρ I' J' => bz (okA (atC I) kd b) = ρ ∧ Scr I J I' J' ∧ (okA (atC I) kd b → Fit I' J' kd b)) := by
  rcases (show kd = 0 ∨ kd = 1 ∨ kd = 2 by omega) with rfl | rfl | rfl
  · exact c_X0_fit0 l G I J b
  · exact c_X0_fit1 l G I J b
  · exact c_X0_fit2 l G I J b
