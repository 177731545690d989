/-! the reference: cell 76; places 77, isSure 78, isIn 79, corners 80, thingMany 81, things 82, kept 83 to 87, costs 88, choice 89, best 90 -/
theorem lt_pred {n : Nat} {x : Int32} (h : n < 2 ^ 31) : x ≤ nI n - 1 ↔ x < nI n := by
  rw [Int32.le_iff_toInt_le, Int32.lt_iff_toInt_lt, Int32.toInt_sub, nI_toInt h]
  have h1 : (1 : Int32).toInt = 1 := rfl
  rw [h1, Int.bmod_eq_of_le (by omega) (by omega)]
  omega
def gcdT : Nat → Int64 → Int64 → Prop
  | 0, _, l => l = 0
  | f + 1, g, l => l = 0 ∨ gcdT f l (g - g / l * l)
def ng64 (x : Int64) : Int64 := if 0 ≤ x then x else -x
def pv (I : hI) (i p : Nat) : Int32 := if i = 4 then 1 else I 77 (4 * p + i)
def sM (I : hI) (n : Nat) (b : Int32) (i k : Nat) : Int64 := sumTo (fun p => if bitOn b p then (pv I i p).toInt64 * (pv I k p).toInt64 else 0) n
def pM (I : hI) (n : Nat) (b : Int32) (i k : Nat) : Int64 := sM I n b 4 4 * sM I n b i k - sM I n b i 4 * sM I n b k 4
def cM (I : hI) : Nat → Int32
  | 0 => 0
  | k + 1 => cM I k ||| (if ¬ I 78 k = 0 ∧ ¬ I 79 k = 0 then 1 <<< (nI k &&& 31) else 0)
def mof (b : Int32) : Int32 := sumI (fun k => b >>> (nI k &&& 31) &&& 1) 12
def MW0 (I : hI) (n : Nat) (b : Int32) : Nat → Int64
  | 16 => sM I n b 4 4
  | 17 => 0
  | 18 => sM I n b 2 4 - sM I n b 0 4
  | 19 => sM I n b 4 4
  | 20 => 0
  | 21 => sM I n b 4 4
  | 22 => sM I n b 3 4 - sM I n b 1 4
  | 23 => sM I n b 4 4
  | 24 => 1
  | 25 => 1
  | 26 => 0
  | 27 => 1
  | 28 => pM I n b 0 0 - 2 * pM I n b 0 2 + pM I n b 2 2 + pM I n b 1 1 - 2 * pM I n b 1 3 + pM I n b 3 3
  | _ => sM I n b 4 4
def dM (I : hI) (n : Nat) (b : Int32) : Int64 := pM I n b 0 0 + pM I n b 1 1
def p1M (I : hI) (n : Nat) (b : Int32) : Int64 := pM I n b 0 2 + pM I n b 1 3
def q1M (I : hI) (n : Nat) (b : Int32) : Int64 := pM I n b 0 3 - pM I n b 1 2
def MW1 (I : hI) (n : Nat) (b : Int32) : Nat → Int64
  | 16 => sM I n b 4 4 * p1M I n b
  | 17 => -(sM I n b 4 4) * q1M I n b
  | 18 => sM I n b 2 4 * dM I n b - p1M I n b * sM I n b 0 4 + q1M I n b * sM I n b 1 4
  | 19 => sM I n b 4 4 * dM I n b
  | 20 => sM I n b 4 4 * q1M I n b
  | 21 => sM I n b 4 4 * p1M I n b
  | 22 => sM I n b 3 4 * dM I n b - q1M I n b * sM I n b 0 4 - p1M I n b * sM I n b 1 4
  | 23 => sM I n b 4 4 * dM I n b
  | 24 => p1M I n b
  | 25 => dM I n b
  | 26 => q1M I n b
  | 27 => dM I n b
  | 28 => (pM I n b 2 2 + pM I n b 3 3) * dM I n b - p1M I n b * p1M I n b - q1M I n b * q1M I n b
  | _ => sM I n b 4 4 * dM I n b
def MW2 (I : hI) (n : Nat) (b : Int32) : Nat → Int64
  | 16 => sM I n b 4 4 * pM I n b 0 2
  | 17 => 0
  | 18 => sM I n b 2 4 * pM I n b 0 0 - pM I n b 0 2 * sM I n b 0 4
  | 19 => sM I n b 4 4 * pM I n b 0 0
  | 20 => 0
  | 21 => sM I n b 4 4 * pM I n b 1 3
  | 22 => sM I n b 3 4 * pM I n b 1 1 - pM I n b 1 3 * sM I n b 1 4
  | 23 => sM I n b 4 4 * pM I n b 1 1
  | 24 => pM I n b 0 2
  | 25 => pM I n b 0 0
  | 26 => pM I n b 1 3
  | 27 => pM I n b 1 1
  | 28 => pM I n b 2 2 * pM I n b 0 0 - pM I n b 0 2 * pM I n b 0 2
  | 29 => sM I n b 4 4 * pM I n b 0 0
  | 30 => pM I n b 3 3 * pM I n b 1 1 - pM I n b 1 3 * pM I n b 1 3
  | _ => sM I n b 4 4 * pM I n b 1 1
def upJ (J : hJ) (f : Nat → Int64) : List Nat → hJ
  | [] => J
  | j :: js => upJ (h_upL J 76 j (f j)) f js
theorem upJ_ne {f : Nat → Int64} {k : Nat} (h : k ≠ 76) : ∀ (js : List Nat) (J : hJ), upJ J f js k = J k
  | [], _ => rfl
  | j :: js, J => by show upJ (h_upL J 76 j (f j)) f js k = J k; rw [upJ_ne h js, h_upL_ne h]
theorem upJ_no {f : Nat → Int64} {j : Nat} : ∀ (js : List Nat) (J : hJ), j ∉ js → upJ J f js 76 j = J 76 j
  | [], _, _ => rfl
  | i :: js, J, h => by
    show upJ (h_upL J 76 i (f i)) f js 76 j = J 76 j
    rw [upJ_no js _ (fun q => h (List.mem_cons_of_mem _ q))]
    have : ¬ j = i := fun q => h (by rw [q]; exact List.mem_cons_self)
    simp [h_upL, this]
theorem upJ_in {f : Nat → Int64} {j : Nat} : ∀ (js : List Nat) (J : hJ), j ∈ js → upJ J f js 76 j = f j
  | [], _, h => absurd h List.not_mem_nil
  | i :: js, J, h => by
    show upJ (h_upL J 76 i (f i)) f js 76 j = f j
    by_cases q : j ∈ js
    · exact upJ_in js _ q
    · rw [upJ_no js _ q]
      have : j = i := (List.mem_cons.mp h).resolve_right q
      simp [h_upL, this]
set_option maxHeartbeats 1000000 in
set_option maxRecDepth 100000 in
theorem c_X8_in (l : Launch) (G : hQ) (I : hI) (J : hJ) (v a b : Int32) : h_Mi l yX8_in wsX8_in 0 0 G [.int v, .int a, .int b] I J (fun ρ I' J' => bz (a ≤ v ∧ v ≤ b) = ρ ∧ I = I' ∧ J = J') := by
  refine h_Mi.of (ty := .boolean) (cc := cX8_in) (maxL := 3) [(0, .int v), (1, .int a), (2, .int b)] (by decide +kernel) rfl (Nat.le_of_ble_eq_true rfl) rfl ?_
  intro Γ K ret
  refine x_iload_n (pc := 0) K 0 dX8_in_0 rfl rfl ?_
  refine x_iload_n (pc := 1) K 1 dX8_in_1 rfl rfl ?_
  refine x_icmp_lt (pc := 2) (tgt := 14) K dX8_in_2 (by decide) (fun c_2 => ?_) (fun c_2 => ?_)
  · refine x_iconst (pc := 14) (v := 0) K dX8_in_14 (by decide) ?_
    exact ret (pc := 15) dX8_in_15 (⟨by first | exact bz_1.mpr (by grind) | exact bz_0.mpr (by grind), rfl, rfl⟩) rfl
  · refine x_iload_n (pc := 5) K 0 dX8_in_5 rfl rfl ?_
    refine x_iload_n (pc := 6) K 2 dX8_in_6 rfl rfl ?_
    refine x_icmp_gt (pc := 7) (tgt := 14) K dX8_in_7 (by decide) (fun c_7 => ?_) (fun c_7 => ?_)
    · refine x_iconst (pc := 14) (v := 0) K dX8_in_14 (by decide) ?_
      exact ret (pc := 15) dX8_in_15 (⟨by first | exact bz_1.mpr (by grind) | exact bz_0.mpr (by grind), rfl, rfl⟩) rfl
    · refine x_iconst (pc := 10) (v := 1) K dX8_in_10 (by decide) ?_
      refine x_goto (pc := 11) (tgt := 15) K dX8_in_11 (by decide) ?_
      exact ret (pc := 15) dX8_in_15 (⟨by first | exact bz_1.mpr (by grind) | exact bz_0.mpr (by grind), rfl, rfl⟩) rfl

set_option maxHeartbeats 1000000 in
set_option maxRecDepth 100000 in
theorem c_X8_isPlace (l : Launch) (G : hQ) (I : hI) (J : hJ) (x y : Int32) : h_Mi l yX8_isPlace wsX8_isPlace 1 22 G [.int x, .int y] I J (fun ρ I' J' => bz (Pl x y) = ρ ∧ I = I' ∧ J = J') := by
  refine h_Mi.of (ty := .boolean) (cc := cX8_isPlace) (maxL := 2) [(0, .int x), (1, .int y)] (by decide +kernel) rfl (Nat.le_of_ble_eq_true rfl) rfl ?_
  intro Γ K ret
  refine x_iload_n (pc := 0) K 0 dX8_isPlace_0 rfl rfl ?_
  refine x_sipush (pc := 1) (v := -1000) K dX8_isPlace_1 (by decide) ?_
  refine x_sipush (pc := 4) (v := 1000) K dX8_isPlace_4 (by decide) ?_
  refine x_calliS (pc := 7) (st := []) (n := 3) K (c_X8_in l G _ _ _ _ _) gX8_isPlace_X8_in (by decide +kernel) rfl (by decide) (by decide) rfl rfl (Nat.le_of_ble_eq_true rfl) dX8_isPlace_7 (fun r_7 I_7 J_7 hp_7 => ?_)
  obtain ⟨rfl, rfl, rfl⟩ := hp_7
  refine x_if_eq (pc := 10) (tgt := 30) K dX8_isPlace_10 (by decide) (fun c_10 => ?_) (fun c_10 => ?_)
  · replace c_10 := bz_0.mp c_10
    refine x_iconst (pc := 30) (v := 0) K dX8_isPlace_30 (by decide) ?_
    exact ret (pc := 31) dX8_isPlace_31 (⟨by first | exact bz_1.mpr (by grind) | exact bz_0.mpr (by grind), rfl, rfl⟩) rfl
  · replace c_10 := bz_n0.mp c_10
    refine x_iload_n (pc := 13) K 1 dX8_isPlace_13 rfl rfl ?_
    refine x_sipush (pc := 14) (v := -1000) K dX8_isPlace_14 (by decide) ?_
    refine x_sipush (pc := 17) (v := 1000) K dX8_isPlace_17 (by decide) ?_
    refine x_calliS (pc := 20) (st := []) (n := 3) K (c_X8_in l G _ _ _ _ _) gX8_isPlace_X8_in (by decide +kernel) rfl (by decide) (by decide) rfl rfl (Nat.le_of_ble_eq_true rfl) dX8_isPlace_20 (fun r_20 I_20 J_20 hp_20 => ?_)
    obtain ⟨rfl, rfl, rfl⟩ := hp_20
    refine x_if_eq (pc := 23) (tgt := 30) K dX8_isPlace_23 (by decide) (fun c_23 => ?_) (fun c_23 => ?_)
    · replace c_23 := bz_0.mp c_23
      refine x_iconst (pc := 30) (v := 0) K dX8_isPlace_30 (by decide) ?_
      exact ret (pc := 31) dX8_isPlace_31 (⟨by first | exact bz_1.mpr (by grind) | exact bz_0.mpr (by grind), rfl, rfl⟩) rfl
    · replace c_23 := bz_n0.mp c_23
      refine x_iconst (pc := 26) (v := 1) K dX8_isPlace_26 (by decide) ?_
      refine x_goto (pc := 27) (tgt := 31) K dX8_isPlace_27 (by decide) ?_
      exact ret (pc := 31) dX8_isPlace_31 (⟨by first | exact bz_1.mpr (by grind) | exact bz_0.mpr (by grind), rfl, rfl⟩) rfl

set_option maxHeartbeats 1000000 in
set_option maxRecDepth 100000 in
theorem c_X8_isMap (l : Launch) (G : hQ) (I : hI) (J : hJ) (x : Int32) : h_Mi l yX8_isMap wsX8_isMap 1 22 G [.int x] I J (fun ρ I' J' => bz (0 ≤ x ∧ x ≤ 1) = ρ ∧ I = I' ∧ J = J') := by
  refine h_Mi.of (ty := .boolean) (cc := cX8_isMap) (maxL := 1) [(0, .int x)] (by decide +kernel) rfl (Nat.le_of_ble_eq_true rfl) rfl ?_
  intro Γ K ret
  refine x_iload_n (pc := 0) K 0 dX8_isMap_0 rfl rfl ?_
  refine x_iconst (pc := 1) (v := 0) K dX8_isMap_1 (by decide) ?_
  refine x_iconst (pc := 2) (v := 1) K dX8_isMap_2 (by decide) ?_
  refine x_calliS (pc := 3) (st := []) (n := 3) K (c_X8_in l G _ _ _ _ _) gX8_isMap_X8_in (by decide +kernel) rfl (by decide) (by decide) rfl rfl (Nat.le_of_ble_eq_true rfl) dX8_isMap_3 (fun r_3 I_3 J_3 hp_3 => ?_)
  obtain ⟨rfl, rfl, rfl⟩ := hp_3
  exact ret (pc := 6) dX8_isMap_6 (⟨rfl, rfl, rfl⟩) bz_nar

set_option maxHeartbeats 1000000 in
set_option maxRecDepth 100000 in
theorem c_X8_isKind (l : Launch) (G : hQ) (I : hI) (J : hJ) (x : Int32) : h_Mi l yX8_isKind wsX8_isKind 1 22 G [.int x] I J (fun ρ I' J' => bz (isKd x) = ρ ∧ I = I' ∧ J = J') := by
  refine h_Mi.of (ty := .boolean) (cc := cX8_isKind) (maxL := 1) [(0, .int x)] (by decide +kernel) rfl (Nat.le_of_ble_eq_true rfl) rfl ?_
  intro Γ K ret
  refine x_iload_n (pc := 0) K 0 dX8_isKind_0 rfl rfl ?_
  refine x_iconst (pc := 1) (v := 0) K dX8_isKind_1 (by decide) ?_
  refine x_iconst (pc := 2) (v := 2) K dX8_isKind_2 (by decide) ?_
  refine x_calliS (pc := 3) (st := []) (n := 3) K (c_X8_in l G _ _ _ _ _) gX8_isKind_X8_in (by decide +kernel) rfl (by decide) (by decide) rfl rfl (Nat.le_of_ble_eq_true rfl) dX8_isKind_3 (fun r_3 I_3 J_3 hp_3 => ?_)
  obtain ⟨rfl, rfl, rfl⟩ := hp_3
  exact ret (pc := 6) dX8_isKind_6 (⟨rfl, rfl, rfl⟩) bz_nar

set_option maxHeartbeats 1000000 in
set_option maxRecDepth 100000 in
theorem c_X8_isPoint (l : Launch) (G : hQ) (I : hI) (J : hJ) (x : Int32) (n : Nat) (hn : I 76 0 = nI n) (h12 : n ≤ 12) : h_Mi l yX8_isPoint wsX8_isPoint 1 22 G [rr G 76, .int x] I J (fun ρ I' J' => bz (0 ≤ x ∧ x < I 76 0) = ρ ∧ I = I' ∧ J = J') := by
  refine h_Mi.of (ty := .boolean) (cc := cX8_isPoint) (maxL := 2) [(0, rr G 76), (1, .int x)] (by decide +kernel) rfl (Nat.le_of_ble_eq_true rfl) rfl ?_
  intro Γ K ret
  have i_X8 : ∀ w ∈ u_ws RX8 TX8 36, w ∈ wsX8_isPoint := by decide +kernel
  refine x_iload_n (pc := 0) K 1 dX8_isPoint_0 rfl rfl ?_
  refine x_iconst (pc := 1) (v := 0) K dX8_isPoint_1 (by decide) ?_
  refine x_aload_n (pc := 2) K 0 dX8_isPoint_2 rfl rfl ?_
  refine x_geti (pc := 3) (index := 65) (C := RX8) (T := TX8) (N := 36) (j0 := 0) (ref := "OldMapModel") K (by decide) sh_76 rfl i_X8 (by decide) (by decide +kernel) rfl rfl dX8_isPoint_3 ?_
  refine x_topie (nI n) hn ?_
  refine x_iconst (pc := 6) (v := 1) K dX8_isPoint_6 (by decide) ?_
  refine x_isub (pc := 7) K dX8_isPoint_7 ?_
  refine x_calliS (pc := 8) (st := []) (n := 3) K (c_X8_in l G _ _ _ _ _) gX8_isPoint_X8_in (by decide +kernel) rfl (by decide) (by decide) rfl rfl (Nat.le_of_ble_eq_true rfl) dX8_isPoint_8 (fun r_8 I_8 J_8 hp_8 => ?_)
  obtain ⟨rfl, rfl, rfl⟩ := hp_8
  exact ret (pc := 11) dX8_isPoint_11 (⟨by rw [hn]; simp only [lt_pred (show n < 2 ^ 31 by omega)], rfl, rfl⟩) bz_nar

set_option maxHeartbeats 1000000 in
set_option maxRecDepth 100000 in
theorem c_X8_counting (l : Launch) (G : hQ) (I : hI) (J : hJ) (n : Nat) (hn : I 76 0 = nI n) (h12 : n ≤ 12) : h_Mi l yX8_counting wsX8_counting 0 0 G [rr G 76] I J (fun ρ I' J' => cM I n = ρ ∧ I = I' ∧ J = J') := by
  refine h_Mi.of (ty := .int) (cc := cX8_counting) (maxL := 3) [(0, rr G 76)] (by decide +kernel) rfl (Nat.le_of_ble_eq_true rfl) rfl ?_
  intro Γ K ret
  have i_X8 : ∀ w ∈ u_ws RX8 TX8 36, w ∈ wsX8_counting := by decide +kernel
  have loop : ∀ k, k ≤ n → h_WW Γ G 4 [(2, .int (nI k)), (1, .int (cM I k)), (0, rr G 76)] [] I J := by
    refine loopU n (fun k hk ih => ?_)
    refine x_iload_n (pc := 4) K 0 dX8_counting_4 rfl rfl ?_
    refine x_aload_n (pc := 5) K 2 dX8_counting_5 rfl rfl ?_
    refine x_geti (pc := 6) (index := 65) (C := RX8) (T := TX8) (N := 36) (j0 := 0) (ref := "OldMapModel") K (by decide) sh_76 rfl i_X8 (by decide) (by decide +kernel) rfl rfl dX8_counting_6 ?_
    refine x_topie (nI n) hn ?_
    refine x_icmp_ge (pc := 9) (tgt := 46) K dX8_counting_9 (by decide) (fun c_9 => ?_) (fun c_9 => ?_)
    · replace c_9 := cI_le (a := n) (b := k) rfl rfl (by omega) (by omega) c_9
      refine x_iload_n (pc := 46) K 1 dX8_counting_46 rfl rfl ?_
      exact ret (pc := 47) dX8_counting_47 (⟨by rw [show n = k by omega], rfl, rfl⟩) rfl
    · replace c_9 := cI_nle (a := n) (b := k) rfl rfl (by omega) (by omega) c_9
      refine x_iload_n (pc := 12) K 1 dX8_counting_12 rfl rfl ?_
      refine x_aload_n (pc := 13) K 2 dX8_counting_13 rfl rfl ?_
      refine x_getr (r0 := 78) (pc := 14) (index := 13) (C := RX8) (T := TX8) (N := 36) (j0 := 2) (ref := "OldMapModel") K (by decide) sh_76 rfl i_X8 (by decide) (by decide +kernel) rfl rfl rf_76_2 dX8_counting_14 ?_
      refine x_iload_n (pc := 17) K 0 dX8_counting_17 rfl rfl ?_
      refine y_zald (j := k) (pc := 18) K (by decide) sh_78 rfl (by omega) (by decide) dX8_counting_18 ?_
      refine x_if_eq (pc := 19) (tgt := 37) K dX8_counting_19 (by decide) (fun c_19 => ?_) (fun c_19 => ?_)
      · refine x_iconst (pc := 37) (v := 0) K dX8_counting_37 (by decide) ?_
        refine x_ior (pc := 38) K dX8_counting_38 ?_
        refine x_istore_n (pc := 39) (lo' := [(1, _), (2, _), (0, _)]) K dX8_counting_39 rfl (by decide) rfl ?_
        refine x_iinc (pc := 40) (q0 := 1) (v := nI (k + 1)) (lo' := [(2, _), (1, _), (0, _)]) K dX8_counting_40 rfl (nI_incE rfl) (by decide) rfl ?_
        refine x_goto (pc := 43) (tgt := 4) K dX8_counting_43 (by decide) ?_
        refine x_lo (lo' := [(2, _), (1, _), (0, _)]) [0, 1, 2] rfl ?_
        exact x_loe (by simp only [cM]; rw [if_neg (fun h => h.1 c_19)]) (ih (by omega))
      · refine x_aload_n (pc := 22) K 2 dX8_counting_22 rfl rfl ?_
        refine x_getr (r0 := 79) (pc := 23) (index := 17) (C := RX8) (T := TX8) (N := 36) (j0 := 3) (ref := "OldMapModel") K (by decide) sh_76 rfl i_X8 (by decide) (by decide +kernel) rfl rfl rf_76_3 dX8_counting_23 ?_
        refine x_iload_n (pc := 26) K 0 dX8_counting_26 rfl rfl ?_
        refine y_zald (j := k) (pc := 27) K (by decide) sh_79 rfl (by omega) (by decide) dX8_counting_27 ?_
        refine x_if_eq (pc := 28) (tgt := 37) K dX8_counting_28 (by decide) (fun c_28 => ?_) (fun c_28 => ?_)
        · refine x_iconst (pc := 37) (v := 0) K dX8_counting_37 (by decide) ?_
          refine x_ior (pc := 38) K dX8_counting_38 ?_
          refine x_istore_n (pc := 39) (lo' := [(1, _), (2, _), (0, _)]) K dX8_counting_39 rfl (by decide) rfl ?_
          refine x_iinc (pc := 40) (q0 := 1) (v := nI (k + 1)) (lo' := [(2, _), (1, _), (0, _)]) K dX8_counting_40 rfl (nI_incE rfl) (by decide) rfl ?_
          refine x_goto (pc := 43) (tgt := 4) K dX8_counting_43 (by decide) ?_
          refine x_lo (lo' := [(2, _), (1, _), (0, _)]) [0, 1, 2] rfl ?_
          exact x_loe (by simp only [cM]; rw [if_neg (fun h => h.2 c_28)]) (ih (by omega))
        · refine x_iconst (pc := 31) (v := 1) K dX8_counting_31 (by decide) ?_
          refine x_iload_n (pc := 32) K 0 dX8_counting_32 rfl rfl ?_
          refine x_ishl (pc := 33) K dX8_counting_33 ?_
          refine x_goto (pc := 34) (tgt := 38) K dX8_counting_34 (by decide) ?_
          refine x_ior (pc := 38) K dX8_counting_38 ?_
          refine x_istore_n (pc := 39) (lo' := [(1, _), (2, _), (0, _)]) K dX8_counting_39 rfl (by decide) rfl ?_
          refine x_iinc (pc := 40) (q0 := 1) (v := nI (k + 1)) (lo' := [(2, _), (1, _), (0, _)]) K dX8_counting_40 rfl (nI_incE rfl) (by decide) rfl ?_
          refine x_goto (pc := 43) (tgt := 4) K dX8_counting_43 (by decide) ?_
          refine x_lo (lo' := [(2, _), (1, _), (0, _)]) [0, 1, 2] rfl ?_
          exact x_loe (by simp only [cM]; rw [if_pos (And.intro c_19 c_28)]) (ih (by omega))
  refine x_iconst (pc := 0) (v := 0) K dX8_counting_0 (by decide) ?_
  refine x_istore_n (pc := 1) (lo' := [(1, _), (0, _)]) K dX8_counting_1 rfl (by decide) rfl ?_
  refine x_iconst (pc := 2) (v := 0) K dX8_counting_2 (by decide) ?_
  refine x_istore_n (pc := 3) (lo' := [(2, _), (1, _), (0, _)]) K dX8_counting_3 rfl (by decide) rfl ?_
  refine x_lo (lo' := [(2, _), (1, _), (0, _)]) [0, 1, 2] rfl ?_
  exact x_loe (by rfl) (loop 0 (Nat.zero_le _))

set_option maxHeartbeats 1000000 in
set_option maxRecDepth 100000 in
theorem c_X8_sum (l : Launch) (G : hQ) (I : hI) (J : hJ) (b : Int32) (i k : Nat) (hi : i ≤ 4) (hk4 : k ≤ 4) (n : Nat) (hn : I 76 0 = nI n) (h12 : n ≤ 12) : h_Ml l yX8_sum wsX8_sum 0 0 G [rr G 76, .int b, .int (nI i), .int (nI k)] I J (fun ρ I' J' => sM I n b i k = ρ ∧ I = I' ∧ J = J') := by
  refine h_Ml.of (cc := cX8_sum) (maxL := 7) [(0, rr G 76), (1, .int b), (2, .int (nI i)), (3, .int (nI k))] (by decide +kernel) rfl (Nat.le_of_ble_eq_true rfl) rfl ?_
  intro Γ K ret
  have i_X8 : ∀ w ∈ u_ws RX8 TX8 36, w ∈ wsX8_sum := by decide +kernel
  have loop : ∀ q, q ≤ n → h_WW Γ G 6 [(6, .int (nI q)), (4, .long (sumTo (fun p => if bitOn b p then (pv I i p).toInt64 * (pv I k p).toInt64 else 0) q)), (0, rr G 76), (1, .int b), (2, .int (nI i)), (3, .int (nI k))] [] I J := by
    refine loopU n (fun q hk ih => ?_)
    refine x_iload (pc := 6) K 0 dX8_sum_6 rfl ?_
    refine x_aload_n (pc := 8) K 2 dX8_sum_8 rfl rfl ?_
    refine x_geti (pc := 9) (index := 65) (C := RX8) (T := TX8) (N := 36) (j0 := 0) (ref := "OldMapModel") K (by decide) sh_76 rfl i_X8 (by decide) (by decide +kernel) rfl rfl dX8_sum_9 ?_
    refine x_topie (nI n) hn ?_
    refine x_icmp_ge (pc := 12) (tgt := 79) K dX8_sum_12 (by decide) (fun c_12 => ?_) (fun c_12 => ?_)
    · replace c_12 := cI_le (a := n) (b := q) rfl rfl (by omega) (by omega) c_12
      refine x_lload (pc := 79) K 1 dX8_sum_79 rfl ?_
      exact ret (pc := 81) dX8_sum_81 (⟨by rw [show n = q by omega]; rfl, rfl, rfl⟩)
    · replace c_12 := cI_nle (a := n) (b := q) rfl rfl (by omega) (by omega) c_12
      refine x_iload_n (pc := 15) K 3 dX8_sum_15 rfl rfl ?_
      refine x_iload (pc := 16) K 0 dX8_sum_16 rfl ?_
      refine x_ishr (pc := 18) K dX8_sum_18 ?_
      refine x_iconst (pc := 19) (v := 1) K dX8_sum_19 (by decide) ?_
      refine x_iand (pc := 20) K dX8_sum_20 ?_
      refine x_iconst (pc := 21) (v := 1) K dX8_sum_21 (by decide) ?_
      refine x_icmp_ne (pc := 22) (tgt := 73) K dX8_sum_22 (by decide) (fun c_22 => ?_) (fun c_22 => ?_)
      · refine x_iinc (pc := 73) (q0 := 0) (v := nI (q + 1)) (lo' := [(6, _), (4, _), (0, _), (1, _), (2, _), (3, _)]) K dX8_sum_73 rfl (nI_incE rfl) (by decide) rfl ?_
        refine x_goto (pc := 76) (tgt := 6) K dX8_sum_76 (by decide) ?_
        refine x_lo (lo' := [(6, _), (4, _), (0, _), (1, _), (2, _), (3, _)]) [0, 1, 2, 3, 4, 5] rfl ?_
        exact x_loe (by simp only [sumTo]; rw [if_neg c_22, Int64.add_zero]) (ih (by omega))
      · refine x_lload (pc := 25) K 1 dX8_sum_25 rfl ?_
        refine x_iload_n (pc := 27) K 4 dX8_sum_27 rfl rfl ?_
        refine x_iconst (pc := 28) (v := 4) K dX8_sum_28 (by decide) ?_
        refine x_icmp_ne (pc := 29) (tgt := 36) K dX8_sum_29 (by decide) (fun c_29 => ?_) (fun c_29 => ?_)
        · replace c_29 := cI_ne (a := i) (b := 4) rfl rfl (by omega) (by omega) c_29
          refine x_aload_n (pc := 36) K 2 dX8_sum_36 rfl rfl ?_
          refine x_getr (r0 := 77) (pc := 37) (index := 7) (C := RX8) (T := TX8) (N := 36) (j0 := 1) (ref := "OldMapModel") K (by decide) sh_76 rfl i_X8 (by decide) (by decide +kernel) rfl rfl rf_76_1 dX8_sum_37 ?_
          refine x_iconst (pc := 40) (v := 4) K dX8_sum_40 (by decide) ?_
          refine x_iload (pc := 41) K 0 dX8_sum_41 rfl ?_
          refine x_imul (pc := 43) K dX8_sum_43 ?_
          refine x_iload_n (pc := 44) K 4 dX8_sum_44 rfl rfl ?_
          refine x_iadd (pc := 45) K dX8_sum_45 ?_
          refine y_iald (j := ((4 * q) + i)) (pc := 46) K (by decide) sh_77 (nI_addE (nI_mulE rfl rfl) rfl) (by omega) (by decide) dX8_sum_46 ?_
          refine x_i2l (pc := 47) K dX8_sum_47 ?_
          refine x_iload_n (pc := 48) K 5 dX8_sum_48 rfl rfl ?_
          refine x_iconst (pc := 49) (v := 4) K dX8_sum_49 (by decide) ?_
          refine x_icmp_ne (pc := 50) (tgt := 57) K dX8_sum_50 (by decide) (fun c_50 => ?_) (fun c_50 => ?_)
          · replace c_50 := cI_ne (a := k) (b := 4) rfl rfl (by omega) (by omega) c_50
            refine x_aload_n (pc := 57) K 2 dX8_sum_57 rfl rfl ?_
            refine x_getr (r0 := 77) (pc := 58) (index := 7) (C := RX8) (T := TX8) (N := 36) (j0 := 1) (ref := "OldMapModel") K (by decide) sh_76 rfl i_X8 (by decide) (by decide +kernel) rfl rfl rf_76_1 dX8_sum_58 ?_
            refine x_iconst (pc := 61) (v := 4) K dX8_sum_61 (by decide) ?_
            refine x_iload (pc := 62) K 0 dX8_sum_62 rfl ?_
            refine x_imul (pc := 64) K dX8_sum_64 ?_
            refine x_iload_n (pc := 65) K 5 dX8_sum_65 rfl rfl ?_
            refine x_iadd (pc := 66) K dX8_sum_66 ?_
            refine y_iald (j := ((4 * q) + k)) (pc := 67) K (by decide) sh_77 (nI_addE (nI_mulE rfl rfl) rfl) (by omega) (by decide) dX8_sum_67 ?_
            refine x_i2l (pc := 68) K dX8_sum_68 ?_
            refine x_lmul (pc := 69) K dX8_sum_69 ?_
            refine x_ladd (pc := 70) K dX8_sum_70 ?_
            refine x_lstore (pc := 71) (lo' := [(4, _), (6, _), (0, _), (1, _), (2, _), (3, _)]) K dX8_sum_71 (by decide) rfl ?_
            refine x_iinc (pc := 73) (q0 := 1) (v := nI (q + 1)) (lo' := [(6, _), (4, _), (0, _), (1, _), (2, _), (3, _)]) K dX8_sum_73 rfl (nI_incE rfl) (by decide) rfl ?_
            refine x_goto (pc := 76) (tgt := 6) K dX8_sum_76 (by decide) ?_
            refine x_lo (lo' := [(6, _), (4, _), (0, _), (1, _), (2, _), (3, _)]) [0, 1, 2, 3, 4, 5] rfl ?_
            exact x_loe (by simp only [sumTo, pv]; rw [if_pos c_22, if_neg c_29, if_neg c_50]) (ih (by omega))
          · replace c_50 := cI_eq (a := k) (b := 4) rfl rfl (by omega) (by omega) c_50
            refine x_iconst (pc := 53) (v := 1) K dX8_sum_53 (by decide) ?_
            refine x_goto (pc := 54) (tgt := 68) K dX8_sum_54 (by decide) ?_
            refine x_i2l (pc := 68) K dX8_sum_68 ?_
            refine x_lmul (pc := 69) K dX8_sum_69 ?_
            refine x_ladd (pc := 70) K dX8_sum_70 ?_
            refine x_lstore (pc := 71) (lo' := [(4, _), (6, _), (0, _), (1, _), (2, _), (3, _)]) K dX8_sum_71 (by decide) rfl ?_
            refine x_iinc (pc := 73) (q0 := 1) (v := nI (q + 1)) (lo' := [(6, _), (4, _), (0, _), (1, _), (2, _), (3, _)]) K dX8_sum_73 rfl (nI_incE rfl) (by decide) rfl ?_
            refine x_goto (pc := 76) (tgt := 6) K dX8_sum_76 (by decide) ?_
            refine x_lo (lo' := [(6, _), (4, _), (0, _), (1, _), (2, _), (3, _)]) [0, 1, 2, 3, 4, 5] rfl ?_
            exact x_loe (by simp only [sumTo, pv]; rw [if_pos c_22, if_neg c_29, if_pos c_50]) (ih (by omega))
        · replace c_29 := cI_eq (a := i) (b := 4) rfl rfl (by omega) (by omega) c_29
          refine x_iconst (pc := 32) (v := 1) K dX8_sum_32 (by decide) ?_
          refine x_goto (pc := 33) (tgt := 47) K dX8_sum_33 (by decide) ?_
          refine x_i2l (pc := 47) K dX8_sum_47 ?_
          refine x_iload_n (pc := 48) K 5 dX8_sum_48 rfl rfl ?_
          refine x_iconst (pc := 49) (v := 4) K dX8_sum_49 (by decide) ?_
          refine x_icmp_ne (pc := 50) (tgt := 57) K dX8_sum_50 (by decide) (fun c_50 => ?_) (fun c_50 => ?_)
          · replace c_50 := cI_ne (a := k) (b := 4) rfl rfl (by omega) (by omega) c_50
            refine x_aload_n (pc := 57) K 2 dX8_sum_57 rfl rfl ?_
            refine x_getr (r0 := 77) (pc := 58) (index := 7) (C := RX8) (T := TX8) (N := 36) (j0 := 1) (ref := "OldMapModel") K (by decide) sh_76 rfl i_X8 (by decide) (by decide +kernel) rfl rfl rf_76_1 dX8_sum_58 ?_
            refine x_iconst (pc := 61) (v := 4) K dX8_sum_61 (by decide) ?_
            refine x_iload (pc := 62) K 0 dX8_sum_62 rfl ?_
            refine x_imul (pc := 64) K dX8_sum_64 ?_
            refine x_iload_n (pc := 65) K 5 dX8_sum_65 rfl rfl ?_
            refine x_iadd (pc := 66) K dX8_sum_66 ?_
            refine y_iald (j := ((4 * q) + k)) (pc := 67) K (by decide) sh_77 (nI_addE (nI_mulE rfl rfl) rfl) (by omega) (by decide) dX8_sum_67 ?_
            refine x_i2l (pc := 68) K dX8_sum_68 ?_
            refine x_lmul (pc := 69) K dX8_sum_69 ?_
            refine x_ladd (pc := 70) K dX8_sum_70 ?_
            refine x_lstore (pc := 71) (lo' := [(4, _), (6, _), (0, _), (1, _), (2, _), (3, _)]) K dX8_sum_71 (by decide) rfl ?_
            refine x_iinc (pc := 73) (q0 := 1) (v := nI (q + 1)) (lo' := [(6, _), (4, _), (0, _), (1, _), (2, _), (3, _)]) K dX8_sum_73 rfl (nI_incE rfl) (by decide) rfl ?_
            refine x_goto (pc := 76) (tgt := 6) K dX8_sum_76 (by decide) ?_
            refine x_lo (lo' := [(6, _), (4, _), (0, _), (1, _), (2, _), (3, _)]) [0, 1, 2, 3, 4, 5] rfl ?_
            exact x_loe (by simp only [sumTo, pv]; rw [if_pos c_22, if_pos c_29, if_neg c_50]) (ih (by omega))
          · replace c_50 := cI_eq (a := k) (b := 4) rfl rfl (by omega) (by omega) c_50
            refine x_iconst (pc := 53) (v := 1) K dX8_sum_53 (by decide) ?_
            refine x_goto (pc := 54) (tgt := 68) K dX8_sum_54 (by decide) ?_
            refine x_i2l (pc := 68) K dX8_sum_68 ?_
            refine x_lmul (pc := 69) K dX8_sum_69 ?_
            refine x_ladd (pc := 70) K dX8_sum_70 ?_
            refine x_lstore (pc := 71) (lo' := [(4, _), (6, _), (0, _), (1, _), (2, _), (3, _)]) K dX8_sum_71 (by decide) rfl ?_
            refine x_iinc (pc := 73) (q0 := 1) (v := nI (q + 1)) (lo' := [(6, _), (4, _), (0, _), (1, _), (2, _), (3, _)]) K dX8_sum_73 rfl (nI_incE rfl) (by decide) rfl ?_
            refine x_goto (pc := 76) (tgt := 6) K dX8_sum_76 (by decide) ?_
            refine x_lo (lo' := [(6, _), (4, _), (0, _), (1, _), (2, _), (3, _)]) [0, 1, 2, 3, 4, 5] rfl ?_
            exact x_loe (by simp only [sumTo, pv]; rw [if_pos c_22, if_pos c_29, if_pos c_50]) (ih (by omega))
  refine x_lconst (pc := 0) (v := 0) K dX8_sum_0 (by decide) ?_
  refine x_lstore (pc := 1) (lo' := [(4, _), (0, _), (1, _), (2, _), (3, _)]) K dX8_sum_1 (by decide) rfl ?_
  refine x_iconst (pc := 3) (v := 0) K dX8_sum_3 (by decide) ?_
  refine x_istore (pc := 4) (lo' := [(6, _), (4, _), (0, _), (1, _), (2, _), (3, _)]) K dX8_sum_4 (by decide) rfl ?_
  refine x_lo (lo' := [(6, _), (4, _), (0, _), (1, _), (2, _), (3, _)]) [0, 1, 2, 3, 4, 5] rfl ?_
  exact x_loe (by rfl) (loop 0 (Nat.zero_le _))

set_option maxHeartbeats 1000000 in
set_option maxRecDepth 100000 in
theorem c_X8_spread (l : Launch) (G : hQ) (I : hI) (J : hJ) (b : Int32) (i k : Nat) (hi : i ≤ 4) (hk : k ≤ 4) (n : Nat) (hn : I 76 0 = nI n) (h12 : n ≤ 12) : h_Ml l yX8_spread wsX8_spread 1 26 G [rr G 76, .int b, .int (nI i), .int (nI k)] I J (fun ρ I' J' => pM I n b i k = ρ ∧ I = I' ∧ J = J') := by
  refine h_Ml.of (cc := cX8_spread) (maxL := 4) [(0, rr G 76), (1, .int b), (2, .int (nI i)), (3, .int (nI k))] (by decide +kernel) rfl (Nat.le_of_ble_eq_true rfl) rfl ?_
  intro Γ K ret
  refine x_aload_n (pc := 0) K 0 dX8_spread_0 rfl rfl ?_
  refine x_iload_n (pc := 1) K 1 dX8_spread_1 rfl rfl ?_
  refine x_iconst (pc := 2) (v := 4) K dX8_spread_2 (by decide) ?_
  refine x_iconst (pc := 3) (v := 4) K dX8_spread_3 (by decide) ?_
  refine x_calllV (pc := 4) (st := []) (n := 3) K (by decide) sh_76 rfl (c_X8_sum l G _ _ _ 4 4 (by omega) (by omega) n hn h12) gX8_spread_X8_sum (by decide +kernel) rfl (by decide) (by decide) rfl rfl (Nat.le_of_ble_eq_true rfl) dX8_spread_4 (fun r_4 I_4 J_4 hp_4 => ?_)
  obtain ⟨rfl, rfl, rfl⟩ := hp_4
  refine x_aload_n (pc := 7) K 0 dX8_spread_7 rfl rfl ?_
  refine x_iload_n (pc := 8) K 1 dX8_spread_8 rfl rfl ?_
  refine x_iload_n (pc := 9) K 2 dX8_spread_9 rfl rfl ?_
  refine x_iload_n (pc := 10) K 3 dX8_spread_10 rfl rfl ?_
  refine x_calllV (pc := 11) (st := [_]) (n := 3) K (by decide) sh_76 rfl (c_X8_sum l G _ _ _ i k (by omega) (by omega) n hn h12) gX8_spread_X8_sum (by decide +kernel) rfl (by decide) (by decide) rfl rfl (Nat.le_of_ble_eq_true rfl) dX8_spread_11 (fun r_11 I_11 J_11 hp_11 => ?_)
  obtain ⟨rfl, rfl, rfl⟩ := hp_11
  refine x_lmul (pc := 14) K dX8_spread_14 ?_
  refine x_aload_n (pc := 15) K 0 dX8_spread_15 rfl rfl ?_
  refine x_iload_n (pc := 16) K 1 dX8_spread_16 rfl rfl ?_
  refine x_iload_n (pc := 17) K 2 dX8_spread_17 rfl rfl ?_
  refine x_iconst (pc := 18) (v := 4) K dX8_spread_18 (by decide) ?_
  refine x_calllV (pc := 19) (st := [_]) (n := 3) K (by decide) sh_76 rfl (c_X8_sum l G _ _ _ i 4 (by omega) (by omega) n hn h12) gX8_spread_X8_sum (by decide +kernel) rfl (by decide) (by decide) rfl rfl (Nat.le_of_ble_eq_true rfl) dX8_spread_19 (fun r_19 I_19 J_19 hp_19 => ?_)
  obtain ⟨rfl, rfl, rfl⟩ := hp_19
  refine x_aload_n (pc := 22) K 0 dX8_spread_22 rfl rfl ?_
  refine x_iload_n (pc := 23) K 1 dX8_spread_23 rfl rfl ?_
  refine x_iload_n (pc := 24) K 3 dX8_spread_24 rfl rfl ?_
  refine x_iconst (pc := 25) (v := 4) K dX8_spread_25 (by decide) ?_
  refine x_calllV (pc := 26) (st := [_, _]) (n := 3) K (by decide) sh_76 rfl (c_X8_sum l G _ _ _ k 4 (by omega) (by omega) n hn h12) gX8_spread_X8_sum (by decide +kernel) rfl (by decide) (by decide) rfl rfl (Nat.le_of_ble_eq_true rfl) dX8_spread_26 (fun r_26 I_26 J_26 hp_26 => ?_)
  obtain ⟨rfl, rfl, rfl⟩ := hp_26
  refine x_lmul (pc := 29) K dX8_spread_29 ?_
  refine x_lsub (pc := 30) K dX8_spread_30 ?_
  exact ret (pc := 31) dX8_spread_31 (⟨rfl, rfl, rfl⟩)

set_option maxHeartbeats 1000000 in
set_option maxRecDepth 100000 in
theorem c_X8_shift (l : Launch) (G : hQ) (I : hI) (J : hJ) (b : Int32) (n : Nat) (hn : I 76 0 = nI n) (h12 : n ≤ 12) : h_Mi l yX8_shift wsX8_shift 2 49 G [rr G 76, .int b] I J (fun ρ I' J' => bz (¬ sM I n b 4 4 ≤ 0) = ρ ∧ I = I' ∧ upJ J (MW0 I n b) [16, 17, 18, 19, 20, 21, 22, 23, 24, 25, 26, 27, 28, 29] = J') := by
  refine h_Mi.of (ty := .boolean) (cc := cX8_shift) (maxL := 4) [(0, rr G 76), (1, .int b)] (by decide +kernel) rfl (Nat.le_of_ble_eq_true rfl) rfl ?_
  intro Γ K ret
  have i_X8 : ∀ w ∈ u_ws RX8 TX8 36, w ∈ wsX8_shift := by decide +kernel
  refine x_aload_n (pc := 0) K 0 dX8_shift_0 rfl rfl ?_
  refine x_iload_n (pc := 1) K 1 dX8_shift_1 rfl rfl ?_
  refine x_iconst (pc := 2) (v := 4) K dX8_shift_2 (by decide) ?_
  refine x_iconst (pc := 3) (v := 4) K dX8_shift_3 (by decide) ?_
  refine x_calllV (pc := 4) (st := []) (n := 3) K (by decide) sh_76 rfl (c_X8_sum l G _ _ _ 4 4 (by omega) (by omega) n hn h12) gX8_shift_X8_sum (by decide +kernel) rfl (by decide) (by decide) rfl rfl (Nat.le_of_ble_eq_true rfl) dX8_shift_4 (fun r_4 I_4 J_4 hp_4 => ?_)
  obtain ⟨rfl, rfl, rfl⟩ := hp_4
  refine x_lstore_n (pc := 7) (lo' := [(2, _), (0, _), (1, _)]) K dX8_shift_7 rfl (by decide) rfl ?_
  refine x_aload_n (pc := 8) K 1 dX8_shift_8 rfl rfl ?_
  refine x_lload_n (pc := 9) K 0 dX8_shift_9 rfl rfl ?_
  refine x_tople (MW0 I n b 16) (by rfl) ?_
  refine x_putl (ty := .long) (pc := 10) (index := 83) (C := RX8) (T := TX8) (N := 36) (j0 := 16) (ref := "OldMapModel") K (by decide) sh_76 rfl i_X8 (by decide) (by decide +kernel) rfl tyX8 tyX8_ok nmX8 rfl (by decide +kernel) rfl rfl rfl dX8_shift_10 ?_
  refine x_aload_n (pc := 13) K 1 dX8_shift_13 rfl rfl ?_
  refine x_lconst (pc := 14) (v := 0) K dX8_shift_14 (by decide) ?_
  refine x_tople (MW0 I n b 17) (by rfl) ?_
  refine x_putl (ty := .long) (pc := 15) (index := 87) (C := RX8) (T := TX8) (N := 36) (j0 := 17) (ref := "OldMapModel") K (by decide) sh_76 rfl i_X8 (by decide) (by decide +kernel) rfl tyX8 tyX8_ok nmX8 rfl (by decide +kernel) rfl rfl rfl dX8_shift_15 ?_
  refine x_aload_n (pc := 18) K 1 dX8_shift_18 rfl rfl ?_
  refine x_aload_n (pc := 19) K 1 dX8_shift_19 rfl rfl ?_
  refine x_iload_n (pc := 20) K 2 dX8_shift_20 rfl rfl ?_
  refine x_iconst (pc := 21) (v := 2) K dX8_shift_21 (by decide) ?_
  refine x_iconst (pc := 22) (v := 4) K dX8_shift_22 (by decide) ?_
  refine x_calllV (pc := 23) (st := [_]) (n := 3) K (by decide) sh_76 rfl (c_X8_sum l G _ _ _ 2 4 (by omega) (by omega) n hn h12) gX8_shift_X8_sum (by decide +kernel) rfl (by decide) (by decide) rfl rfl (Nat.le_of_ble_eq_true rfl) dX8_shift_23 (fun r_23 I_23 J_23 hp_23 => ?_)
  obtain ⟨rfl, rfl, rfl⟩ := hp_23
  refine x_aload_n (pc := 26) K 1 dX8_shift_26 rfl rfl ?_
  refine x_iload_n (pc := 27) K 2 dX8_shift_27 rfl rfl ?_
  refine x_iconst (pc := 28) (v := 0) K dX8_shift_28 (by decide) ?_
  refine x_iconst (pc := 29) (v := 4) K dX8_shift_29 (by decide) ?_
  refine x_calllV (pc := 30) (st := [_, _]) (n := 3) K (by decide) sh_76 rfl (c_X8_sum l G _ _ _ 0 4 (by omega) (by omega) n hn h12) gX8_shift_X8_sum (by decide +kernel) rfl (by decide) (by decide) rfl rfl (Nat.le_of_ble_eq_true rfl) dX8_shift_30 (fun r_30 I_30 J_30 hp_30 => ?_)
  obtain ⟨rfl, rfl, rfl⟩ := hp_30
  refine x_lsub (pc := 33) K dX8_shift_33 ?_
  refine x_tople (MW0 I n b 18) (by rfl) ?_
  refine x_putl (ty := .long) (pc := 34) (index := 90) (C := RX8) (T := TX8) (N := 36) (j0 := 18) (ref := "OldMapModel") K (by decide) sh_76 rfl i_X8 (by decide) (by decide +kernel) rfl tyX8 tyX8_ok nmX8 rfl (by decide +kernel) rfl rfl rfl dX8_shift_34 ?_
  refine x_aload_n (pc := 37) K 1 dX8_shift_37 rfl rfl ?_
  refine x_lload_n (pc := 38) K 0 dX8_shift_38 rfl rfl ?_
  refine x_tople (MW0 I n b 19) (by rfl) ?_
  refine x_putl (ty := .long) (pc := 39) (index := 93) (C := RX8) (T := TX8) (N := 36) (j0 := 19) (ref := "OldMapModel") K (by decide) sh_76 rfl i_X8 (by decide) (by decide +kernel) rfl tyX8 tyX8_ok nmX8 rfl (by decide +kernel) rfl rfl rfl dX8_shift_39 ?_
  refine x_aload_n (pc := 42) K 1 dX8_shift_42 rfl rfl ?_
  refine x_lconst (pc := 43) (v := 0) K dX8_shift_43 (by decide) ?_
  refine x_tople (MW0 I n b 20) (by rfl) ?_
  refine x_putl (ty := .long) (pc := 44) (index := 96) (C := RX8) (T := TX8) (N := 36) (j0 := 20) (ref := "OldMapModel") K (by decide) sh_76 rfl i_X8 (by decide) (by decide +kernel) rfl tyX8 tyX8_ok nmX8 rfl (by decide +kernel) rfl rfl rfl dX8_shift_44 ?_
  refine x_aload_n (pc := 47) K 1 dX8_shift_47 rfl rfl ?_
  refine x_lload_n (pc := 48) K 0 dX8_shift_48 rfl rfl ?_
  refine x_tople (MW0 I n b 21) (by rfl) ?_
  refine x_putl (ty := .long) (pc := 49) (index := 99) (C := RX8) (T := TX8) (N := 36) (j0 := 21) (ref := "OldMapModel") K (by decide) sh_76 rfl i_X8 (by decide) (by decide +kernel) rfl tyX8 tyX8_ok nmX8 rfl (by decide +kernel) rfl rfl rfl dX8_shift_49 ?_
  refine x_aload_n (pc := 52) K 1 dX8_shift_52 rfl rfl ?_
  refine x_aload_n (pc := 53) K 1 dX8_shift_53 rfl rfl ?_
  refine x_iload_n (pc := 54) K 2 dX8_shift_54 rfl rfl ?_
  refine x_iconst (pc := 55) (v := 3) K dX8_shift_55 (by decide) ?_
  refine x_iconst (pc := 56) (v := 4) K dX8_shift_56 (by decide) ?_
  refine x_calllV (pc := 57) (st := [_]) (n := 3) K (by decide) sh_76 rfl (c_X8_sum l G _ _ _ 3 4 (by omega) (by omega) n hn h12) gX8_shift_X8_sum (by decide +kernel) rfl (by decide) (by decide) rfl rfl (Nat.le_of_ble_eq_true rfl) dX8_shift_57 (fun r_57 I_57 J_57 hp_57 => ?_)
  obtain ⟨rfl, rfl, rfl⟩ := hp_57
  refine x_aload_n (pc := 60) K 1 dX8_shift_60 rfl rfl ?_
  refine x_iload_n (pc := 61) K 2 dX8_shift_61 rfl rfl ?_
  refine x_iconst (pc := 62) (v := 1) K dX8_shift_62 (by decide) ?_
  refine x_iconst (pc := 63) (v := 4) K dX8_shift_63 (by decide) ?_
  refine x_calllV (pc := 64) (st := [_, _]) (n := 3) K (by decide) sh_76 rfl (c_X8_sum l G _ _ _ 1 4 (by omega) (by omega) n hn h12) gX8_shift_X8_sum (by decide +kernel) rfl (by decide) (by decide) rfl rfl (Nat.le_of_ble_eq_true rfl) dX8_shift_64 (fun r_64 I_64 J_64 hp_64 => ?_)
  obtain ⟨rfl, rfl, rfl⟩ := hp_64
  refine x_lsub (pc := 67) K dX8_shift_67 ?_
  refine x_tople (MW0 I n b 22) (by rfl) ?_
  refine x_putl (ty := .long) (pc := 68) (index := 102) (C := RX8) (T := TX8) (N := 36) (j0 := 22) (ref := "OldMapModel") K (by decide) sh_76 rfl i_X8 (by decide) (by decide +kernel) rfl tyX8 tyX8_ok nmX8 rfl (by decide +kernel) rfl rfl rfl dX8_shift_68 ?_
  refine x_aload_n (pc := 71) K 1 dX8_shift_71 rfl rfl ?_
  refine x_lload_n (pc := 72) K 0 dX8_shift_72 rfl rfl ?_
  refine x_tople (MW0 I n b 23) (by rfl) ?_
  refine x_putl (ty := .long) (pc := 73) (index := 105) (C := RX8) (T := TX8) (N := 36) (j0 := 23) (ref := "OldMapModel") K (by decide) sh_76 rfl i_X8 (by decide) (by decide +kernel) rfl tyX8 tyX8_ok nmX8 rfl (by decide +kernel) rfl rfl rfl dX8_shift_73 ?_
  refine x_aload_n (pc := 76) K 1 dX8_shift_76 rfl rfl ?_
  refine x_lconst (pc := 77) (v := 1) K dX8_shift_77 (by decide) ?_
  refine x_tople (MW0 I n b 24) (by rfl) ?_
  refine x_putl (ty := .long) (pc := 78) (index := 108) (C := RX8) (T := TX8) (N := 36) (j0 := 24) (ref := "OldMapModel") K (by decide) sh_76 rfl i_X8 (by decide) (by decide +kernel) rfl tyX8 tyX8_ok nmX8 rfl (by decide +kernel) rfl rfl rfl dX8_shift_78 ?_
  refine x_aload_n (pc := 81) K 1 dX8_shift_81 rfl rfl ?_
  refine x_lconst (pc := 82) (v := 1) K dX8_shift_82 (by decide) ?_
  refine x_tople (MW0 I n b 25) (by rfl) ?_
  refine x_putl (ty := .long) (pc := 83) (index := 111) (C := RX8) (T := TX8) (N := 36) (j0 := 25) (ref := "OldMapModel") K (by decide) sh_76 rfl i_X8 (by decide) (by decide +kernel) rfl tyX8 tyX8_ok nmX8 rfl (by decide +kernel) rfl rfl rfl dX8_shift_83 ?_
  refine x_aload_n (pc := 86) K 1 dX8_shift_86 rfl rfl ?_
  refine x_lconst (pc := 87) (v := 0) K dX8_shift_87 (by decide) ?_
  refine x_tople (MW0 I n b 26) (by rfl) ?_
  refine x_putl (ty := .long) (pc := 88) (index := 114) (C := RX8) (T := TX8) (N := 36) (j0 := 26) (ref := "OldMapModel") K (by decide) sh_76 rfl i_X8 (by decide) (by decide +kernel) rfl tyX8 tyX8_ok nmX8 rfl (by decide +kernel) rfl rfl rfl dX8_shift_88 ?_
  refine x_aload_n (pc := 91) K 1 dX8_shift_91 rfl rfl ?_
  refine x_lconst (pc := 92) (v := 1) K dX8_shift_92 (by decide) ?_
  refine x_tople (MW0 I n b 27) (by rfl) ?_
  refine x_putl (ty := .long) (pc := 93) (index := 117) (C := RX8) (T := TX8) (N := 36) (j0 := 27) (ref := "OldMapModel") K (by decide) sh_76 rfl i_X8 (by decide) (by decide +kernel) rfl tyX8 tyX8_ok nmX8 rfl (by decide +kernel) rfl rfl rfl dX8_shift_93 ?_
  refine x_aload_n (pc := 96) K 1 dX8_shift_96 rfl rfl ?_
  refine x_aload_n (pc := 97) K 1 dX8_shift_97 rfl rfl ?_
  refine x_iload_n (pc := 98) K 2 dX8_shift_98 rfl rfl ?_
  refine x_iconst (pc := 99) (v := 0) K dX8_shift_99 (by decide) ?_
  refine x_iconst (pc := 100) (v := 0) K dX8_shift_100 (by decide) ?_
  refine x_calllV (pc := 101) (st := [_]) (n := 3) K (by decide) sh_76 rfl (c_X8_spread l G _ _ _ 0 0 (by omega) (by omega) n hn h12) gX8_shift_X8_spread (by decide +kernel) rfl (by decide) (by decide) rfl rfl (Nat.le_of_ble_eq_true rfl) dX8_shift_101 (fun r_101 I_101 J_101 hp_101 => ?_)
  obtain ⟨rfl, rfl, rfl⟩ := hp_101
  refine x_ldc2_w (pc := 104) (v := (2)) K (by decide +kernel) dX8_shift_104 ?_
  refine x_aload_n (pc := 107) K 1 dX8_shift_107 rfl rfl ?_
  refine x_iload_n (pc := 108) K 2 dX8_shift_108 rfl rfl ?_
  refine x_iconst (pc := 109) (v := 0) K dX8_shift_109 (by decide) ?_
  refine x_iconst (pc := 110) (v := 2) K dX8_shift_110 (by decide) ?_
  refine x_calllV (pc := 111) (st := [_, _, _]) (n := 3) K (by decide) sh_76 rfl (c_X8_spread l G _ _ _ 0 2 (by omega) (by omega) n hn h12) gX8_shift_X8_spread (by decide +kernel) rfl (by decide) (by decide) rfl rfl (Nat.le_of_ble_eq_true rfl) dX8_shift_111 (fun r_111 I_111 J_111 hp_111 => ?_)
  obtain ⟨rfl, rfl, rfl⟩ := hp_111
  refine x_lmul (pc := 114) K dX8_shift_114 ?_
  refine x_lsub (pc := 115) K dX8_shift_115 ?_
  refine x_aload_n (pc := 116) K 1 dX8_shift_116 rfl rfl ?_
  refine x_iload_n (pc := 117) K 2 dX8_shift_117 rfl rfl ?_
  refine x_iconst (pc := 118) (v := 2) K dX8_shift_118 (by decide) ?_
  refine x_iconst (pc := 119) (v := 2) K dX8_shift_119 (by decide) ?_
  refine x_calllV (pc := 120) (st := [_, _]) (n := 3) K (by decide) sh_76 rfl (c_X8_spread l G _ _ _ 2 2 (by omega) (by omega) n hn h12) gX8_shift_X8_spread (by decide +kernel) rfl (by decide) (by decide) rfl rfl (Nat.le_of_ble_eq_true rfl) dX8_shift_120 (fun r_120 I_120 J_120 hp_120 => ?_)
  obtain ⟨rfl, rfl, rfl⟩ := hp_120
  refine x_ladd (pc := 123) K dX8_shift_123 ?_
  refine x_aload_n (pc := 124) K 1 dX8_shift_124 rfl rfl ?_
  refine x_iload_n (pc := 125) K 2 dX8_shift_125 rfl rfl ?_
  refine x_iconst (pc := 126) (v := 1) K dX8_shift_126 (by decide) ?_
  refine x_iconst (pc := 127) (v := 1) K dX8_shift_127 (by decide) ?_
  refine x_calllV (pc := 128) (st := [_, _]) (n := 3) K (by decide) sh_76 rfl (c_X8_spread l G _ _ _ 1 1 (by omega) (by omega) n hn h12) gX8_shift_X8_spread (by decide +kernel) rfl (by decide) (by decide) rfl rfl (Nat.le_of_ble_eq_true rfl) dX8_shift_128 (fun r_128 I_128 J_128 hp_128 => ?_)
  obtain ⟨rfl, rfl, rfl⟩ := hp_128
  refine x_ladd (pc := 131) K dX8_shift_131 ?_
  refine x_ldc2_w (pc := 132) (v := (2)) K (by decide +kernel) dX8_shift_132 ?_
  refine x_aload_n (pc := 135) K 1 dX8_shift_135 rfl rfl ?_
  refine x_iload_n (pc := 136) K 2 dX8_shift_136 rfl rfl ?_
  refine x_iconst (pc := 137) (v := 1) K dX8_shift_137 (by decide) ?_
  refine x_iconst (pc := 138) (v := 3) K dX8_shift_138 (by decide) ?_
  refine x_calllV (pc := 139) (st := [_, _, _]) (n := 3) K (by decide) sh_76 rfl (c_X8_spread l G _ _ _ 1 3 (by omega) (by omega) n hn h12) gX8_shift_X8_spread (by decide +kernel) rfl (by decide) (by decide) rfl rfl (Nat.le_of_ble_eq_true rfl) dX8_shift_139 (fun r_139 I_139 J_139 hp_139 => ?_)
  obtain ⟨rfl, rfl, rfl⟩ := hp_139
  refine x_lmul (pc := 142) K dX8_shift_142 ?_
  refine x_lsub (pc := 143) K dX8_shift_143 ?_
  refine x_aload_n (pc := 144) K 1 dX8_shift_144 rfl rfl ?_
  refine x_iload_n (pc := 145) K 2 dX8_shift_145 rfl rfl ?_
  refine x_iconst (pc := 146) (v := 3) K dX8_shift_146 (by decide) ?_
  refine x_iconst (pc := 147) (v := 3) K dX8_shift_147 (by decide) ?_
  refine x_calllV (pc := 148) (st := [_, _]) (n := 3) K (by decide) sh_76 rfl (c_X8_spread l G _ _ _ 3 3 (by omega) (by omega) n hn h12) gX8_shift_X8_spread (by decide +kernel) rfl (by decide) (by decide) rfl rfl (Nat.le_of_ble_eq_true rfl) dX8_shift_148 (fun r_148 I_148 J_148 hp_148 => ?_)
  obtain ⟨rfl, rfl, rfl⟩ := hp_148
  refine x_ladd (pc := 151) K dX8_shift_151 ?_
  refine x_tople (MW0 I n b 28) (by rfl) ?_
  refine x_putl (ty := .long) (pc := 152) (index := 125) (C := RX8) (T := TX8) (N := 36) (j0 := 28) (ref := "OldMapModel") K (by decide) sh_76 rfl i_X8 (by decide) (by decide +kernel) rfl tyX8 tyX8_ok nmX8 rfl (by decide +kernel) rfl rfl rfl dX8_shift_152 ?_
  refine x_aload_n (pc := 155) K 1 dX8_shift_155 rfl rfl ?_
  refine x_lload_n (pc := 156) K 0 dX8_shift_156 rfl rfl ?_
  refine x_tople (MW0 I n b 29) (by rfl) ?_
  refine x_putl (ty := .long) (pc := 157) (index := 128) (C := RX8) (T := TX8) (N := 36) (j0 := 29) (ref := "OldMapModel") K (by decide) sh_76 rfl i_X8 (by decide) (by decide +kernel) rfl tyX8 tyX8_ok nmX8 rfl (by decide +kernel) rfl rfl rfl dX8_shift_157 ?_
  refine x_lload_n (pc := 160) K 0 dX8_shift_160 rfl rfl ?_
  refine x_lconst (pc := 161) (v := 0) K dX8_shift_161 (by decide) ?_
  refine x_lcmp (pc := 162) K dX8_shift_162 ?_
  refine x_if_le (pc := 163) (tgt := 170) K dX8_shift_163 (by decide) (fun c_163 => ?_) (fun c_163 => ?_)
  · replace c_163 := (lg_cmp_le _ _).mp c_163
    refine x_iconst (pc := 170) (v := 0) K dX8_shift_170 (by decide) ?_
    exact ret (pc := 171) dX8_shift_171 (⟨by first | exact bz_1.mpr (by assumption) | exact bz_0.mpr (fun h => h (by assumption)), rfl, rfl⟩) rfl
  · replace c_163 := mt (lg_cmp_le _ _).mpr c_163
    refine x_iconst (pc := 166) (v := 1) K dX8_shift_166 (by decide) ?_
    refine x_goto (pc := 167) (tgt := 171) K dX8_shift_167 (by decide) ?_
    exact ret (pc := 171) dX8_shift_171 (⟨by first | exact bz_1.mpr (by assumption) | exact bz_0.mpr (fun h => h (by assumption)), rfl, rfl⟩) rfl

set_option maxHeartbeats 1000000 in
set_option maxRecDepth 100000 in
theorem c_X8_turned (l : Launch) (G : hQ) (I : hI) (J : hJ) (b : Int32) (n : Nat) (hn : I 76 0 = nI n) (h12 : n ≤ 12) : h_Mi l yX8_turned wsX8_turned 2 49 G [rr G 76, .int b] I J (fun ρ I' J' => bz (¬ dM I n b ≤ 0) = ρ ∧ I = I' ∧ upJ J (MW1 I n b) [16, 17, 18, 19, 20, 21, 22, 23, 24, 25, 26, 27, 28, 29] = J') := by
  refine h_Mi.of (ty := .boolean) (cc := cX8_turned) (maxL := 10) [(0, rr G 76), (1, .int b)] (by decide +kernel) rfl (Nat.le_of_ble_eq_true rfl) rfl ?_
  intro Γ K ret
  have i_X8 : ∀ w ∈ u_ws RX8 TX8 36, w ∈ wsX8_turned := by decide +kernel
  refine x_aload_n (pc := 0) K 0 dX8_turned_0 rfl rfl ?_
  refine x_iload_n (pc := 1) K 1 dX8_turned_1 rfl rfl ?_
  refine x_iconst (pc := 2) (v := 4) K dX8_turned_2 (by decide) ?_
  refine x_iconst (pc := 3) (v := 4) K dX8_turned_3 (by decide) ?_
  refine x_calllV (pc := 4) (st := []) (n := 3) K (by decide) sh_76 rfl (c_X8_sum l G _ _ _ 4 4 (by omega) (by omega) n hn h12) gX8_turned_X8_sum (by decide +kernel) rfl (by decide) (by decide) rfl rfl (Nat.le_of_ble_eq_true rfl) dX8_turned_4 (fun r_4 I_4 J_4 hp_4 => ?_)
  obtain ⟨rfl, rfl, rfl⟩ := hp_4
  refine x_lstore_n (pc := 7) (lo' := [(2, _), (0, _), (1, _)]) K dX8_turned_7 rfl (by decide) rfl ?_
  refine x_aload_n (pc := 8) K 1 dX8_turned_8 rfl rfl ?_
  refine x_iload_n (pc := 9) K 2 dX8_turned_9 rfl rfl ?_
  refine x_iconst (pc := 10) (v := 0) K dX8_turned_10 (by decide) ?_
  refine x_iconst (pc := 11) (v := 0) K dX8_turned_11 (by decide) ?_
  refine x_calllV (pc := 12) (st := []) (n := 3) K (by decide) sh_76 rfl (c_X8_spread l G _ _ _ 0 0 (by omega) (by omega) n hn h12) gX8_turned_X8_spread (by decide +kernel) rfl (by decide) (by decide) rfl rfl (Nat.le_of_ble_eq_true rfl) dX8_turned_12 (fun r_12 I_12 J_12 hp_12 => ?_)
  obtain ⟨rfl, rfl, rfl⟩ := hp_12
  refine x_aload_n (pc := 15) K 1 dX8_turned_15 rfl rfl ?_
  refine x_iload_n (pc := 16) K 2 dX8_turned_16 rfl rfl ?_
  refine x_iconst (pc := 17) (v := 1) K dX8_turned_17 (by decide) ?_
  refine x_iconst (pc := 18) (v := 1) K dX8_turned_18 (by decide) ?_
  refine x_calllV (pc := 19) (st := [_]) (n := 3) K (by decide) sh_76 rfl (c_X8_spread l G _ _ _ 1 1 (by omega) (by omega) n hn h12) gX8_turned_X8_spread (by decide +kernel) rfl (by decide) (by decide) rfl rfl (Nat.le_of_ble_eq_true rfl) dX8_turned_19 (fun r_19 I_19 J_19 hp_19 => ?_)
  obtain ⟨rfl, rfl, rfl⟩ := hp_19
  refine x_ladd (pc := 22) K dX8_turned_22 ?_
  refine x_lstore (pc := 23) (lo' := [(4, _), (2, _), (0, _), (1, _)]) K dX8_turned_23 (by decide) rfl ?_
  refine x_aload_n (pc := 25) K 2 dX8_turned_25 rfl rfl ?_
  refine x_iload_n (pc := 26) K 3 dX8_turned_26 rfl rfl ?_
  refine x_iconst (pc := 27) (v := 0) K dX8_turned_27 (by decide) ?_
  refine x_iconst (pc := 28) (v := 2) K dX8_turned_28 (by decide) ?_
  refine x_calllV (pc := 29) (st := []) (n := 3) K (by decide) sh_76 rfl (c_X8_spread l G _ _ _ 0 2 (by omega) (by omega) n hn h12) gX8_turned_X8_spread (by decide +kernel) rfl (by decide) (by decide) rfl rfl (Nat.le_of_ble_eq_true rfl) dX8_turned_29 (fun r_29 I_29 J_29 hp_29 => ?_)
  obtain ⟨rfl, rfl, rfl⟩ := hp_29
  refine x_aload_n (pc := 32) K 2 dX8_turned_32 rfl rfl ?_
  refine x_iload_n (pc := 33) K 3 dX8_turned_33 rfl rfl ?_
  refine x_iconst (pc := 34) (v := 1) K dX8_turned_34 (by decide) ?_
  refine x_iconst (pc := 35) (v := 3) K dX8_turned_35 (by decide) ?_
  refine x_calllV (pc := 36) (st := [_]) (n := 3) K (by decide) sh_76 rfl (c_X8_spread l G _ _ _ 1 3 (by omega) (by omega) n hn h12) gX8_turned_X8_spread (by decide +kernel) rfl (by decide) (by decide) rfl rfl (Nat.le_of_ble_eq_true rfl) dX8_turned_36 (fun r_36 I_36 J_36 hp_36 => ?_)
  obtain ⟨rfl, rfl, rfl⟩ := hp_36
  refine x_ladd (pc := 39) K dX8_turned_39 ?_
  refine x_lstore (pc := 40) (lo' := [(6, _), (4, _), (2, _), (0, _), (1, _)]) K dX8_turned_40 (by decide) rfl ?_
  refine x_aload_n (pc := 42) K 3 dX8_turned_42 rfl rfl ?_
  refine x_iload_n (pc := 43) K 4 dX8_turned_43 rfl rfl ?_
  refine x_iconst (pc := 44) (v := 0) K dX8_turned_44 (by decide) ?_
  refine x_iconst (pc := 45) (v := 3) K dX8_turned_45 (by decide) ?_
  refine x_calllV (pc := 46) (st := []) (n := 3) K (by decide) sh_76 rfl (c_X8_spread l G _ _ _ 0 3 (by omega) (by omega) n hn h12) gX8_turned_X8_spread (by decide +kernel) rfl (by decide) (by decide) rfl rfl (Nat.le_of_ble_eq_true rfl) dX8_turned_46 (fun r_46 I_46 J_46 hp_46 => ?_)
  obtain ⟨rfl, rfl, rfl⟩ := hp_46
  refine x_aload_n (pc := 49) K 3 dX8_turned_49 rfl rfl ?_
  refine x_iload_n (pc := 50) K 4 dX8_turned_50 rfl rfl ?_
  refine x_iconst (pc := 51) (v := 1) K dX8_turned_51 (by decide) ?_
  refine x_iconst (pc := 52) (v := 2) K dX8_turned_52 (by decide) ?_
  refine x_calllV (pc := 53) (st := [_]) (n := 3) K (by decide) sh_76 rfl (c_X8_spread l G _ _ _ 1 2 (by omega) (by omega) n hn h12) gX8_turned_X8_spread (by decide +kernel) rfl (by decide) (by decide) rfl rfl (Nat.le_of_ble_eq_true rfl) dX8_turned_53 (fun r_53 I_53 J_53 hp_53 => ?_)
  obtain ⟨rfl, rfl, rfl⟩ := hp_53
  refine x_lsub (pc := 56) K dX8_turned_56 ?_
  refine x_lstore (pc := 57) (lo' := [(8, _), (6, _), (4, _), (2, _), (0, _), (1, _)]) K dX8_turned_57 (by decide) rfl ?_
  refine x_aload_n (pc := 59) K 4 dX8_turned_59 rfl rfl ?_
  refine x_lload_n (pc := 60) K 3 dX8_turned_60 rfl rfl ?_
  refine x_lload (pc := 61) K 1 dX8_turned_61 rfl ?_
  refine x_lmul (pc := 63) K dX8_turned_63 ?_
  refine x_tople (MW1 I n b 16) (by rfl) ?_
  refine x_putl (ty := .long) (pc := 64) (index := 83) (C := RX8) (T := TX8) (N := 36) (j0 := 16) (ref := "OldMapModel") K (by decide) sh_76 rfl i_X8 (by decide) (by decide +kernel) rfl tyX8 tyX8_ok nmX8 rfl (by decide +kernel) rfl rfl rfl dX8_turned_64 ?_
  refine x_aload_n (pc := 67) K 4 dX8_turned_67 rfl rfl ?_
  refine x_lload_n (pc := 68) K 3 dX8_turned_68 rfl rfl ?_
  refine x_lneg (pc := 69) K dX8_turned_69 ?_
  refine x_lload (pc := 70) K 0 dX8_turned_70 rfl ?_
  refine x_lmul (pc := 72) K dX8_turned_72 ?_
  refine x_tople (MW1 I n b 17) (by rfl) ?_
  refine x_putl (ty := .long) (pc := 73) (index := 87) (C := RX8) (T := TX8) (N := 36) (j0 := 17) (ref := "OldMapModel") K (by decide) sh_76 rfl i_X8 (by decide) (by decide +kernel) rfl tyX8 tyX8_ok nmX8 rfl (by decide +kernel) rfl rfl rfl dX8_turned_73 ?_
  refine x_aload_n (pc := 76) K 4 dX8_turned_76 rfl rfl ?_
  refine x_aload_n (pc := 77) K 4 dX8_turned_77 rfl rfl ?_
  refine x_iload_n (pc := 78) K 5 dX8_turned_78 rfl rfl ?_
  refine x_iconst (pc := 79) (v := 2) K dX8_turned_79 (by decide) ?_
  refine x_iconst (pc := 80) (v := 4) K dX8_turned_80 (by decide) ?_
  refine x_calllV (pc := 81) (st := [_]) (n := 3) K (by decide) sh_76 rfl (c_X8_sum l G _ _ _ 2 4 (by omega) (by omega) n hn h12) gX8_turned_X8_sum (by decide +kernel) rfl (by decide) (by decide) rfl rfl (Nat.le_of_ble_eq_true rfl) dX8_turned_81 (fun r_81 I_81 J_81 hp_81 => ?_)
  obtain ⟨rfl, rfl, rfl⟩ := hp_81
  refine x_lload (pc := 84) K 2 dX8_turned_84 rfl ?_
  refine x_lmul (pc := 86) K dX8_turned_86 ?_
  refine x_lload (pc := 87) K 1 dX8_turned_87 rfl ?_
  refine x_aload_n (pc := 89) K 4 dX8_turned_89 rfl rfl ?_
  refine x_iload_n (pc := 90) K 5 dX8_turned_90 rfl rfl ?_
  refine x_iconst (pc := 91) (v := 0) K dX8_turned_91 (by decide) ?_
  refine x_iconst (pc := 92) (v := 4) K dX8_turned_92 (by decide) ?_
  refine x_calllV (pc := 93) (st := [_, _, _]) (n := 3) K (by decide) sh_76 rfl (c_X8_sum l G _ _ _ 0 4 (by omega) (by omega) n hn h12) gX8_turned_X8_sum (by decide +kernel) rfl (by decide) (by decide) rfl rfl (Nat.le_of_ble_eq_true rfl) dX8_turned_93 (fun r_93 I_93 J_93 hp_93 => ?_)
  obtain ⟨rfl, rfl, rfl⟩ := hp_93
  refine x_lmul (pc := 96) K dX8_turned_96 ?_
  refine x_lsub (pc := 97) K dX8_turned_97 ?_
  refine x_lload (pc := 98) K 0 dX8_turned_98 rfl ?_
  refine x_aload_n (pc := 100) K 4 dX8_turned_100 rfl rfl ?_
  refine x_iload_n (pc := 101) K 5 dX8_turned_101 rfl rfl ?_
  refine x_iconst (pc := 102) (v := 1) K dX8_turned_102 (by decide) ?_
  refine x_iconst (pc := 103) (v := 4) K dX8_turned_103 (by decide) ?_
  refine x_calllV (pc := 104) (st := [_, _, _]) (n := 3) K (by decide) sh_76 rfl (c_X8_sum l G _ _ _ 1 4 (by omega) (by omega) n hn h12) gX8_turned_X8_sum (by decide +kernel) rfl (by decide) (by decide) rfl rfl (Nat.le_of_ble_eq_true rfl) dX8_turned_104 (fun r_104 I_104 J_104 hp_104 => ?_)
  obtain ⟨rfl, rfl, rfl⟩ := hp_104
  refine x_lmul (pc := 107) K dX8_turned_107 ?_
  refine x_ladd (pc := 108) K dX8_turned_108 ?_
  refine x_tople (MW1 I n b 18) (by rfl) ?_
  refine x_putl (ty := .long) (pc := 109) (index := 90) (C := RX8) (T := TX8) (N := 36) (j0 := 18) (ref := "OldMapModel") K (by decide) sh_76 rfl i_X8 (by decide) (by decide +kernel) rfl tyX8 tyX8_ok nmX8 rfl (by decide +kernel) rfl rfl rfl dX8_turned_109 ?_
  refine x_aload_n (pc := 112) K 4 dX8_turned_112 rfl rfl ?_
  refine x_lload_n (pc := 113) K 3 dX8_turned_113 rfl rfl ?_
  refine x_lload (pc := 114) K 2 dX8_turned_114 rfl ?_
  refine x_lmul (pc := 116) K dX8_turned_116 ?_
  refine x_tople (MW1 I n b 19) (by rfl) ?_
  refine x_putl (ty := .long) (pc := 117) (index := 93) (C := RX8) (T := TX8) (N := 36) (j0 := 19) (ref := "OldMapModel") K (by decide) sh_76 rfl i_X8 (by decide) (by decide +kernel) rfl tyX8 tyX8_ok nmX8 rfl (by decide +kernel) rfl rfl rfl dX8_turned_117 ?_
  refine x_aload_n (pc := 120) K 4 dX8_turned_120 rfl rfl ?_
  refine x_lload_n (pc := 121) K 3 dX8_turned_121 rfl rfl ?_
  refine x_lload (pc := 122) K 0 dX8_turned_122 rfl ?_
  refine x_lmul (pc := 124) K dX8_turned_124 ?_
  refine x_tople (MW1 I n b 20) (by rfl) ?_
  refine x_putl (ty := .long) (pc := 125) (index := 96) (C := RX8) (T := TX8) (N := 36) (j0 := 20) (ref := "OldMapModel") K (by decide) sh_76 rfl i_X8 (by decide) (by decide +kernel) rfl tyX8 tyX8_ok nmX8 rfl (by decide +kernel) rfl rfl rfl dX8_turned_125 ?_
  refine x_aload_n (pc := 128) K 4 dX8_turned_128 rfl rfl ?_
  refine x_lload_n (pc := 129) K 3 dX8_turned_129 rfl rfl ?_
  refine x_lload (pc := 130) K 1 dX8_turned_130 rfl ?_
  refine x_lmul (pc := 132) K dX8_turned_132 ?_
  refine x_tople (MW1 I n b 21) (by rfl) ?_
  refine x_putl (ty := .long) (pc := 133) (index := 99) (C := RX8) (T := TX8) (N := 36) (j0 := 21) (ref := "OldMapModel") K (by decide) sh_76 rfl i_X8 (by decide) (by decide +kernel) rfl tyX8 tyX8_ok nmX8 rfl (by decide +kernel) rfl rfl rfl dX8_turned_133 ?_
  refine x_aload_n (pc := 136) K 4 dX8_turned_136 rfl rfl ?_
  refine x_aload_n (pc := 137) K 4 dX8_turned_137 rfl rfl ?_
  refine x_iload_n (pc := 138) K 5 dX8_turned_138 rfl rfl ?_
  refine x_iconst (pc := 139) (v := 3) K dX8_turned_139 (by decide) ?_
  refine x_iconst (pc := 140) (v := 4) K dX8_turned_140 (by decide) ?_
  refine x_calllV (pc := 141) (st := [_]) (n := 3) K (by decide) sh_76 rfl (c_X8_sum l G _ _ _ 3 4 (by omega) (by omega) n hn h12) gX8_turned_X8_sum (by decide +kernel) rfl (by decide) (by decide) rfl rfl (Nat.le_of_ble_eq_true rfl) dX8_turned_141 (fun r_141 I_141 J_141 hp_141 => ?_)
  obtain ⟨rfl, rfl, rfl⟩ := hp_141
  refine x_lload (pc := 144) K 2 dX8_turned_144 rfl ?_
  refine x_lmul (pc := 146) K dX8_turned_146 ?_
  refine x_lload (pc := 147) K 0 dX8_turned_147 rfl ?_
  refine x_aload_n (pc := 149) K 4 dX8_turned_149 rfl rfl ?_
  refine x_iload_n (pc := 150) K 5 dX8_turned_150 rfl rfl ?_
  refine x_iconst (pc := 151) (v := 0) K dX8_turned_151 (by decide) ?_
  refine x_iconst (pc := 152) (v := 4) K dX8_turned_152 (by decide) ?_
  refine x_calllV (pc := 153) (st := [_, _, _]) (n := 3) K (by decide) sh_76 rfl (c_X8_sum l G _ _ _ 0 4 (by omega) (by omega) n hn h12) gX8_turned_X8_sum (by decide +kernel) rfl (by decide) (by decide) rfl rfl (Nat.le_of_ble_eq_true rfl) dX8_turned_153 (fun r_153 I_153 J_153 hp_153 => ?_)
  obtain ⟨rfl, rfl, rfl⟩ := hp_153
  refine x_lmul (pc := 156) K dX8_turned_156 ?_
  refine x_lsub (pc := 157) K dX8_turned_157 ?_
  refine x_lload (pc := 158) K 1 dX8_turned_158 rfl ?_
  refine x_aload_n (pc := 160) K 4 dX8_turned_160 rfl rfl ?_
  refine x_iload_n (pc := 161) K 5 dX8_turned_161 rfl rfl ?_
  refine x_iconst (pc := 162) (v := 1) K dX8_turned_162 (by decide) ?_
  refine x_iconst (pc := 163) (v := 4) K dX8_turned_163 (by decide) ?_
  refine x_calllV (pc := 164) (st := [_, _, _]) (n := 3) K (by decide) sh_76 rfl (c_X8_sum l G _ _ _ 1 4 (by omega) (by omega) n hn h12) gX8_turned_X8_sum (by decide +kernel) rfl (by decide) (by decide) rfl rfl (Nat.le_of_ble_eq_true rfl) dX8_turned_164 (fun r_164 I_164 J_164 hp_164 => ?_)
  obtain ⟨rfl, rfl, rfl⟩ := hp_164
  refine x_lmul (pc := 167) K dX8_turned_167 ?_
  refine x_lsub (pc := 168) K dX8_turned_168 ?_
  refine x_tople (MW1 I n b 22) (by rfl) ?_
  refine x_putl (ty := .long) (pc := 169) (index := 102) (C := RX8) (T := TX8) (N := 36) (j0 := 22) (ref := "OldMapModel") K (by decide) sh_76 rfl i_X8 (by decide) (by decide +kernel) rfl tyX8 tyX8_ok nmX8 rfl (by decide +kernel) rfl rfl rfl dX8_turned_169 ?_
  refine x_aload_n (pc := 172) K 4 dX8_turned_172 rfl rfl ?_
  refine x_lload_n (pc := 173) K 3 dX8_turned_173 rfl rfl ?_
  refine x_lload (pc := 174) K 2 dX8_turned_174 rfl ?_
  refine x_lmul (pc := 176) K dX8_turned_176 ?_
  refine x_tople (MW1 I n b 23) (by rfl) ?_
  refine x_putl (ty := .long) (pc := 177) (index := 105) (C := RX8) (T := TX8) (N := 36) (j0 := 23) (ref := "OldMapModel") K (by decide) sh_76 rfl i_X8 (by decide) (by decide +kernel) rfl tyX8 tyX8_ok nmX8 rfl (by decide +kernel) rfl rfl rfl dX8_turned_177 ?_
  refine x_aload_n (pc := 180) K 4 dX8_turned_180 rfl rfl ?_
  refine x_lload (pc := 181) K 1 dX8_turned_181 rfl ?_
  refine x_tople (MW1 I n b 24) (by rfl) ?_
  refine x_putl (ty := .long) (pc := 183) (index := 108) (C := RX8) (T := TX8) (N := 36) (j0 := 24) (ref := "OldMapModel") K (by decide) sh_76 rfl i_X8 (by decide) (by decide +kernel) rfl tyX8 tyX8_ok nmX8 rfl (by decide +kernel) rfl rfl rfl dX8_turned_183 ?_
  refine x_aload_n (pc := 186) K 4 dX8_turned_186 rfl rfl ?_
  refine x_lload (pc := 187) K 2 dX8_turned_187 rfl ?_
  refine x_tople (MW1 I n b 25) (by rfl) ?_
  refine x_putl (ty := .long) (pc := 189) (index := 111) (C := RX8) (T := TX8) (N := 36) (j0 := 25) (ref := "OldMapModel") K (by decide) sh_76 rfl i_X8 (by decide) (by decide +kernel) rfl tyX8 tyX8_ok nmX8 rfl (by decide +kernel) rfl rfl rfl dX8_turned_189 ?_
  refine x_aload_n (pc := 192) K 4 dX8_turned_192 rfl rfl ?_
  refine x_lload (pc := 193) K 0 dX8_turned_193 rfl ?_
  refine x_tople (MW1 I n b 26) (by rfl) ?_
  refine x_putl (ty := .long) (pc := 195) (index := 114) (C := RX8) (T := TX8) (N := 36) (j0 := 26) (ref := "OldMapModel") K (by decide) sh_76 rfl i_X8 (by decide) (by decide +kernel) rfl tyX8 tyX8_ok nmX8 rfl (by decide +kernel) rfl rfl rfl dX8_turned_195 ?_
  refine x_aload_n (pc := 198) K 4 dX8_turned_198 rfl rfl ?_
  refine x_lload (pc := 199) K 2 dX8_turned_199 rfl ?_
  refine x_tople (MW1 I n b 27) (by rfl) ?_
  refine x_putl (ty := .long) (pc := 201) (index := 117) (C := RX8) (T := TX8) (N := 36) (j0 := 27) (ref := "OldMapModel") K (by decide) sh_76 rfl i_X8 (by decide) (by decide +kernel) rfl tyX8 tyX8_ok nmX8 rfl (by decide +kernel) rfl rfl rfl dX8_turned_201 ?_
  refine x_aload_n (pc := 204) K 4 dX8_turned_204 rfl rfl ?_
  refine x_aload_n (pc := 205) K 4 dX8_turned_205 rfl rfl ?_
  refine x_iload_n (pc := 206) K 5 dX8_turned_206 rfl rfl ?_
  refine x_iconst (pc := 207) (v := 2) K dX8_turned_207 (by decide) ?_
  refine x_iconst (pc := 208) (v := 2) K dX8_turned_208 (by decide) ?_
  refine x_calllV (pc := 209) (st := [_]) (n := 3) K (by decide) sh_76 rfl (c_X8_spread l G _ _ _ 2 2 (by omega) (by omega) n hn h12) gX8_turned_X8_spread (by decide +kernel) rfl (by decide) (by decide) rfl rfl (Nat.le_of_ble_eq_true rfl) dX8_turned_209 (fun r_209 I_209 J_209 hp_209 => ?_)
  obtain ⟨rfl, rfl, rfl⟩ := hp_209
  refine x_aload_n (pc := 212) K 4 dX8_turned_212 rfl rfl ?_
  refine x_iload_n (pc := 213) K 5 dX8_turned_213 rfl rfl ?_
  refine x_iconst (pc := 214) (v := 3) K dX8_turned_214 (by decide) ?_
  refine x_iconst (pc := 215) (v := 3) K dX8_turned_215 (by decide) ?_
  refine x_calllV (pc := 216) (st := [_, _]) (n := 3) K (by decide) sh_76 rfl (c_X8_spread l G _ _ _ 3 3 (by omega) (by omega) n hn h12) gX8_turned_X8_spread (by decide +kernel) rfl (by decide) (by decide) rfl rfl (Nat.le_of_ble_eq_true rfl) dX8_turned_216 (fun r_216 I_216 J_216 hp_216 => ?_)
  obtain ⟨rfl, rfl, rfl⟩ := hp_216
  refine x_ladd (pc := 219) K dX8_turned_219 ?_
  refine x_lload (pc := 220) K 2 dX8_turned_220 rfl ?_
  refine x_lmul (pc := 222) K dX8_turned_222 ?_
  refine x_lload (pc := 223) K 1 dX8_turned_223 rfl ?_
  refine x_lload (pc := 225) K 1 dX8_turned_225 rfl ?_
  refine x_lmul (pc := 227) K dX8_turned_227 ?_
  refine x_lsub (pc := 228) K dX8_turned_228 ?_
  refine x_lload (pc := 229) K 0 dX8_turned_229 rfl ?_
  refine x_lload (pc := 231) K 0 dX8_turned_231 rfl ?_
  refine x_lmul (pc := 233) K dX8_turned_233 ?_
  refine x_lsub (pc := 234) K dX8_turned_234 ?_
  refine x_tople (MW1 I n b 28) (by rfl) ?_
  refine x_putl (ty := .long) (pc := 235) (index := 125) (C := RX8) (T := TX8) (N := 36) (j0 := 28) (ref := "OldMapModel") K (by decide) sh_76 rfl i_X8 (by decide) (by decide +kernel) rfl tyX8 tyX8_ok nmX8 rfl (by decide +kernel) rfl rfl rfl dX8_turned_235 ?_
  refine x_aload_n (pc := 238) K 4 dX8_turned_238 rfl rfl ?_
  refine x_lload_n (pc := 239) K 3 dX8_turned_239 rfl rfl ?_
  refine x_lload (pc := 240) K 2 dX8_turned_240 rfl ?_
  refine x_lmul (pc := 242) K dX8_turned_242 ?_
  refine x_tople (MW1 I n b 29) (by rfl) ?_
  refine x_putl (ty := .long) (pc := 243) (index := 128) (C := RX8) (T := TX8) (N := 36) (j0 := 29) (ref := "OldMapModel") K (by decide) sh_76 rfl i_X8 (by decide) (by decide +kernel) rfl tyX8 tyX8_ok nmX8 rfl (by decide +kernel) rfl rfl rfl dX8_turned_243 ?_
  refine x_lload (pc := 246) K 2 dX8_turned_246 rfl ?_
  refine x_lconst (pc := 248) (v := 0) K dX8_turned_248 (by decide) ?_
  refine x_lcmp (pc := 249) K dX8_turned_249 ?_
  refine x_if_le (pc := 250) (tgt := 257) K dX8_turned_250 (by decide) (fun c_250 => ?_) (fun c_250 => ?_)
  · replace c_250 := (lg_cmp_le _ _).mp c_250
    refine x_iconst (pc := 257) (v := 0) K dX8_turned_257 (by decide) ?_
    exact ret (pc := 258) dX8_turned_258 (⟨by first | exact bz_1.mpr (by assumption) | exact bz_0.mpr (fun h => h (by assumption)), rfl, rfl⟩) rfl
  · replace c_250 := mt (lg_cmp_le _ _).mpr c_250
    refine x_iconst (pc := 253) (v := 1) K dX8_turned_253 (by decide) ?_
    refine x_goto (pc := 254) (tgt := 258) K dX8_turned_254 (by decide) ?_
    exact ret (pc := 258) dX8_turned_258 (⟨by first | exact bz_1.mpr (by assumption) | exact bz_0.mpr (fun h => h (by assumption)), rfl, rfl⟩) rfl

set_option maxHeartbeats 1000000 in
set_option maxRecDepth 100000 in
theorem c_X8_shrunk (l : Launch) (G : hQ) (I : hI) (J : hJ) (b : Int32) (n : Nat) (hn : I 76 0 = nI n) (h12 : n ≤ 12) : h_Mi l yX8_shrunk wsX8_shrunk 2 49 G [rr G 76, .int b] I J (fun ρ I' J' => bz (¬ pM I n b 0 0 ≤ 0 ∧ ¬ pM I n b 1 1 ≤ 0) = ρ ∧ I = I' ∧ upJ J (MW2 I n b) [24, 25, 26, 27, 16, 17, 18, 19, 20, 21, 22, 23, 28, 29, 30, 31] = J') := by
  refine h_Mi.of (ty := .boolean) (cc := cX8_shrunk) (maxL := 8) [(0, rr G 76), (1, .int b)] (by decide +kernel) rfl (Nat.le_of_ble_eq_true rfl) rfl ?_
  intro Γ K ret
  have i_X8 : ∀ w ∈ u_ws RX8 TX8 36, w ∈ wsX8_shrunk := by decide +kernel
  refine x_aload_n (pc := 0) K 0 dX8_shrunk_0 rfl rfl ?_
  refine x_iload_n (pc := 1) K 1 dX8_shrunk_1 rfl rfl ?_
  refine x_iconst (pc := 2) (v := 4) K dX8_shrunk_2 (by decide) ?_
  refine x_iconst (pc := 3) (v := 4) K dX8_shrunk_3 (by decide) ?_
  refine x_calllV (pc := 4) (st := []) (n := 3) K (by decide) sh_76 rfl (c_X8_sum l G _ _ _ 4 4 (by omega) (by omega) n hn h12) gX8_shrunk_X8_sum (by decide +kernel) rfl (by decide) (by decide) rfl rfl (Nat.le_of_ble_eq_true rfl) dX8_shrunk_4 (fun r_4 I_4 J_4 hp_4 => ?_)
  obtain ⟨rfl, rfl, rfl⟩ := hp_4
  refine x_lstore_n (pc := 7) (lo' := [(2, _), (0, _), (1, _)]) K dX8_shrunk_7 rfl (by decide) rfl ?_
  refine x_aload_n (pc := 8) K 1 dX8_shrunk_8 rfl rfl ?_
  refine x_iload_n (pc := 9) K 2 dX8_shrunk_9 rfl rfl ?_
  refine x_iconst (pc := 10) (v := 0) K dX8_shrunk_10 (by decide) ?_
  refine x_iconst (pc := 11) (v := 0) K dX8_shrunk_11 (by decide) ?_
  refine x_calllV (pc := 12) (st := []) (n := 3) K (by decide) sh_76 rfl (c_X8_spread l G _ _ _ 0 0 (by omega) (by omega) n hn h12) gX8_shrunk_X8_spread (by decide +kernel) rfl (by decide) (by decide) rfl rfl (Nat.le_of_ble_eq_true rfl) dX8_shrunk_12 (fun r_12 I_12 J_12 hp_12 => ?_)
  obtain ⟨rfl, rfl, rfl⟩ := hp_12
  refine x_lstore (pc := 15) (lo' := [(4, _), (2, _), (0, _), (1, _)]) K dX8_shrunk_15 (by decide) rfl ?_
  refine x_aload_n (pc := 17) K 2 dX8_shrunk_17 rfl rfl ?_
  refine x_iload_n (pc := 18) K 3 dX8_shrunk_18 rfl rfl ?_
  refine x_iconst (pc := 19) (v := 1) K dX8_shrunk_19 (by decide) ?_
  refine x_iconst (pc := 20) (v := 1) K dX8_shrunk_20 (by decide) ?_
  refine x_calllV (pc := 21) (st := []) (n := 3) K (by decide) sh_76 rfl (c_X8_spread l G _ _ _ 1 1 (by omega) (by omega) n hn h12) gX8_shrunk_X8_spread (by decide +kernel) rfl (by decide) (by decide) rfl rfl (Nat.le_of_ble_eq_true rfl) dX8_shrunk_21 (fun r_21 I_21 J_21 hp_21 => ?_)
  obtain ⟨rfl, rfl, rfl⟩ := hp_21
  refine x_lstore (pc := 24) (lo' := [(6, _), (4, _), (2, _), (0, _), (1, _)]) K dX8_shrunk_24 (by decide) rfl ?_
  refine x_aload_n (pc := 26) K 3 dX8_shrunk_26 rfl rfl ?_
  refine x_aload_n (pc := 27) K 3 dX8_shrunk_27 rfl rfl ?_
  refine x_iload_n (pc := 28) K 4 dX8_shrunk_28 rfl rfl ?_
  refine x_iconst (pc := 29) (v := 0) K dX8_shrunk_29 (by decide) ?_
  refine x_iconst (pc := 30) (v := 2) K dX8_shrunk_30 (by decide) ?_
  refine x_calllV (pc := 31) (st := [_]) (n := 3) K (by decide) sh_76 rfl (c_X8_spread l G _ _ _ 0 2 (by omega) (by omega) n hn h12) gX8_shrunk_X8_spread (by decide +kernel) rfl (by decide) (by decide) rfl rfl (Nat.le_of_ble_eq_true rfl) dX8_shrunk_31 (fun r_31 I_31 J_31 hp_31 => ?_)
  obtain ⟨rfl, rfl, rfl⟩ := hp_31
  refine x_tople (MW2 I n b 24) (by rfl) ?_
  refine x_putl (ty := .long) (pc := 34) (index := 108) (C := RX8) (T := TX8) (N := 36) (j0 := 24) (ref := "OldMapModel") K (by decide) sh_76 rfl i_X8 (by decide) (by decide +kernel) rfl tyX8 tyX8_ok nmX8 rfl (by decide +kernel) rfl rfl rfl dX8_shrunk_34 ?_
  refine x_aload_n (pc := 37) K 3 dX8_shrunk_37 rfl rfl ?_
  refine x_lload (pc := 38) K 1 dX8_shrunk_38 rfl ?_
  refine x_tople (MW2 I n b 25) (by rfl) ?_
  refine x_putl (ty := .long) (pc := 40) (index := 111) (C := RX8) (T := TX8) (N := 36) (j0 := 25) (ref := "OldMapModel") K (by decide) sh_76 rfl i_X8 (by decide) (by decide +kernel) rfl tyX8 tyX8_ok nmX8 rfl (by decide +kernel) rfl rfl rfl dX8_shrunk_40 ?_
  refine x_aload_n (pc := 43) K 3 dX8_shrunk_43 rfl rfl ?_
  refine x_aload_n (pc := 44) K 3 dX8_shrunk_44 rfl rfl ?_
  refine x_iload_n (pc := 45) K 4 dX8_shrunk_45 rfl rfl ?_
  refine x_iconst (pc := 46) (v := 1) K dX8_shrunk_46 (by decide) ?_
  refine x_iconst (pc := 47) (v := 3) K dX8_shrunk_47 (by decide) ?_
  refine x_calllV (pc := 48) (st := [_]) (n := 3) K (by decide) sh_76 rfl (c_X8_spread l G _ _ _ 1 3 (by omega) (by omega) n hn h12) gX8_shrunk_X8_spread (by decide +kernel) rfl (by decide) (by decide) rfl rfl (Nat.le_of_ble_eq_true rfl) dX8_shrunk_48 (fun r_48 I_48 J_48 hp_48 => ?_)
  obtain ⟨rfl, rfl, rfl⟩ := hp_48
  refine x_tople (MW2 I n b 26) (by rfl) ?_
  refine x_putl (ty := .long) (pc := 51) (index := 114) (C := RX8) (T := TX8) (N := 36) (j0 := 26) (ref := "OldMapModel") K (by decide) sh_76 rfl i_X8 (by decide) (by decide +kernel) rfl tyX8 tyX8_ok nmX8 rfl (by decide +kernel) rfl rfl rfl dX8_shrunk_51 ?_
  refine x_aload_n (pc := 54) K 3 dX8_shrunk_54 rfl rfl ?_
  refine x_lload (pc := 55) K 0 dX8_shrunk_55 rfl ?_
  refine x_tople (MW2 I n b 27) (by rfl) ?_
  refine x_putl (ty := .long) (pc := 57) (index := 117) (C := RX8) (T := TX8) (N := 36) (j0 := 27) (ref := "OldMapModel") K (by decide) sh_76 rfl i_X8 (by decide) (by decide +kernel) rfl tyX8 tyX8_ok nmX8 rfl (by decide +kernel) rfl rfl rfl dX8_shrunk_57 ?_
  refine x_aload_n (pc := 60) K 3 dX8_shrunk_60 rfl rfl ?_
  refine x_lload_n (pc := 61) K 2 dX8_shrunk_61 rfl rfl ?_
  refine x_aload_n (pc := 62) K 3 dX8_shrunk_62 rfl rfl ?_
  refine x_getl (pc := 63) (index := 108) (C := RX8) (T := TX8) (N := 36) (j0 := 24) (ref := "OldMapModel") K (by decide) sh_76 rfl i_X8 (by decide) (by decide +kernel) rfl rfl dX8_shrunk_63 ?_
  refine x_tople (MW2 I n b 24) (by simp [h_upL]) ?_
  refine x_lmul (pc := 66) K dX8_shrunk_66 ?_
  refine x_tople (MW2 I n b 16) (by rfl) ?_
  refine x_putl (ty := .long) (pc := 67) (index := 83) (C := RX8) (T := TX8) (N := 36) (j0 := 16) (ref := "OldMapModel") K (by decide) sh_76 rfl i_X8 (by decide) (by decide +kernel) rfl tyX8 tyX8_ok nmX8 rfl (by decide +kernel) rfl rfl rfl dX8_shrunk_67 ?_
  refine x_aload_n (pc := 70) K 3 dX8_shrunk_70 rfl rfl ?_
  refine x_lconst (pc := 71) (v := 0) K dX8_shrunk_71 (by decide) ?_
  refine x_tople (MW2 I n b 17) (by rfl) ?_
  refine x_putl (ty := .long) (pc := 72) (index := 87) (C := RX8) (T := TX8) (N := 36) (j0 := 17) (ref := "OldMapModel") K (by decide) sh_76 rfl i_X8 (by decide) (by decide +kernel) rfl tyX8 tyX8_ok nmX8 rfl (by decide +kernel) rfl rfl rfl dX8_shrunk_72 ?_
  refine x_aload_n (pc := 75) K 3 dX8_shrunk_75 rfl rfl ?_
  refine x_aload_n (pc := 76) K 3 dX8_shrunk_76 rfl rfl ?_
  refine x_iload_n (pc := 77) K 4 dX8_shrunk_77 rfl rfl ?_
  refine x_iconst (pc := 78) (v := 2) K dX8_shrunk_78 (by decide) ?_
  refine x_iconst (pc := 79) (v := 4) K dX8_shrunk_79 (by decide) ?_
  refine x_calllV (pc := 80) (st := [_]) (n := 3) K (by decide) sh_76 rfl (c_X8_sum l G _ _ _ 2 4 (by omega) (by omega) n hn h12) gX8_shrunk_X8_sum (by decide +kernel) rfl (by decide) (by decide) rfl rfl (Nat.le_of_ble_eq_true rfl) dX8_shrunk_80 (fun r_80 I_80 J_80 hp_80 => ?_)
  obtain ⟨rfl, rfl, rfl⟩ := hp_80
  refine x_lload (pc := 83) K 1 dX8_shrunk_83 rfl ?_
  refine x_lmul (pc := 85) K dX8_shrunk_85 ?_
  refine x_aload_n (pc := 86) K 3 dX8_shrunk_86 rfl rfl ?_
  refine x_getl (pc := 87) (index := 108) (C := RX8) (T := TX8) (N := 36) (j0 := 24) (ref := "OldMapModel") K (by decide) sh_76 rfl i_X8 (by decide) (by decide +kernel) rfl rfl dX8_shrunk_87 ?_
  refine x_tople (MW2 I n b 24) (by simp [h_upL]) ?_
  refine x_aload_n (pc := 90) K 3 dX8_shrunk_90 rfl rfl ?_
  refine x_iload_n (pc := 91) K 4 dX8_shrunk_91 rfl rfl ?_
  refine x_iconst (pc := 92) (v := 0) K dX8_shrunk_92 (by decide) ?_
  refine x_iconst (pc := 93) (v := 4) K dX8_shrunk_93 (by decide) ?_
  refine x_calllV (pc := 94) (st := [_, _, _]) (n := 3) K (by decide) sh_76 rfl (c_X8_sum l G _ _ _ 0 4 (by omega) (by omega) n hn h12) gX8_shrunk_X8_sum (by decide +kernel) rfl (by decide) (by decide) rfl rfl (Nat.le_of_ble_eq_true rfl) dX8_shrunk_94 (fun r_94 I_94 J_94 hp_94 => ?_)
  obtain ⟨rfl, rfl, rfl⟩ := hp_94
  refine x_lmul (pc := 97) K dX8_shrunk_97 ?_
  refine x_lsub (pc := 98) K dX8_shrunk_98 ?_
  refine x_tople (MW2 I n b 18) (by rfl) ?_
  refine x_putl (ty := .long) (pc := 99) (index := 90) (C := RX8) (T := TX8) (N := 36) (j0 := 18) (ref := "OldMapModel") K (by decide) sh_76 rfl i_X8 (by decide) (by decide +kernel) rfl tyX8 tyX8_ok nmX8 rfl (by decide +kernel) rfl rfl rfl dX8_shrunk_99 ?_
  refine x_aload_n (pc := 102) K 3 dX8_shrunk_102 rfl rfl ?_
  refine x_lload_n (pc := 103) K 2 dX8_shrunk_103 rfl rfl ?_
  refine x_lload (pc := 104) K 1 dX8_shrunk_104 rfl ?_
  refine x_lmul (pc := 106) K dX8_shrunk_106 ?_
  refine x_tople (MW2 I n b 19) (by rfl) ?_
  refine x_putl (ty := .long) (pc := 107) (index := 93) (C := RX8) (T := TX8) (N := 36) (j0 := 19) (ref := "OldMapModel") K (by decide) sh_76 rfl i_X8 (by decide) (by decide +kernel) rfl tyX8 tyX8_ok nmX8 rfl (by decide +kernel) rfl rfl rfl dX8_shrunk_107 ?_
  refine x_aload_n (pc := 110) K 3 dX8_shrunk_110 rfl rfl ?_
  refine x_lconst (pc := 111) (v := 0) K dX8_shrunk_111 (by decide) ?_
  refine x_tople (MW2 I n b 20) (by rfl) ?_
  refine x_putl (ty := .long) (pc := 112) (index := 96) (C := RX8) (T := TX8) (N := 36) (j0 := 20) (ref := "OldMapModel") K (by decide) sh_76 rfl i_X8 (by decide) (by decide +kernel) rfl tyX8 tyX8_ok nmX8 rfl (by decide +kernel) rfl rfl rfl dX8_shrunk_112 ?_
  refine x_aload_n (pc := 115) K 3 dX8_shrunk_115 rfl rfl ?_
  refine x_lload_n (pc := 116) K 2 dX8_shrunk_116 rfl rfl ?_
  refine x_aload_n (pc := 117) K 3 dX8_shrunk_117 rfl rfl ?_
  refine x_getl (pc := 118) (index := 114) (C := RX8) (T := TX8) (N := 36) (j0 := 26) (ref := "OldMapModel") K (by decide) sh_76 rfl i_X8 (by decide) (by decide +kernel) rfl rfl dX8_shrunk_118 ?_
  refine x_tople (MW2 I n b 26) (by simp [h_upL]) ?_
  refine x_lmul (pc := 121) K dX8_shrunk_121 ?_
  refine x_tople (MW2 I n b 21) (by rfl) ?_
  refine x_putl (ty := .long) (pc := 122) (index := 99) (C := RX8) (T := TX8) (N := 36) (j0 := 21) (ref := "OldMapModel") K (by decide) sh_76 rfl i_X8 (by decide) (by decide +kernel) rfl tyX8 tyX8_ok nmX8 rfl (by decide +kernel) rfl rfl rfl dX8_shrunk_122 ?_
  refine x_aload_n (pc := 125) K 3 dX8_shrunk_125 rfl rfl ?_
  refine x_aload_n (pc := 126) K 3 dX8_shrunk_126 rfl rfl ?_
  refine x_iload_n (pc := 127) K 4 dX8_shrunk_127 rfl rfl ?_
  refine x_iconst (pc := 128) (v := 3) K dX8_shrunk_128 (by decide) ?_
  refine x_iconst (pc := 129) (v := 4) K dX8_shrunk_129 (by decide) ?_
  refine x_calllV (pc := 130) (st := [_]) (n := 3) K (by decide) sh_76 rfl (c_X8_sum l G _ _ _ 3 4 (by omega) (by omega) n hn h12) gX8_shrunk_X8_sum (by decide +kernel) rfl (by decide) (by decide) rfl rfl (Nat.le_of_ble_eq_true rfl) dX8_shrunk_130 (fun r_130 I_130 J_130 hp_130 => ?_)
  obtain ⟨rfl, rfl, rfl⟩ := hp_130
  refine x_lload (pc := 133) K 0 dX8_shrunk_133 rfl ?_
  refine x_lmul (pc := 135) K dX8_shrunk_135 ?_
  refine x_aload_n (pc := 136) K 3 dX8_shrunk_136 rfl rfl ?_
  refine x_getl (pc := 137) (index := 114) (C := RX8) (T := TX8) (N := 36) (j0 := 26) (ref := "OldMapModel") K (by decide) sh_76 rfl i_X8 (by decide) (by decide +kernel) rfl rfl dX8_shrunk_137 ?_
  refine x_tople (MW2 I n b 26) (by simp [h_upL]) ?_
  refine x_aload_n (pc := 140) K 3 dX8_shrunk_140 rfl rfl ?_
  refine x_iload_n (pc := 141) K 4 dX8_shrunk_141 rfl rfl ?_
  refine x_iconst (pc := 142) (v := 1) K dX8_shrunk_142 (by decide) ?_
  refine x_iconst (pc := 143) (v := 4) K dX8_shrunk_143 (by decide) ?_
  refine x_calllV (pc := 144) (st := [_, _, _]) (n := 3) K (by decide) sh_76 rfl (c_X8_sum l G _ _ _ 1 4 (by omega) (by omega) n hn h12) gX8_shrunk_X8_sum (by decide +kernel) rfl (by decide) (by decide) rfl rfl (Nat.le_of_ble_eq_true rfl) dX8_shrunk_144 (fun r_144 I_144 J_144 hp_144 => ?_)
  obtain ⟨rfl, rfl, rfl⟩ := hp_144
  refine x_lmul (pc := 147) K dX8_shrunk_147 ?_
  refine x_lsub (pc := 148) K dX8_shrunk_148 ?_
  refine x_tople (MW2 I n b 22) (by rfl) ?_
  refine x_putl (ty := .long) (pc := 149) (index := 102) (C := RX8) (T := TX8) (N := 36) (j0 := 22) (ref := "OldMapModel") K (by decide) sh_76 rfl i_X8 (by decide) (by decide +kernel) rfl tyX8 tyX8_ok nmX8 rfl (by decide +kernel) rfl rfl rfl dX8_shrunk_149 ?_
  refine x_aload_n (pc := 152) K 3 dX8_shrunk_152 rfl rfl ?_
  refine x_lload_n (pc := 153) K 2 dX8_shrunk_153 rfl rfl ?_
  refine x_lload (pc := 154) K 0 dX8_shrunk_154 rfl ?_
  refine x_lmul (pc := 156) K dX8_shrunk_156 ?_
  refine x_tople (MW2 I n b 23) (by rfl) ?_
  refine x_putl (ty := .long) (pc := 157) (index := 105) (C := RX8) (T := TX8) (N := 36) (j0 := 23) (ref := "OldMapModel") K (by decide) sh_76 rfl i_X8 (by decide) (by decide +kernel) rfl tyX8 tyX8_ok nmX8 rfl (by decide +kernel) rfl rfl rfl dX8_shrunk_157 ?_
  refine x_aload_n (pc := 160) K 3 dX8_shrunk_160 rfl rfl ?_
  refine x_aload_n (pc := 161) K 3 dX8_shrunk_161 rfl rfl ?_
  refine x_iload_n (pc := 162) K 4 dX8_shrunk_162 rfl rfl ?_
  refine x_iconst (pc := 163) (v := 2) K dX8_shrunk_163 (by decide) ?_
  refine x_iconst (pc := 164) (v := 2) K dX8_shrunk_164 (by decide) ?_
  refine x_calllV (pc := 165) (st := [_]) (n := 3) K (by decide) sh_76 rfl (c_X8_spread l G _ _ _ 2 2 (by omega) (by omega) n hn h12) gX8_shrunk_X8_spread (by decide +kernel) rfl (by decide) (by decide) rfl rfl (Nat.le_of_ble_eq_true rfl) dX8_shrunk_165 (fun r_165 I_165 J_165 hp_165 => ?_)
  obtain ⟨rfl, rfl, rfl⟩ := hp_165
  refine x_lload (pc := 168) K 1 dX8_shrunk_168 rfl ?_
  refine x_lmul (pc := 170) K dX8_shrunk_170 ?_
  refine x_aload_n (pc := 171) K 3 dX8_shrunk_171 rfl rfl ?_
  refine x_getl (pc := 172) (index := 108) (C := RX8) (T := TX8) (N := 36) (j0 := 24) (ref := "OldMapModel") K (by decide) sh_76 rfl i_X8 (by decide) (by decide +kernel) rfl rfl dX8_shrunk_172 ?_
  refine x_tople (MW2 I n b 24) (by simp [h_upL]) ?_
  refine x_aload_n (pc := 175) K 3 dX8_shrunk_175 rfl rfl ?_
  refine x_getl (pc := 176) (index := 108) (C := RX8) (T := TX8) (N := 36) (j0 := 24) (ref := "OldMapModel") K (by decide) sh_76 rfl i_X8 (by decide) (by decide +kernel) rfl rfl dX8_shrunk_176 ?_
  refine x_tople (MW2 I n b 24) (by simp [h_upL]) ?_
  refine x_lmul (pc := 179) K dX8_shrunk_179 ?_
  refine x_lsub (pc := 180) K dX8_shrunk_180 ?_
  refine x_tople (MW2 I n b 28) (by rfl) ?_
  refine x_putl (ty := .long) (pc := 181) (index := 125) (C := RX8) (T := TX8) (N := 36) (j0 := 28) (ref := "OldMapModel") K (by decide) sh_76 rfl i_X8 (by decide) (by decide +kernel) rfl tyX8 tyX8_ok nmX8 rfl (by decide +kernel) rfl rfl rfl dX8_shrunk_181 ?_
  refine x_aload_n (pc := 184) K 3 dX8_shrunk_184 rfl rfl ?_
  refine x_lload_n (pc := 185) K 2 dX8_shrunk_185 rfl rfl ?_
  refine x_lload (pc := 186) K 1 dX8_shrunk_186 rfl ?_
  refine x_lmul (pc := 188) K dX8_shrunk_188 ?_
  refine x_tople (MW2 I n b 29) (by rfl) ?_
  refine x_putl (ty := .long) (pc := 189) (index := 128) (C := RX8) (T := TX8) (N := 36) (j0 := 29) (ref := "OldMapModel") K (by decide) sh_76 rfl i_X8 (by decide) (by decide +kernel) rfl tyX8 tyX8_ok nmX8 rfl (by decide +kernel) rfl rfl rfl dX8_shrunk_189 ?_
  refine x_aload_n (pc := 192) K 3 dX8_shrunk_192 rfl rfl ?_
  refine x_aload_n (pc := 193) K 3 dX8_shrunk_193 rfl rfl ?_
  refine x_iload_n (pc := 194) K 4 dX8_shrunk_194 rfl rfl ?_
  refine x_iconst (pc := 195) (v := 3) K dX8_shrunk_195 (by decide) ?_
  refine x_iconst (pc := 196) (v := 3) K dX8_shrunk_196 (by decide) ?_
  refine x_calllV (pc := 197) (st := [_]) (n := 3) K (by decide) sh_76 rfl (c_X8_spread l G _ _ _ 3 3 (by omega) (by omega) n hn h12) gX8_shrunk_X8_spread (by decide +kernel) rfl (by decide) (by decide) rfl rfl (Nat.le_of_ble_eq_true rfl) dX8_shrunk_197 (fun r_197 I_197 J_197 hp_197 => ?_)
  obtain ⟨rfl, rfl, rfl⟩ := hp_197
  refine x_lload (pc := 200) K 0 dX8_shrunk_200 rfl ?_
  refine x_lmul (pc := 202) K dX8_shrunk_202 ?_
  refine x_aload_n (pc := 203) K 3 dX8_shrunk_203 rfl rfl ?_
  refine x_getl (pc := 204) (index := 114) (C := RX8) (T := TX8) (N := 36) (j0 := 26) (ref := "OldMapModel") K (by decide) sh_76 rfl i_X8 (by decide) (by decide +kernel) rfl rfl dX8_shrunk_204 ?_
  refine x_tople (MW2 I n b 26) (by simp [h_upL]) ?_
  refine x_aload_n (pc := 207) K 3 dX8_shrunk_207 rfl rfl ?_
  refine x_getl (pc := 208) (index := 114) (C := RX8) (T := TX8) (N := 36) (j0 := 26) (ref := "OldMapModel") K (by decide) sh_76 rfl i_X8 (by decide) (by decide +kernel) rfl rfl dX8_shrunk_208 ?_
  refine x_tople (MW2 I n b 26) (by simp [h_upL]) ?_
  refine x_lmul (pc := 211) K dX8_shrunk_211 ?_
  refine x_lsub (pc := 212) K dX8_shrunk_212 ?_
  refine x_tople (MW2 I n b 30) (by rfl) ?_
  refine x_putl (ty := .long) (pc := 213) (index := 131) (C := RX8) (T := TX8) (N := 36) (j0 := 30) (ref := "OldMapModel") K (by decide) sh_76 rfl i_X8 (by decide) (by decide +kernel) rfl tyX8 tyX8_ok nmX8 rfl (by decide +kernel) rfl rfl rfl dX8_shrunk_213 ?_
  refine x_aload_n (pc := 216) K 3 dX8_shrunk_216 rfl rfl ?_
  refine x_lload_n (pc := 217) K 2 dX8_shrunk_217 rfl rfl ?_
  refine x_lload (pc := 218) K 0 dX8_shrunk_218 rfl ?_
  refine x_lmul (pc := 220) K dX8_shrunk_220 ?_
  refine x_tople (MW2 I n b 31) (by rfl) ?_
  refine x_putl (ty := .long) (pc := 221) (index := 134) (C := RX8) (T := TX8) (N := 36) (j0 := 31) (ref := "OldMapModel") K (by decide) sh_76 rfl i_X8 (by decide) (by decide +kernel) rfl tyX8 tyX8_ok nmX8 rfl (by decide +kernel) rfl rfl rfl dX8_shrunk_221 ?_
  refine x_lload (pc := 224) K 1 dX8_shrunk_224 rfl ?_
  refine x_lconst (pc := 226) (v := 0) K dX8_shrunk_226 (by decide) ?_
  refine x_lcmp (pc := 227) K dX8_shrunk_227 ?_
  refine x_if_le (pc := 228) (tgt := 242) K dX8_shrunk_228 (by decide) (fun c_228 => ?_) (fun c_228 => ?_)
  · replace c_228 := (lg_cmp_le _ _).mp c_228
    refine x_iconst (pc := 242) (v := 0) K dX8_shrunk_242 (by decide) ?_
    exact ret (pc := 243) dX8_shrunk_243 (⟨bz_0.mpr (fun h => h.1 c_228), rfl, rfl⟩) rfl
  · replace c_228 := mt (lg_cmp_le _ _).mpr c_228
    refine x_lload (pc := 231) K 0 dX8_shrunk_231 rfl ?_
    refine x_lconst (pc := 233) (v := 0) K dX8_shrunk_233 (by decide) ?_
    refine x_lcmp (pc := 234) K dX8_shrunk_234 ?_
    refine x_if_le (pc := 235) (tgt := 242) K dX8_shrunk_235 (by decide) (fun c_235 => ?_) (fun c_235 => ?_)
    · replace c_235 := (lg_cmp_le _ _).mp c_235
      refine x_iconst (pc := 242) (v := 0) K dX8_shrunk_242 (by decide) ?_
      exact ret (pc := 243) dX8_shrunk_243 (⟨bz_0.mpr (fun h => h.2 c_235), rfl, rfl⟩) rfl
    · replace c_235 := mt (lg_cmp_le _ _).mpr c_235
      refine x_iconst (pc := 238) (v := 1) K dX8_shrunk_238 (by decide) ?_
      refine x_goto (pc := 239) (tgt := 243) K dX8_shrunk_239 (by decide) ?_
      exact ret (pc := 243) dX8_shrunk_243 (⟨bz_1.mpr ⟨c_228, c_235⟩, rfl, rfl⟩) rfl

set_option maxHeartbeats 1000000 in
set_option maxRecDepth 100000 in
theorem c_X8_manyOf (l : Launch) (G : hQ) (I : hI) (J : hJ) (b : Int32) : h_Mi l yX8_manyOf wsX8_manyOf 0 0 G [.int b] I J (fun ρ I' J' => mof b = ρ ∧ I = I' ∧ J = J') := by
  refine h_Mi.of (ty := .int) (cc := cX8_manyOf) (maxL := 3) [(0, .int b)] (by decide +kernel) rfl (Nat.le_of_ble_eq_true rfl) rfl ?_
  intro Γ K ret
  have loop : ∀ k, k ≤ 12 → h_WW Γ G 4 [(2, .int (nI k)), (1, .int (sumI (fun k => b >>> (nI k &&& 31) &&& 1) k)), (0, .int b)] [] I J := by
    refine loopU 12 (fun k hk ih => ?_)
    refine x_iload_n (pc := 4) K 0 dX8_manyOf_4 rfl rfl ?_
    refine x_bipush (pc := 5) (v := 12) K dX8_manyOf_5 (by decide) ?_
    refine x_icmp_ge (pc := 7) (tgt := 24) K dX8_manyOf_7 (by decide) (fun c_7 => ?_) (fun c_7 => ?_)
    · replace c_7 := cI_le (a := 12) (b := k) rfl rfl (by omega) (by omega) c_7
      refine x_iload_n (pc := 24) K 1 dX8_manyOf_24 rfl rfl ?_
      exact ret (pc := 25) dX8_manyOf_25 (⟨by rw [show k = 12 by omega]; rfl, rfl, rfl⟩) rfl
    · replace c_7 := cI_nle (a := 12) (b := k) rfl rfl (by omega) (by omega) c_7
      refine x_iload_n (pc := 10) K 1 dX8_manyOf_10 rfl rfl ?_
      refine x_iload_n (pc := 11) K 2 dX8_manyOf_11 rfl rfl ?_
      refine x_iload_n (pc := 12) K 0 dX8_manyOf_12 rfl rfl ?_
      refine x_ishr (pc := 13) K dX8_manyOf_13 ?_
      refine x_iconst (pc := 14) (v := 1) K dX8_manyOf_14 (by decide) ?_
      refine x_iand (pc := 15) K dX8_manyOf_15 ?_
      refine x_iadd (pc := 16) K dX8_manyOf_16 ?_
      refine x_istore_n (pc := 17) (lo' := [(1, _), (2, _), (0, _)]) K dX8_manyOf_17 rfl (by decide) rfl ?_
      refine x_iinc (pc := 18) (q0 := 1) (v := nI (k + 1)) (lo' := [(2, _), (1, _), (0, _)]) K dX8_manyOf_18 rfl (nI_incE rfl) (by decide) rfl ?_
      refine x_goto (pc := 21) (tgt := 4) K dX8_manyOf_21 (by decide) ?_
      refine x_lo (lo' := [(2, _), (1, _), (0, _)]) [0, 1, 2] rfl ?_
      exact x_loe (by simp only [sumI]) (ih (by omega))
  refine x_iconst (pc := 0) (v := 0) K dX8_manyOf_0 (by decide) ?_
  refine x_istore_n (pc := 1) (lo' := [(1, _), (0, _)]) K dX8_manyOf_1 rfl (by decide) rfl ?_
  refine x_iconst (pc := 2) (v := 0) K dX8_manyOf_2 (by decide) ?_
  refine x_istore_n (pc := 3) (lo' := [(2, _), (1, _), (0, _)]) K dX8_manyOf_3 rfl (by decide) rfl ?_
  refine x_lo (lo' := [(2, _), (1, _), (0, _)]) [0, 1, 2] rfl ?_
  exact x_loe (by rfl) (loop 0 (Nat.zero_le _))

