/-! leaves: the JDK's statics and OldMap's own -/
def ushr (x y : Int32) : Int32 := (x.toUInt32 >>> (y.toUInt32 &&& Int32.toUInt32 31)).toInt32
def popA (x : Int32) : Int32 := x - (ushr x 1 &&& 1431655765)
def popB (x : Int32) : Int32 := (x &&& 858993459) + (ushr x 2 &&& 858993459)
def popC (x : Int32) : Int32 := (x + ushr x 4) &&& 252645135
def popD (x : Int32) : Int32 := x + ushr x 8
def popE (x : Int32) : Int32 := x + ushr x 16
def pop (x : Int32) : Int32 := popE (popD (popC (popB (popA x)))) &&& 63
def fdiv (a b : Int64) : Int64 := if 0 ≤ a ^^^ b then a / b else if a / b * b = a then a / b else a / b - 1
abbrev Pl (x y : Int32) : Prop := -1000 ≤ x ∧ x ≤ 1000 ∧ -1000 ≤ y ∧ y ≤ 1000
abbrev isMp (m : Int32) : Prop := 0 ≤ m ∧ m < 2
abbrev isKd (m : Int32) : Prop := 0 ≤ m ∧ m ≤ 2
abbrev isPt (m : Int32) : Prop := 0 ≤ m ∧ m ≤ 3
def wbit (bits bit on : Int32) : Int32 := if on = 0 then bits &&& ((1 <<< (bit &&& 31)) ^^^ -1) else bits ||| (1 <<< (bit &&& 31))
def nxtA (s : Int32) : Int32 := s + (s &&& -s)
def nxt (s : Int32) : Int32 := nxtA s ||| ((1 <<< ((pop (s &&& (nxtA s ^^^ -1)) - 1) &&& 31)) - 1)
def nxS (s : Int32) : Int32 := if s = ((1 <<< (pop s &&& 31)) - 1) <<< ((12 - pop s) &&& 31) then (1 <<< ((pop s + 1) &&& 31)) - 1 else nxt s
set_option maxHeartbeats 1000000 in
set_option maxRecDepth 100000 in
theorem c_J6_bitCount_0f7a4 (l : Launch) (G : hQ) (I : hI) (J : hJ) (x : Int32) : h_Mi l yJ6_bitCount_0f7a4 wsJ6_bitCount_0f7a4 0 0 G [.int x] I J (fun ρ I' J' => pop x = ρ ∧ I = I' ∧ J = J') := by
  refine h_Mi.of (ty := .int) (cc := cJ6_bitCount_0f7a4) (maxL := 1) [(0, .int x)] (by decide +kernel) rfl (Nat.le_of_ble_eq_true rfl) rfl ?_
  intro Γ K ret
  refine x_iload_n (pc := 0) K 0 dJ6_bitCount_0f7a4_0 rfl rfl ?_
  refine x_iload_n (pc := 1) K 0 dJ6_bitCount_0f7a4_1 rfl rfl ?_
  refine x_iconst (pc := 2) (v := 1) K dJ6_bitCount_0f7a4_2 (by decide) ?_
  refine x_iushr (pc := 3) K dJ6_bitCount_0f7a4_3 rfl ?_
  refine x_ldc_w (pc := 4) (v := (1431655765)) K (by decide +kernel) dJ6_bitCount_0f7a4_4 ?_
  refine x_iand (pc := 7) K dJ6_bitCount_0f7a4_7 ?_
  refine x_isub (pc := 8) K dJ6_bitCount_0f7a4_8 ?_
  refine x_istore_n (pc := 9) (lo' := [(0, _)]) K dJ6_bitCount_0f7a4_9 rfl (by decide) rfl ?_
  refine x_iload_n (pc := 10) K 0 dJ6_bitCount_0f7a4_10 rfl rfl ?_
  refine x_ldc_w (pc := 11) (v := (858993459)) K (by decide +kernel) dJ6_bitCount_0f7a4_11 ?_
  refine x_iand (pc := 14) K dJ6_bitCount_0f7a4_14 ?_
  refine x_iload_n (pc := 15) K 0 dJ6_bitCount_0f7a4_15 rfl rfl ?_
  refine x_iconst (pc := 16) (v := 2) K dJ6_bitCount_0f7a4_16 (by decide) ?_
  refine x_iushr (pc := 17) K dJ6_bitCount_0f7a4_17 rfl ?_
  refine x_ldc_w (pc := 18) (v := (858993459)) K (by decide +kernel) dJ6_bitCount_0f7a4_18 ?_
  refine x_iand (pc := 21) K dJ6_bitCount_0f7a4_21 ?_
  refine x_iadd (pc := 22) K dJ6_bitCount_0f7a4_22 ?_
  refine x_istore_n (pc := 23) (lo' := [(0, _)]) K dJ6_bitCount_0f7a4_23 rfl (by decide) rfl ?_
  refine x_iload_n (pc := 24) K 0 dJ6_bitCount_0f7a4_24 rfl rfl ?_
  refine x_iload_n (pc := 25) K 0 dJ6_bitCount_0f7a4_25 rfl rfl ?_
  refine x_iconst (pc := 26) (v := 4) K dJ6_bitCount_0f7a4_26 (by decide) ?_
  refine x_iushr (pc := 27) K dJ6_bitCount_0f7a4_27 rfl ?_
  refine x_iadd (pc := 28) K dJ6_bitCount_0f7a4_28 ?_
  refine x_ldc_w (pc := 29) (v := (252645135)) K (by decide +kernel) dJ6_bitCount_0f7a4_29 ?_
  refine x_iand (pc := 32) K dJ6_bitCount_0f7a4_32 ?_
  refine x_istore_n (pc := 33) (lo' := [(0, _)]) K dJ6_bitCount_0f7a4_33 rfl (by decide) rfl ?_
  refine x_iload_n (pc := 34) K 0 dJ6_bitCount_0f7a4_34 rfl rfl ?_
  refine x_iload_n (pc := 35) K 0 dJ6_bitCount_0f7a4_35 rfl rfl ?_
  refine x_bipush (pc := 36) (v := 8) K dJ6_bitCount_0f7a4_36 (by decide) ?_
  refine x_iushr (pc := 38) K dJ6_bitCount_0f7a4_38 rfl ?_
  refine x_iadd (pc := 39) K dJ6_bitCount_0f7a4_39 ?_
  refine x_istore_n (pc := 40) (lo' := [(0, _)]) K dJ6_bitCount_0f7a4_40 rfl (by decide) rfl ?_
  refine x_iload_n (pc := 41) K 0 dJ6_bitCount_0f7a4_41 rfl rfl ?_
  refine x_iload_n (pc := 42) K 0 dJ6_bitCount_0f7a4_42 rfl rfl ?_
  refine x_bipush (pc := 43) (v := 16) K dJ6_bitCount_0f7a4_43 (by decide) ?_
  refine x_iushr (pc := 45) K dJ6_bitCount_0f7a4_45 rfl ?_
  refine x_iadd (pc := 46) K dJ6_bitCount_0f7a4_46 ?_
  refine x_istore_n (pc := 47) (lo' := [(0, _)]) K dJ6_bitCount_0f7a4_47 rfl (by decide) rfl ?_
  refine x_iload_n (pc := 48) K 0 dJ6_bitCount_0f7a4_48 rfl rfl ?_
  refine x_bipush (pc := 49) (v := 63) K dJ6_bitCount_0f7a4_49 (by decide) ?_
  refine x_iand (pc := 51) K dJ6_bitCount_0f7a4_51 ?_
  exact ret (pc := 52) dJ6_bitCount_0f7a4_52 (⟨rfl, rfl, rfl⟩) rfl

set_option maxHeartbeats 1000000 in
set_option maxRecDepth 100000 in
theorem c_J9_floorDiv_f86c9 (l : Launch) (G : hQ) (I : hI) (J : hJ) (a b : Int64) (hb : ¬ b = 0) : h_Ml l yJ9_floorDiv_f86c9 wsJ9_floorDiv_f86c9 0 0 G [.long a, .long b] I J (fun ρ I' J' => fdiv a b = ρ ∧ I = I' ∧ J = J') := by
  refine h_Ml.of (cc := cJ9_floorDiv_f86c9) (maxL := 6) [(0, .long a), (2, .long b)] (by decide +kernel) rfl (Nat.le_of_ble_eq_true rfl) rfl ?_
  intro Γ K ret
  refine x_lload_n (pc := 0) K 0 dJ9_floorDiv_f86c9_0 rfl rfl ?_
  refine x_lload_n (pc := 1) K 1 dJ9_floorDiv_f86c9_1 rfl rfl ?_
  refine x_ldiv (pc := 2) K dJ9_floorDiv_f86c9_2 hb ?_
  refine x_lstore (pc := 3) (lo' := [(4, _), (0, _), (2, _)]) K dJ9_floorDiv_f86c9_3 (by decide) rfl ?_
  refine x_lload_n (pc := 5) K 1 dJ9_floorDiv_f86c9_5 rfl rfl ?_
  refine x_lload_n (pc := 6) K 2 dJ9_floorDiv_f86c9_6 rfl rfl ?_
  refine x_lxor (pc := 7) K dJ9_floorDiv_f86c9_7 ?_
  refine x_lconst (pc := 8) (v := 0) K dJ9_floorDiv_f86c9_8 (by decide) ?_
  refine x_lcmp (pc := 9) K dJ9_floorDiv_f86c9_9 ?_
  refine x_if_ge (pc := 10) (tgt := 27) K dJ9_floorDiv_f86c9_10 (by decide) (fun c_10 => ?_) (fun c_10 => ?_)
  · replace c_10 := (lg_cmp_ge _ _).mp c_10
    refine x_lload (pc := 27) K 0 dJ9_floorDiv_f86c9_27 rfl ?_
    exact ret (pc := 29) dJ9_floorDiv_f86c9_29 (⟨by simp [fdiv, *], rfl, rfl⟩)
  · replace c_10 := mt (lg_cmp_ge _ _).mpr c_10
    refine x_lload (pc := 13) K 0 dJ9_floorDiv_f86c9_13 rfl ?_
    refine x_lload_n (pc := 15) K 2 dJ9_floorDiv_f86c9_15 rfl rfl ?_
    refine x_lmul (pc := 16) K dJ9_floorDiv_f86c9_16 ?_
    refine x_lload_n (pc := 17) K 1 dJ9_floorDiv_f86c9_17 rfl rfl ?_
    refine x_lcmp (pc := 18) K dJ9_floorDiv_f86c9_18 ?_
    refine x_if_eq (pc := 19) (tgt := 27) K dJ9_floorDiv_f86c9_19 (by decide) (fun c_19 => ?_) (fun c_19 => ?_)
    · replace c_19 := (lg_cmp_eq _ _).mp c_19
      refine x_lload (pc := 27) K 0 dJ9_floorDiv_f86c9_27 rfl ?_
      exact ret (pc := 29) dJ9_floorDiv_f86c9_29 (⟨by simp [fdiv, *], rfl, rfl⟩)
    · replace c_19 := mt (lg_cmp_eq _ _).mpr c_19
      refine x_lload (pc := 22) K 0 dJ9_floorDiv_f86c9_22 rfl ?_
      refine x_lconst (pc := 24) (v := 1) K dJ9_floorDiv_f86c9_24 (by decide) ?_
      refine x_lsub (pc := 25) K dJ9_floorDiv_f86c9_25 ?_
      exact ret (pc := 26) dJ9_floorDiv_f86c9_26 (⟨by simp [fdiv, *], rfl, rfl⟩)

set_option maxHeartbeats 1000000 in
set_option maxRecDepth 100000 in
theorem c_X7_isPlace (l : Launch) (G : hQ) (I : hI) (J : hJ) (x y : Int32) : h_Mi l yX7_isPlace wsX7_isPlace 0 0 G [.int x, .int y] I J (fun ρ I' J' => bz (Pl x y) = ρ ∧ I = I' ∧ J = J') := by
  refine h_Mi.of (ty := .boolean) (cc := cX7_isPlace) (maxL := 2) [(0, .int x), (1, .int y)] (by decide +kernel) rfl (Nat.le_of_ble_eq_true rfl) rfl ?_
  intro Γ K ret
  refine x_iload_n (pc := 0) K 0 dX7_isPlace_0 rfl rfl ?_
  refine x_sipush (pc := 1) (v := -1000) K dX7_isPlace_1 (by decide) ?_
  refine x_icmp_lt (pc := 4) (tgt := 32) K dX7_isPlace_4 (by decide) (fun c_4 => ?_) (fun c_4 => ?_)
  · refine x_iconst (pc := 32) (v := 0) K dX7_isPlace_32 (by decide) ?_
    exact ret (pc := 33) dX7_isPlace_33 (⟨by first | exact bz_1.mpr (by grind) | exact bz_0.mpr (by grind), rfl, rfl⟩) rfl
  · refine x_iload_n (pc := 7) K 0 dX7_isPlace_7 rfl rfl ?_
    refine x_sipush (pc := 8) (v := 1000) K dX7_isPlace_8 (by decide) ?_
    refine x_icmp_gt (pc := 11) (tgt := 32) K dX7_isPlace_11 (by decide) (fun c_11 => ?_) (fun c_11 => ?_)
    · refine x_iconst (pc := 32) (v := 0) K dX7_isPlace_32 (by decide) ?_
      exact ret (pc := 33) dX7_isPlace_33 (⟨by first | exact bz_1.mpr (by grind) | exact bz_0.mpr (by grind), rfl, rfl⟩) rfl
    · refine x_iload_n (pc := 14) K 1 dX7_isPlace_14 rfl rfl ?_
      refine x_sipush (pc := 15) (v := -1000) K dX7_isPlace_15 (by decide) ?_
      refine x_icmp_lt (pc := 18) (tgt := 32) K dX7_isPlace_18 (by decide) (fun c_18 => ?_) (fun c_18 => ?_)
      · refine x_iconst (pc := 32) (v := 0) K dX7_isPlace_32 (by decide) ?_
        exact ret (pc := 33) dX7_isPlace_33 (⟨by first | exact bz_1.mpr (by grind) | exact bz_0.mpr (by grind), rfl, rfl⟩) rfl
      · refine x_iload_n (pc := 21) K 1 dX7_isPlace_21 rfl rfl ?_
        refine x_sipush (pc := 22) (v := 1000) K dX7_isPlace_22 (by decide) ?_
        refine x_icmp_gt (pc := 25) (tgt := 32) K dX7_isPlace_25 (by decide) (fun c_25 => ?_) (fun c_25 => ?_)
        · refine x_iconst (pc := 32) (v := 0) K dX7_isPlace_32 (by decide) ?_
          exact ret (pc := 33) dX7_isPlace_33 (⟨by first | exact bz_1.mpr (by grind) | exact bz_0.mpr (by grind), rfl, rfl⟩) rfl
        · refine x_iconst (pc := 28) (v := 1) K dX7_isPlace_28 (by decide) ?_
          refine x_goto (pc := 29) (tgt := 33) K dX7_isPlace_29 (by decide) ?_
          exact ret (pc := 33) dX7_isPlace_33 (⟨by first | exact bz_1.mpr (by grind) | exact bz_0.mpr (by grind), rfl, rfl⟩) rfl

set_option maxHeartbeats 1000000 in
set_option maxRecDepth 100000 in
theorem c_X7_isMap (l : Launch) (G : hQ) (I : hI) (J : hJ) (x : Int32) : h_Mi l yX7_isMap wsX7_isMap 0 0 G [.int x] I J (fun ρ I' J' => bz (isMp x) = ρ ∧ I = I' ∧ J = J') := by
  refine h_Mi.of (ty := .boolean) (cc := cX7_isMap) (maxL := 1) [(0, .int x)] (by decide +kernel) rfl (Nat.le_of_ble_eq_true rfl) rfl ?_
  intro Γ K ret
  refine x_iload_n (pc := 0) K 0 dX7_isMap_0 rfl rfl ?_
  refine x_if_lt (pc := 1) (tgt := 13) K dX7_isMap_1 (by decide) (fun c_1 => ?_) (fun c_1 => ?_)
  · refine x_iconst (pc := 13) (v := 0) K dX7_isMap_13 (by decide) ?_
    exact ret (pc := 14) dX7_isMap_14 (⟨by first | exact bz_1.mpr (by grind) | exact bz_0.mpr (by grind), rfl, rfl⟩) rfl
  · refine x_iload_n (pc := 4) K 0 dX7_isMap_4 rfl rfl ?_
    refine x_iconst (pc := 5) (v := 2) K dX7_isMap_5 (by decide) ?_
    refine x_icmp_ge (pc := 6) (tgt := 13) K dX7_isMap_6 (by decide) (fun c_6 => ?_) (fun c_6 => ?_)
    · refine x_iconst (pc := 13) (v := 0) K dX7_isMap_13 (by decide) ?_
      exact ret (pc := 14) dX7_isMap_14 (⟨by first | exact bz_1.mpr (by grind) | exact bz_0.mpr (by grind), rfl, rfl⟩) rfl
    · refine x_iconst (pc := 9) (v := 1) K dX7_isMap_9 (by decide) ?_
      refine x_goto (pc := 10) (tgt := 14) K dX7_isMap_10 (by decide) ?_
      exact ret (pc := 14) dX7_isMap_14 (⟨by first | exact bz_1.mpr (by grind) | exact bz_0.mpr (by grind), rfl, rfl⟩) rfl

set_option maxHeartbeats 1000000 in
set_option maxRecDepth 100000 in
theorem c_X7_isKind (l : Launch) (G : hQ) (I : hI) (J : hJ) (x : Int32) : h_Mi l yX7_isKind wsX7_isKind 0 0 G [.int x] I J (fun ρ I' J' => bz (isKd x) = ρ ∧ I = I' ∧ J = J') := by
  refine h_Mi.of (ty := .boolean) (cc := cX7_isKind) (maxL := 1) [(0, .int x)] (by decide +kernel) rfl (Nat.le_of_ble_eq_true rfl) rfl ?_
  intro Γ K ret
  refine x_iload_n (pc := 0) K 0 dX7_isKind_0 rfl rfl ?_
  refine x_if_lt (pc := 1) (tgt := 13) K dX7_isKind_1 (by decide) (fun c_1 => ?_) (fun c_1 => ?_)
  · refine x_iconst (pc := 13) (v := 0) K dX7_isKind_13 (by decide) ?_
    exact ret (pc := 14) dX7_isKind_14 (⟨by first | exact bz_1.mpr (by grind) | exact bz_0.mpr (by grind), rfl, rfl⟩) rfl
  · refine x_iload_n (pc := 4) K 0 dX7_isKind_4 rfl rfl ?_
    refine x_iconst (pc := 5) (v := 2) K dX7_isKind_5 (by decide) ?_
    refine x_icmp_gt (pc := 6) (tgt := 13) K dX7_isKind_6 (by decide) (fun c_6 => ?_) (fun c_6 => ?_)
    · refine x_iconst (pc := 13) (v := 0) K dX7_isKind_13 (by decide) ?_
      exact ret (pc := 14) dX7_isKind_14 (⟨by first | exact bz_1.mpr (by grind) | exact bz_0.mpr (by grind), rfl, rfl⟩) rfl
    · refine x_iconst (pc := 9) (v := 1) K dX7_isKind_9 (by decide) ?_
      refine x_goto (pc := 10) (tgt := 14) K dX7_isKind_10 (by decide) ?_
      exact ret (pc := 14) dX7_isKind_14 (⟨by first | exact bz_1.mpr (by grind) | exact bz_0.mpr (by grind), rfl, rfl⟩) rfl

set_option maxHeartbeats 1000000 in
set_option maxRecDepth 100000 in
theorem c_X7_isPartOfTwo (l : Launch) (G : hQ) (I : hI) (J : hJ) (x : Int32) : h_Mi l yX7_isPartOfTwo wsX7_isPartOfTwo 0 0 G [.int x] I J (fun ρ I' J' => bz (isPt x) = ρ ∧ I = I' ∧ J = J') := by
  refine h_Mi.of (ty := .boolean) (cc := cX7_isPartOfTwo) (maxL := 1) [(0, .int x)] (by decide +kernel) rfl (Nat.le_of_ble_eq_true rfl) rfl ?_
  intro Γ K ret
  refine x_iload_n (pc := 0) K 0 dX7_isPartOfTwo_0 rfl rfl ?_
  refine x_if_lt (pc := 1) (tgt := 13) K dX7_isPartOfTwo_1 (by decide) (fun c_1 => ?_) (fun c_1 => ?_)
  · refine x_iconst (pc := 13) (v := 0) K dX7_isPartOfTwo_13 (by decide) ?_
    exact ret (pc := 14) dX7_isPartOfTwo_14 (⟨by first | exact bz_1.mpr (by grind) | exact bz_0.mpr (by grind), rfl, rfl⟩) rfl
  · refine x_iload_n (pc := 4) K 0 dX7_isPartOfTwo_4 rfl rfl ?_
    refine x_iconst (pc := 5) (v := 3) K dX7_isPartOfTwo_5 (by decide) ?_
    refine x_icmp_gt (pc := 6) (tgt := 13) K dX7_isPartOfTwo_6 (by decide) (fun c_6 => ?_) (fun c_6 => ?_)
    · refine x_iconst (pc := 13) (v := 0) K dX7_isPartOfTwo_13 (by decide) ?_
      exact ret (pc := 14) dX7_isPartOfTwo_14 (⟨by first | exact bz_1.mpr (by grind) | exact bz_0.mpr (by grind), rfl, rfl⟩) rfl
    · refine x_iconst (pc := 9) (v := 1) K dX7_isPartOfTwo_9 (by decide) ?_
      refine x_goto (pc := 10) (tgt := 14) K dX7_isPartOfTwo_10 (by decide) ?_
      exact ret (pc := 14) dX7_isPartOfTwo_14 (⟨by first | exact bz_1.mpr (by grind) | exact bz_0.mpr (by grind), rfl, rfl⟩) rfl

set_option maxHeartbeats 1000000 in
set_option maxRecDepth 100000 in
theorem c_X7_withBit (l : Launch) (G : hQ) (I : hI) (J : hJ) (x y z : Int32) : h_Mi l yX7_withBit wsX7_withBit 0 0 G [.int x, .int y, .int z] I J (fun ρ I' J' => wbit x y z = ρ ∧ I = I' ∧ J = J') := by
  refine h_Mi.of (ty := .int) (cc := cX7_withBit) (maxL := 3) [(0, .int x), (1, .int y), (2, .int z)] (by decide +kernel) rfl (Nat.le_of_ble_eq_true rfl) rfl ?_
  intro Γ K ret
  refine x_iload_n (pc := 0) K 2 dX7_withBit_0 rfl rfl ?_
  refine x_if_eq (pc := 1) (tgt := 12) K dX7_withBit_1 (by decide) (fun c_1 => ?_) (fun c_1 => ?_)
  · refine x_iload_n (pc := 12) K 0 dX7_withBit_12 rfl rfl ?_
    refine x_iconst (pc := 13) (v := 1) K dX7_withBit_13 (by decide) ?_
    refine x_iload_n (pc := 14) K 1 dX7_withBit_14 rfl rfl ?_
    refine x_ishl (pc := 15) K dX7_withBit_15 ?_
    refine x_iconst (pc := 16) (v := -1) K dX7_withBit_16 (by decide) ?_
    refine x_ixor (pc := 17) K dX7_withBit_17 ?_
    refine x_iand (pc := 18) K dX7_withBit_18 ?_
    exact ret (pc := 19) dX7_withBit_19 (⟨by simp [wbit, *], rfl, rfl⟩) rfl
  · refine x_iload_n (pc := 4) K 0 dX7_withBit_4 rfl rfl ?_
    refine x_iconst (pc := 5) (v := 1) K dX7_withBit_5 (by decide) ?_
    refine x_iload_n (pc := 6) K 1 dX7_withBit_6 rfl rfl ?_
    refine x_ishl (pc := 7) K dX7_withBit_7 ?_
    refine x_ior (pc := 8) K dX7_withBit_8 ?_
    refine x_goto (pc := 9) (tgt := 19) K dX7_withBit_9 (by decide) ?_
    exact ret (pc := 19) dX7_withBit_19 (⟨by simp [wbit, *], rfl, rfl⟩) rfl

set_option maxHeartbeats 1000000 in
set_option maxRecDepth 100000 in
theorem c_X7_nextOfSameSize (l : Launch) (G : hQ) (I : hI) (J : hJ) (x : Int32) : h_Mi l yX7_nextOfSameSize wsX7_nextOfSameSize 1 20 G [.int x] I J (fun ρ I' J' => nxt x = ρ ∧ I = I' ∧ J = J') := by
  refine h_Mi.of (ty := .int) (cc := cX7_nextOfSameSize) (maxL := 4) [(0, .int x)] (by decide +kernel) rfl (Nat.le_of_ble_eq_true rfl) rfl ?_
  intro Γ K ret
  refine x_iload_n (pc := 0) K 0 dX7_nextOfSameSize_0 rfl rfl ?_
  refine x_iload_n (pc := 1) K 0 dX7_nextOfSameSize_1 rfl rfl ?_
  refine x_ineg (pc := 2) K dX7_nextOfSameSize_2 ?_
  refine x_iand (pc := 3) K dX7_nextOfSameSize_3 ?_
  refine x_istore_n (pc := 4) (lo' := [(1, _), (0, _)]) K dX7_nextOfSameSize_4 rfl (by decide) rfl ?_
  refine x_iload_n (pc := 5) K 1 dX7_nextOfSameSize_5 rfl rfl ?_
  refine x_iload_n (pc := 6) K 0 dX7_nextOfSameSize_6 rfl rfl ?_
  refine x_iadd (pc := 7) K dX7_nextOfSameSize_7 ?_
  refine x_istore_n (pc := 8) (lo' := [(2, _), (1, _), (0, _)]) K dX7_nextOfSameSize_8 rfl (by decide) rfl ?_
  refine x_iload_n (pc := 9) K 2 dX7_nextOfSameSize_9 rfl rfl ?_
  refine x_iload_n (pc := 10) K 0 dX7_nextOfSameSize_10 rfl rfl ?_
  refine x_iconst (pc := 11) (v := -1) K dX7_nextOfSameSize_11 (by decide) ?_
  refine x_ixor (pc := 12) K dX7_nextOfSameSize_12 ?_
  refine x_iand (pc := 13) K dX7_nextOfSameSize_13 ?_
  refine x_calliS (pc := 14) (st := []) (n := 1) K (c_J6_bitCount_0f7a4 l G _ _ _) gX7_nextOfSameSize_J6_bitCount_0f7a4 (by decide +kernel) rfl (by decide) (by decide) rfl rfl (Nat.le_of_ble_eq_true rfl) dX7_nextOfSameSize_14 (fun r_14 I_14 J_14 hp_14 => ?_)
  obtain ⟨rfl, rfl, rfl⟩ := hp_14
  refine x_iconst (pc := 17) (v := 1) K dX7_nextOfSameSize_17 (by decide) ?_
  refine x_isub (pc := 18) K dX7_nextOfSameSize_18 ?_
  refine x_istore_n (pc := 19) (lo' := [(3, _), (2, _), (1, _), (0, _)]) K dX7_nextOfSameSize_19 rfl (by decide) rfl ?_
  refine x_iload_n (pc := 20) K 1 dX7_nextOfSameSize_20 rfl rfl ?_
  refine x_iconst (pc := 21) (v := 1) K dX7_nextOfSameSize_21 (by decide) ?_
  refine x_iload_n (pc := 22) K 0 dX7_nextOfSameSize_22 rfl rfl ?_
  refine x_ishl (pc := 23) K dX7_nextOfSameSize_23 ?_
  refine x_iconst (pc := 24) (v := 1) K dX7_nextOfSameSize_24 (by decide) ?_
  refine x_isub (pc := 25) K dX7_nextOfSameSize_25 ?_
  refine x_ior (pc := 26) K dX7_nextOfSameSize_26 ?_
  exact ret (pc := 27) dX7_nextOfSameSize_27 (⟨rfl, rfl, rfl⟩) rfl

set_option maxHeartbeats 1000000 in
set_option maxRecDepth 100000 in
theorem c_X7_nextSet (l : Launch) (G : hQ) (I : hI) (J : hJ) (x : Int32) : h_Mi l yX7_nextSet wsX7_nextSet 2 43 G [.int x] I J (fun ρ I' J' => nxS x = ρ ∧ I = I' ∧ J = J') := by
  refine h_Mi.of (ty := .int) (cc := cX7_nextSet) (maxL := 3) [(0, .int x)] (by decide +kernel) rfl (Nat.le_of_ble_eq_true rfl) rfl ?_
  intro Γ K ret
  refine x_iload_n (pc := 0) K 0 dX7_nextSet_0 rfl rfl ?_
  refine x_calliS (pc := 1) (st := []) (n := 1) K (c_J6_bitCount_0f7a4 l G _ _ _) gX7_nextSet_J6_bitCount_0f7a4 (by decide +kernel) rfl (by decide) (by decide) rfl rfl (Nat.le_of_ble_eq_true rfl) dX7_nextSet_1 (fun r_1 I_1 J_1 hp_1 => ?_)
  obtain ⟨rfl, rfl, rfl⟩ := hp_1
  refine x_istore_n (pc := 4) (lo' := [(1, _), (0, _)]) K dX7_nextSet_4 rfl (by decide) rfl ?_
  refine x_iconst (pc := 5) (v := 1) K dX7_nextSet_5 (by decide) ?_
  refine x_iload_n (pc := 6) K 0 dX7_nextSet_6 rfl rfl ?_
  refine x_ishl (pc := 7) K dX7_nextSet_7 ?_
  refine x_iconst (pc := 8) (v := 1) K dX7_nextSet_8 (by decide) ?_
  refine x_isub (pc := 9) K dX7_nextSet_9 ?_
  refine x_bipush (pc := 10) (v := 12) K dX7_nextSet_10 (by decide) ?_
  refine x_iload_n (pc := 12) K 0 dX7_nextSet_12 rfl rfl ?_
  refine x_isub (pc := 13) K dX7_nextSet_13 ?_
  refine x_ishl (pc := 14) K dX7_nextSet_14 ?_
  refine x_istore_n (pc := 15) (lo' := [(2, _), (1, _), (0, _)]) K dX7_nextSet_15 rfl (by decide) rfl ?_
  refine x_iload_n (pc := 16) K 2 dX7_nextSet_16 rfl rfl ?_
  refine x_iload_n (pc := 17) K 0 dX7_nextSet_17 rfl rfl ?_
  refine x_icmp_ne (pc := 18) (tgt := 31) K dX7_nextSet_18 (by decide) (fun c_18 => ?_) (fun c_18 => ?_)
  · refine x_iload_n (pc := 31) K 2 dX7_nextSet_31 rfl rfl ?_
    refine x_calliS (pc := 32) (st := []) (n := 1) K (c_X7_nextOfSameSize l G _ _ _) gX7_nextSet_X7_nextOfSameSize (by decide +kernel) rfl (by decide) (by decide) rfl rfl (Nat.le_of_ble_eq_true rfl) dX7_nextSet_32 (fun r_32 I_32 J_32 hp_32 => ?_)
    obtain ⟨rfl, rfl, rfl⟩ := hp_32
    exact ret (pc := 35) dX7_nextSet_35 (⟨if_neg c_18, rfl, rfl⟩) rfl
  · refine x_iconst (pc := 21) (v := 1) K dX7_nextSet_21 (by decide) ?_
    refine x_iload_n (pc := 22) K 1 dX7_nextSet_22 rfl rfl ?_
    refine x_iconst (pc := 23) (v := 1) K dX7_nextSet_23 (by decide) ?_
    refine x_iadd (pc := 24) K dX7_nextSet_24 ?_
    refine x_ishl (pc := 25) K dX7_nextSet_25 ?_
    refine x_iconst (pc := 26) (v := 1) K dX7_nextSet_26 (by decide) ?_
    refine x_isub (pc := 27) K dX7_nextSet_27 ?_
    refine x_goto (pc := 28) (tgt := 35) K dX7_nextSet_28 (by decide) ?_
    exact ret (pc := 35) dX7_nextSet_35 (⟨if_pos c_18, rfl, rfl⟩) rfl

