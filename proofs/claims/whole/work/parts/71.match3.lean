/-! match, cost, left: one answer -/
abbrev HtR (I : hI) (no nn : Nat) : Prop := (∀ i, i < no → I 82 (3 * i) = I 21 i ∧ I 82 (3 * i + 1) = I 22 i ∧ I 82 (3 * i + 2) = I 23 i ∧ Bd (I 22 i) ∧ Bd (I 23 i)) ∧ ∀ k, k < nn → I 82 (18 + 3 * k) = I 25 k ∧ I 82 (18 + 3 * k + 1) = I 26 k ∧ I 82 (18 + 3 * k + 2) = I 27 k ∧ Bd (I 26 k) ∧ Bd (I 27 k)
section M3
variable {I : hI} {n s kd no nn : Nat}
theorem rn_x {ax : Nat} {x y : Int32} (hR : PlR I n) (hs : s < 2 ^ n) (hk : kd < 3) (ho : okA (atC I) kd (nI s)) (hax : ax < 2) (hx : Bd x) (hy : Bd y) : ∃ R : Int, rnP (atC I) kd (nI s) ax x.toInt64 y.toInt64 = Int64.ofInt R ∧ -8001002 ≤ R ∧ R ≤ 8001002 ∧ flM (2 * abP (atC I) kd (nI s) ax x.toInt64 y.toInt64 + Wy (atC I) kd (nI s) ax 3) (2 * Wy (atC I) kd (nI s) ax 3) = Int64.ofInt R := by
  obtain ⟨Z, W, e1, e2, w1, w2, z1, z2⟩ := abP_x (pow12 hs hR.1) (hR.A hs) hk hax hx hy ho
  obtain ⟨R, r1, r2, r3⟩ := fl_bd w1 w2 z1 z2
  have hp : ¬ Int64.ofInt W ≤ 0 := (pos64 (by omega) (by omega)).mpr w1
  have h2 : (0 : Int64) < 2 * Int64.ofInt W := by
    rw [show (2 : Int64) = Int64.ofInt 2 from rfl, ← Int64.ofInt_mul, pos64' (by omega) (by omega)]
    omega
  refine ⟨R, ?_, r2, r3, by rw [e1, e2]; exact r1⟩
  unfold rnP
  rw [e1, e2, if_neg hp, fd_fl h2]
  exact r1
theorem ng_of {P : Int} (h1 : -4000000000000000000 ≤ P) (h2 : P ≤ 4000000000000000000) : ng64 (Int64.ofInt P) = Int64.ofInt (P.natAbs : Int) := by
  apply Int64.toInt_inj.mp
  rw [ng_val h1 h2, i64_toInt (by omega) (by omega)]
theorem to32 {c : Int} (h1 : -2147483648 ≤ c) (h2 : c < 2147483648) : (Int64.ofInt c).toInt32 = Int32.ofInt c := by rw [← i32_64 h1 h2, Int32.toInt32_toInt64]
theorem cs_x {i k : Nat} (hR : PlR I n) (hs : s < 2 ^ n) (hk : kd < 3) (ho : okA (atC I) kd (nI s)) (hH : HtR I no nn) (hi : i < no) (hkk : k < nn) : ∃ c : Int, apP I kd (nI s) i k = Int32.ofInt c ∧ csW I n kd (nI s) i k = Int64.ofInt c ∧ (c = -1 ∨ (0 ≤ c ∧ c ≤ 20000000)) := by
  obtain ⟨a0, a1, a2, a3, a4⟩ := hH.1 i hi
  obtain ⟨b0, b1, b2, b3, b4⟩ := hH.2 k hkk
  obtain ⟨w0, w1, w2, w3, v0, v1, v2, v3⟩ := MW_Wy hR hs hk
  obtain ⟨R, r1, r2, r3, r4⟩ := rn_x hR hs hk ho (show 0 < 2 by decide) a3 a4
  obtain ⟨Q, q1, q2, q3, q4⟩ := rn_x hR hs hk ho (show 1 < 2 by decide) a3 a4
  have ex : rxW I n kd (nI s) i = Int64.ofInt R := by unfold rxW; rw [a1, a2, w0, w1, w2, w3]; exact r4
  have ey : ryW I n kd (nI s) i = Int64.ofInt Q := by unfold ryW; rw [a1, a2, v0, v1, v2, v3]; exact q4
  have c3 := b3.i
  have c4 := b4.i
  unfold apP csW
  rw [ex, ey, r1, q1, a0, b0, b1, b2]
  by_cases h : I 21 i = I 25 k
  · rw [if_pos h, if_pos h]
    refine ⟨((R - (I 26 k).toInt).natAbs : Int) + ((Q - (I 27 k).toInt).natAbs : Int), ?_, ?_, Or.inr ⟨by omega, by omega⟩⟩
    · rw [← ng_ab, ← ng_ab, i64_of (I 26 k), i64_of (I 27 k), ← Int64.ofInt_sub, ← Int64.ofInt_sub, ng_of (by omega) (by omega), ng_of (by omega) (by omega), ← Int64.ofInt_add, to32 (by omega) (by omega)]
    · rw [i64_of (I 26 k), i64_of (I 27 k), ← Int64.ofInt_sub, ← Int64.ofInt_sub, ng_of (by omega) (by omega), ng_of (by omega) (by omega), ← Int64.ofInt_add]
  · rw [if_neg h, if_neg h]
    exact ⟨-1, rfl, rfl, Or.inl rfl⟩
def cIn (I : hI) (n kd : Nat) (b : Int32) (i k : Nat) : Int := (csW I n kd b i k).toInt
theorem cIn_x (hR : PlR I n) (hs : s < 2 ^ n) (hk : kd < 3) (ho : okA (atC I) kd (nI s)) (hH : HtR I no nn) : CB (cIn I n kd (nI s)) no nn ∧ (∀ i, i < no → ∀ k, k < nn → apP I kd (nI s) i k = Int32.ofInt (cIn I n kd (nI s) i k)) ∧ ∀ i, i < no → ∀ k, k < nn → csW I n kd (nI s) i k = Int64.ofInt (cIn I n kd (nI s) i k) := by
  have key : ∀ i, i < no → ∀ k, k < nn → ∃ c : Int, cIn I n kd (nI s) i k = c ∧ apP I kd (nI s) i k = Int32.ofInt c ∧ csW I n kd (nI s) i k = Int64.ofInt c ∧ (c = -1 ∨ (0 ≤ c ∧ c ≤ 20000000)) := fun i hi k hkk => by
    obtain ⟨c, h1, h2, h3⟩ := cs_x hR hs hk ho hH hi hkk
    refine ⟨c, ?_, h1, h2, h3⟩
    unfold cIn
    rw [h2, i64_toInt (by omega) (by omega)]
  refine ⟨fun i hi k hkk => ?_, fun i hi k hkk => ?_, fun i hi k hkk => ?_⟩
  · obtain ⟨c, e, -, -, h⟩ := key i hi k hkk; rw [e]; exact h
  · obtain ⟨c, e, h, -, -⟩ := key i hi k hkk; rw [e]; exact h
  · obtain ⟨c, e, -, h, -⟩ := key i hi k hkk; rw [e]; exact h
/-- what the match rests on -/
abbrev MtR (I : hI) (n s kd no nn : Nat) : Prop := PlR I n ∧ s < 2 ^ n ∧ kd < 3 ∧ okA (atC I) kd (nI s) ∧ HtR I no nn ∧ no ≤ 6 ∧ nn ≤ 6 ∧ cM I n = nI s ∧ I 0 6 = I 76 9 ∧ 0 ≤ (I 76 9).toInt ∧ (I 76 9).toInt ≤ 2000
theorem bf_x (h : MtR I n s kd no nn) : bfW I n kd no nn = (Int64.ofInt (TI (cIn I n kd (nI s)) no nn (I 76 9).toInt no 0), enc (nn + 1) (gI (cIn I n kd (nI s)) no nn (I 76 9).toInt) no) := by
  obtain ⟨hR, hs, hk, ho, hH, h60, h6, hc, hl, l0, l1⟩ := h
  obtain ⟨x1, x2, x3⟩ := cIn_x hR hs hk ho hH
  unfold bfW
  rw [hc]
  exact best_x l0 l1 h6 h60 (i64_of _) x1 x3
theorem bd_x (h : MtR I n s kd no nn) {i : Nat} (hi : i < no) : bdW I n kd no nn i = gI (cIn I n kd (nI s)) no nn (I 76 9).toInt i := by
  unfold bdW
  rw [bf_x h]
  exact enc_dg no (fun i _ => Nat.lt_succ_of_le gI_le) i hi
theorem bf_pos (h : MtR I n s kd no nn) : 0 ≤ (bfW I n kd no nn).1 := by
  rw [bf_x h]
  obtain ⟨hR, hs, hk, ho, hH, h60, h6, hc, hl, l0, l1⟩ := h
  obtain ⟨x1, x2, x3⟩ := cIn_x hR hs hk ho hH
  have T := TI_bd l0 l1 x1 no (Nat.le_refl _) 0
  show (0 : Int64) ≤ Int64.ofInt _
  rw [le64, zero64, i64_toInt (by omega) (by omega)]
  omega
theorem l32 {x : Int32} : x = Int32.ofInt x.toInt := (Int32.ofInt_toInt x).symm
theorem match_e (h : MtR I n s kd no nn) {p : Nat} (hp : p < no) : gvP (apP I kd (nI s)) no nn (I 0 6) p = if bdW I n kd no nn p < nn then nI (bdW I n kd no nn p) else -5 := by
  rw [bd_x h hp]
  obtain ⟨hR, hs, hk, ho, hH, h60, h6, hc, hl, l0, l1⟩ := h
  obtain ⟨x1, x2, x3⟩ := cIn_x hR hs hk ho hH
  rw [hl]
  exact gv_x l0 l1 l32 h6 h60 x1 x2 hp
theorem cost_e (h : MtR I n s kd no nn) : lsT (apP I kd (nI s)) no nn (I 0 6) no 0 = (bfW I n kd no nn).1.toInt32 := by
  rw [bf_x h]
  obtain ⟨hR, hs, hk, ho, hH, h60, h6, hc, hl, l0, l1⟩ := h
  obtain ⟨x1, x2, x3⟩ := cIn_x hR hs hk ho hH
  have T := TI_bd l0 l1 x1 no (Nat.le_refl _) 0
  rw [hl, ls_x l0 l1 l32 h6 h60 x1 x2 no (Nat.le_refl _)]
  show _ = (Int64.ofInt _).toInt32
  rw [to32 (by omega) (by omega)]
def uN (f : Nat → Nat) : Nat → Nat
  | 0 => 0
  | i + 1 => uN f i ||| 2 ^ f i
theorem one_sh : ∀ k, k < 7 → (1 : Int32) <<< (nI k &&& 31) = nI (2 ^ k) := by decide +kernel
theorem uM_x {f g : Nat → Nat} : ∀ k, (∀ i, i < k → f i = g i ∧ g i < 7) → uM f k = nI (uN g k)
  | 0, _ => rfl
  | k + 1, h => by
    have hk := h k (by omega)
    unfold uM uN
    rw [uM_x k (fun i hi => h i (by omega)), hk.1, one_sh _ hk.2, nx_or]
theorem uI_tb {C : Nat → Nat → Int} {lost : Int} {q : Nat} (hq : q < nn) : ∀ k, (uI C no nn lost k).testBit q = (uN (gI C no nn lost) k).testBit q
  | 0 => rfl
  | k + 1 => by
    have ih := uI_tb (C := C) (lost := lost) hq k
    have eu : uI C no nn lost (k + 1) = if gI C no nn lost k < nn then orB (uI C no nn lost k) (gI C no nn lost k) else uI C no nn lost k := rfl
    have hle : gI C no nn lost k ≤ nn := gI_le
    unfold uN
    rw [eu, Nat.testBit_or, ← ih]
    by_cases w : gI C no nn lost k < nn
    · rw [if_pos w]
      unfold orB
      rw [Nat.testBit_or, Nat.one_shiftLeft]
    · rw [if_neg w, show gI C no nn lost k = nn by omega, Nat.testBit_two_pow, decide_eq_false (by omega), Bool.or_false]
theorem left_e (h : MtR I n s kd no nn) : fuG (usP (apP I kd (nI s)) no nn (I 0 6) no) nn = fstI (fun q => uM (bdW I n kd no nn) no >>> (nI q &&& 31) &&& 1 = 0) 0 nn := by
  have hb := fun i (hi : i < no) => bd_x h hi
  obtain ⟨hR, hs, hk, ho, hH, h60, h6, hc, hl, l0, l1⟩ := h
  obtain ⟨x1, x2, x3⟩ := cIn_x hR hs hk ho hH
  rw [hl, us_x l0 l1 l32 h6 h60 x1 x2 no (Nat.le_refl _)]
  rw [uM_x (g := gI (cIn I n kd (nI s)) no nn (I 76 9).toInt) no (fun i hi => ⟨hb i hi, by have : gI (cIn I n kd (nI s)) no nn (I 76 9).toInt i ≤ nn := gI_le; omega⟩)]
  unfold fuG
  refine fst_cb nn 0 (fun q _ hq => ?_)
  rw [bit_val _ q (by omega), bit_val _ q (by omega), uI_tb (by omega)]
end M3
