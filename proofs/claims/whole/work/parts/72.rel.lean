/-! what ties the class's table to the reference's, the kept ones too -/
theorem up_hit {I : hI} {k j : Nat} {v : Int32} : h_up I k j v k j = v := by simp [h_up]
theorem up_off {I : hI} {k j b : Nat} {v : Int32} (h : b ≠ j) : h_up I k j v k b = I k b := by simp [h_up, h]
theorem cp_hit {I : hI} {k0 k n b : Nat} (h : b < n) : h_cp I k0 k n k b = I k0 b := by simp [h_cp, h]
def bI (b : Bool) : Int32 := if b then 1 else 0
def PtR (n sb ib : Nat) (c : Int32) (a : Nat → Nat → Int32) (s i c' : Int32) (pl su inn : Nat → Int32) : Prop :=
  n ≤ 12 ∧ sb < 2 ^ n ∧ ib < 2 ^ n ∧ c = nI n ∧ s = nI sb ∧ i = nI ib ∧ c' = nI n ∧ (∀ p, p < n → ∀ r, r < 4 → pl (4 * p + r) = a r p ∧ Bd (a r p)) ∧ ∀ p, p < n → su p = bI (sb.testBit p) ∧ inn p = bI (ib.testBit p)
def TrR (n nt : Nat) (c : Int32) (co : Nat → Nat → Int32) (c' : Int32) (co' : Nat → Int32) : Prop :=
  nt ≤ 10 ∧ c = nI nt ∧ c' = nI nt ∧ ∀ t, t < nt → ∀ j, j < 3 → co' (3 * t + j) = co t j ∧ ∃ k, k < n ∧ co t j = nI k
def ThR (ct : Nat → Nat) (tm : Nat → Int32) (tk : Nat → Nat → Nat → Int32) (tm' th : Nat → Int32) : Prop :=
  ∀ m, m < 2 → ct m ≤ 6 ∧ tm m = nI (ct m) ∧ tm' m = nI (ct m) ∧ ∀ i, i < ct m → ∀ q, q < 3 → th (18 * m + 3 * i + q) = tk m q i ∧ (1 ≤ q → Bd (tk m q i))
theorem PtR.c {n sb ib : Nat} {c s i c' c2 s2 i2 c2' : Int32} {a a2 : Nat → Nat → Int32} {pl su inn pl2 su2 inn2 : Nat → Int32} (h : PtR n sb ib c a s i c' pl su inn) (e1 : c2 = c) (e2 : ∀ r, r < 4 → ∀ p, p < 12 → a2 r p = a r p) (e3 : s2 = s) (e4 : i2 = i) (e5 : c2' = c') (e6 : ∀ j, j < 48 → pl2 j = pl j) (e7 : ∀ p, p < 12 → su2 p = su p) (e8 : ∀ p, p < 12 → inn2 p = inn p) : PtR n sb ib c2 a2 s2 i2 c2' pl2 su2 inn2 := by
  obtain ⟨h1, h2, h3, h4, h5, h6, h7, h8, h9⟩ := h
  refine ⟨h1, h2, h3, e1.trans h4, e3.trans h5, e4.trans h6, e5.trans h7, fun p hp r hr => ?_, fun p hp => ?_⟩
  · rw [e2 r hr p (by omega), e6 (4 * p + r) (by omega)]; exact h8 p hp r hr
  · rw [e7 p (by omega), e8 p (by omega)]; exact h9 p hp
theorem TrR.c {n nt : Nat} {c c' c2 c2' : Int32} {co co2 : Nat → Nat → Int32} {co' co2' : Nat → Int32} (h : TrR n nt c co c' co') (e1 : c2 = c) (e2 : ∀ t, t < 10 → ∀ j, j < 3 → co2 t j = co t j) (e3 : c2' = c') (e4 : ∀ j, j < 30 → co2' j = co' j) : TrR n nt c2 co2 c2' co2' := by
  obtain ⟨h1, h2, h3, h4⟩ := h
  refine ⟨h1, e1.trans h2, e3.trans h3, fun t ht j hj => ?_⟩
  rw [e2 t (by omega) j hj, e4 (3 * t + j) (by omega)]; exact h4 t ht j hj
theorem ThR.c {ct : Nat → Nat} {tm tm2 tm' tm2' th th2 : Nat → Int32} {tk tk2 : Nat → Nat → Nat → Int32} (h : ThR ct tm tk tm' th) (e1 : ∀ m, m < 2 → tm2 m = tm m) (e2 : ∀ m, m < 2 → ∀ q, q < 3 → ∀ i, i < 6 → tk2 m q i = tk m q i) (e3 : ∀ m, m < 2 → tm2' m = tm' m) (e4 : ∀ j, j < 36 → th2 j = th j) : ThR ct tm2 tk2 tm2' th2 := by
  intro m hm
  obtain ⟨h1, h2, h3, h4⟩ := h m hm
  refine ⟨h1, (e1 m hm).trans h2, (e3 m hm).trans h3, fun i hi q hq => ?_⟩
  rw [e2 m hm q hq i (by omega), e4 (18 * m + 3 * i + q) (by omega)]; exact h4 i hi q hq
/-- the table that stands now, in both -/
def CuR (I : hI) (n sb ib nt : Nat) (ct : Nat → Nat) : Prop :=
  PtR n sb ib (I 2 0) (fun r => I (4 + r)) (I 2 2) (I 2 3) (I 76 0) (I 77) (I 78) (I 79) ∧ TrR n nt (I 8 1) (fun t => I (10 + t)) (I 76 4) (I 80) ∧ ThR ct (fun m => I (20 + 4 * m) 0) (fun m q => I (21 + 4 * m + q)) (I 81) (I 82)
/-- the kept table, in both -/
def KeR (I : hI) (n sb ib nt : Nat) (ct : Nat → Nat) : Prop :=
  PtR n sb ib (I 29 0) (fun r => I (31 + r)) (I 29 2) (I 29 3) (I 83 0) (I 84) (bsM I) (biM I) ∧ TrR n nt (I 35 1) (fun t => I (37 + t)) (I 83 1) (I 86) ∧ ThR ct (fun m => I (47 + 4 * m) 0) (fun m q => I (48 + 4 * m + q)) (fun m => I 83 (2 + m)) (I 87)
def KpR (I : hI) : Prop := ∃ (n sb ib nt : Nat) (ct : Nat → Nat), KeR I n sb ib nt ct
def RuR (I : hI) : Prop := I 0 5 = I 76 8 ∧ I 0 6 = I 76 9 ∧ 0 ≤ (I 76 9).toInt ∧ (I 76 9).toInt ≤ 2000 ∧ I 0 4 = I 76 10 ∧ (¬ I 0 4 = 0 → KpR I)
def Rel (I : hI) : Prop := (∃ (n sb ib nt : Nat) (ct : Nat → Nat), CuR I n sb ib nt ct) ∧ RuR I
theorem KpR.fr {I I' : hI} (h : KpR I) (e : ∀ c, (28 ≤ c ∧ c < 55) ∨ (83 ≤ c ∧ c ≤ 87) → I' c = I c) : KpR I' := by
  obtain ⟨n, sb, ib, nt, ct, h1, h2, h3⟩ := h
  refine ⟨n, sb, ib, nt, ct, h1.c (by rw [e 29 (by omega)]) (fun r hr p _ => by show I' (31 + r) p = I (31 + r) p; rw [e (31 + r) (by omega)]) (by rw [e 29 (by omega)]) (by rw [e 29 (by omega)]) (by rw [e 83 (by omega)]) (fun j _ => by rw [e 84 (by omega)]) (fun p _ => by unfold bsM; rw [e 85 (by omega)]) (fun p _ => by unfold biM; rw [e 85 (by omega)]), h2.c (by rw [e 35 (by omega)]) (fun t ht j _ => by show I' (37 + t) j = I (37 + t) j; rw [e (37 + t) (by omega)]) (by rw [e 83 (by omega)]) (fun j _ => by rw [e 86 (by omega)]), h3.c (fun m hm => by show I' (47 + 4 * m) 0 = I (47 + 4 * m) 0; rw [e (47 + 4 * m) (by omega)]) (fun m hm q hq i _ => by show I' (48 + 4 * m + q) i = I (48 + 4 * m + q) i; rw [e (48 + 4 * m + q) (by omega)]) (fun m hm => by show I' 83 (2 + m) = I 83 (2 + m); rw [e 83 (by omega)]) (fun j _ => by rw [e 87 (by omega)])⟩
theorem CuR.fr {I I' : hI} {n sb ib nt : Nat} {ct : Nat → Nat} (h : CuR I n sb ib nt ct) (e : ∀ c, c < 28 ∨ (77 ≤ c ∧ c ≤ 82) → I' c = I c) (e0 : I' 76 0 = I 76 0) (e4 : I' 76 4 = I 76 4) : CuR I' n sb ib nt ct := by
  obtain ⟨h1, h2, h3⟩ := h
  exact ⟨h1.c (by rw [e 2 (by omega)]) (fun r hr p _ => by show I' (4 + r) p = I (4 + r) p; rw [e (4 + r) (by omega)]) (by rw [e 2 (by omega)]) (by rw [e 2 (by omega)]) e0 (fun j _ => by rw [e 77 (by omega)]) (fun p _ => by rw [e 78 (by omega)]) (fun p _ => by rw [e 79 (by omega)]), h2.c (by rw [e 8 (by omega)]) (fun t ht j _ => by show I' (10 + t) j = I (10 + t) j; rw [e (10 + t) (by omega)]) e4 (fun j _ => by rw [e 80 (by omega)]), h3.c (fun m hm => by show I' (20 + 4 * m) 0 = I (20 + 4 * m) 0; rw [e (20 + 4 * m) (by omega)]) (fun m hm q hq i _ => by show I' (21 + 4 * m + q) i = I (21 + 4 * m + q) i; rw [e (21 + 4 * m + q) (by omega)]) (fun m hm => by rw [e 81 (by omega)]) (fun j _ => by rw [e 82 (by omega)])⟩
theorem RuR.fr {I I' : hI} (h : RuR I) (e0 : I' 0 = I 0) (e8 : I' 76 8 = I 76 8) (e9 : I' 76 9 = I 76 9) (e10 : I' 76 10 = I 76 10) (e : ∀ c, (28 ≤ c ∧ c < 55) ∨ (83 ≤ c ∧ c ≤ 87) → I' c = I c) : RuR I' := by
  obtain ⟨h1, h2, h3, h4, h5, h6⟩ := h
  unfold RuR
  rw [e0, e8, e9, e10]
  exact ⟨h1, h2, h3, h4, h5, fun q => (h6 q).fr e⟩
theorem Rel.fr {I I' : hI} (h : Rel I) (e : ∀ c, c < 55 ∨ (76 ≤ c ∧ c ≤ 87) → I' c = I c) : Rel I' := by
  obtain ⟨⟨n, sb, ib, nt, ct, h1⟩, h2⟩ := h
  have e76 := e 76 (by omega)
  exact ⟨⟨n, sb, ib, nt, ct, h1.fr (fun c hc => e c (by omega)) (by rw [e76]) (by rw [e76])⟩, h2.fr (e 0 (by omega)) (by rw [e76]) (by rw [e76]) (by rw [e76]) (fun c hc => e c (by omega))⟩
theorem one_sh12 : ∀ k, k < 13 → (1 : Int32) <<< (nI k &&& 31) = nI (2 ^ k) := by decide +kernel
theorem mod_bit (x k : Nat) : x % 2 ^ (k + 1) = (x % 2 ^ k) ||| (if x.testBit k = true then 2 ^ k else 0) := by
  apply Nat.eq_of_testBit_eq
  intro i
  rw [Nat.testBit_or, Nat.testBit_mod_two_pow, Nat.testBit_mod_two_pow]
  by_cases e : k = i
  · subst e
    cases h : x.testBit k
    · simp
    · simp [Nat.testBit_two_pow]
  · have e2 : decide (i < k + 1) = decide (i < k) := by
      by_cases q : i < k
      · rw [decide_eq_true q, decide_eq_true (show i < k + 1 by omega)]
      · rw [decide_eq_false q, decide_eq_false (show ¬ i < k + 1 by omega)]
    rw [e2]
    cases h : x.testBit k
    · simp
    · simp [Nat.testBit_two_pow, e]
theorem bI_0 (b : Bool) : ¬ bI b = 0 ↔ b = true := by cases b <;> decide
section CU
variable {I : hI} {n sb ib nt : Nat} {ct : Nat → Nat}
theorem CuR.pl (h : CuR I n sb ib nt ct) : PlR I n := ⟨h.1.1, h.1.2.2.2.2.2.2.2.1⟩
theorem CuR.n0 (h : CuR I n sb ib nt ct) : I 2 0 = nI n := h.1.2.2.2.1
theorem CuR.n1 (h : CuR I n sb ib nt ct) : I 76 0 = nI n := h.1.2.2.2.2.2.2.1
theorem CuR.t0 (h : CuR I n sb ib nt ct) : I 8 1 = nI nt := h.2.1.2.1
theorem CuR.t1 (h : CuR I n sb ib nt ct) : I 76 4 = nI nt := h.2.1.2.2.1
theorem CuR.n12 (h : CuR I n sb ib nt ct) : n ≤ 12 := h.1.1
theorem CuR.t10 (h : CuR I n sb ib nt ct) : nt ≤ 10 := h.2.1.1
theorem CuR.slt (h : CuR I n sb ib nt ct) : sb &&& ib < 2 ^ n := Nat.lt_of_le_of_lt Nat.and_le_left h.1.2.1
theorem CuR.cb (h : CuR I n sb ib nt ct) : I 2 2 &&& I 2 3 = nI (sb &&& ib) := by rw [h.1.2.2.2.2.1, h.1.2.2.2.2.2.1, nx_and]
theorem CuR.cm (h : CuR I n sb ib nt ct) : cM I n = nI (sb &&& ib) := by
  have key : ∀ k, k ≤ n → cM I k = nI ((sb &&& ib) % 2 ^ k) := by
    intro k
    induction k with
    | zero => intro _; rw [Nat.pow_zero, Nat.mod_one]; rfl
    | succ k ih =>
      intro hk
      have hb := h.1.2.2.2.2.2.2.2.2 k (by omega)
      have h12 := h.n12
      rw [mod_bit]
      unfold cM
      rw [ih (by omega), hb.1, hb.2, Nat.testBit_and]
      by_cases q : ¬ bI (sb.testBit k) = 0 ∧ ¬ bI (ib.testBit k) = 0
      · have q1 := (bI_0 _).mp q.1
        have q2 := (bI_0 _).mp q.2
        rw [if_pos q, q1, q2, if_pos (show (true && true) = true from rfl), one_sh12 k (by omega), nx_or]
      · have q3 : ¬ (sb.testBit k && ib.testBit k) = true := fun w => by
          have w2 := Bool.and_eq_true_iff.mp w
          exact q ⟨(bI_0 _).mpr w2.1, (bI_0 _).mpr w2.2⟩
        rw [if_neg q, if_neg q3, ← nI_0, nx_or]
  rw [key n (Nat.le_refl _), Nat.mod_eq_of_lt h.slt]
theorem CuR.co (h : CuR I n sb ib nt ct) {t : Nat} (ht : t < nt) {j : Nat} (hj : j < 3) : ∃ k, k < n ∧ I (10 + t) j = nI k ∧ I 80 (3 * t + j) = nI k := by
  obtain ⟨e, k, hk, e2⟩ := h.2.1.2.2.2 t ht j hj
  exact ⟨k, hk, e2, e.trans e2⟩
theorem CuR.tok (h : CuR I n sb ib nt ct) : ∀ t, t < nt → TOk I t := fun t ht => ⟨by have := h.t10; omega, fun j hj => by
  obtain ⟨k, hk, e1, e2⟩ := h.co ht hj
  have h12 := h.n12
  have ec : cn I t j = k := by unfold cn; rw [e1, nI_clamp (by omega)]
  rw [ec]
  exact ⟨e1, by omega⟩⟩
theorem CuR.tokM (h : CuR I n sb ib nt ct) : ∀ t, t < nt → TOkM I t := fun t ht => ⟨by have := h.t10; omega, fun j hj => by
  obtain ⟨k, hk, e1, e2⟩ := h.co ht hj
  have h12 := h.n12
  have ec : cnM I t j = k := by unfold cnM; rw [e2, nI_clamp (by omega)]
  rw [ec]
  exact ⟨e2, by omega⟩⟩
theorem CuR.tq (h : CuR I n sb ib nt ct) : ∀ t, t < nt → TQ I n t := fun t ht j hj => by
  obtain ⟨k, hk, e1, e2⟩ := h.co ht hj
  have h12 := h.n12
  unfold cn cnM
  rw [e1, e2, nI_clamp (by omega)]
  exact ⟨rfl, hk⟩
theorem CuR.ht (h : CuR I n sb ib nt ct) : HtR I (ct 0) (ct 1) := by
  refine ⟨fun i hi => ?_, fun k hk => ?_⟩
  · obtain ⟨-, -, -, q⟩ := h.2.2 0 (by decide)
    have q0 := q i hi 0 (by decide)
    have q1 := q i hi 1 (by decide)
    have q2 := q i hi 2 (by decide)
    rw [Nat.mul_zero, Nat.zero_add] at q0 q1 q2
    exact ⟨q0.1, q1.1, q2.1, q1.2 (by decide), q2.2 (by decide)⟩
  · obtain ⟨-, -, -, q⟩ := h.2.2 1 (by decide)
    have q0 := q k hk 0 (by decide)
    have q1 := q k hk 1 (by decide)
    have q2 := q k hk 2 (by decide)
    rw [Nat.mul_one] at q0 q1 q2
    exact ⟨q0.1, q1.1, q2.1, q1.2 (by decide), q2.2 (by decide)⟩
end CU
/-- a method of the class, then the reference's own, with the same arguments: one answer, and the tie holds -/
def OpI (l : Launch) (G : hQ) (y7 : MethodName) (w7 : List Cond) (f7 c7 : Nat) (y8 : MethodName) (w8 : List Cond) (f8 c8 : Nat) (avs : List Value) (I : hI) (J : hJ) : Prop :=
  ∃ P, h_Mi l y7 w7 f7 c7 G (rr G 0 :: avs) I J P ∧ ∀ ρ I1 J1, P ρ I1 J1 → ∃ Q, h_Mi l y8 w8 f8 c8 G (rr G 76 :: avs) I1 J1 Q ∧ ∀ ρ' I2 J2, Q ρ' I2 J2 → ρ = ρ' ∧ Rel I2
def OpL (l : Launch) (G : hQ) (y7 : MethodName) (w7 : List Cond) (f7 c7 : Nat) (y8 : MethodName) (w8 : List Cond) (f8 c8 : Nat) (avs : List Value) (I : hI) (J : hJ) : Prop :=
  ∃ P, h_Ml l y7 w7 f7 c7 G (rr G 0 :: avs) I J P ∧ ∀ ρ I1 J1, P ρ I1 J1 → ∃ Q, h_Ml l y8 w8 f8 c8 G (rr G 76 :: avs) I1 J1 Q ∧ ∀ ρ' I2 J2, Q ρ' I2 J2 → ρ = ρ' ∧ Rel I2
theorem mp_iff {m : Int32} : isMp m ↔ 0 ≤ m ∧ m ≤ 1 := by
  unfold isMp
  rw [le32, lt32, le32]
  have : (2 : Int32).toInt = 2 := rfl
  have : (1 : Int32).toInt = 1 := rfl
  omega
theorem Pl.bx {x y : Int32} (h : Pl x y) : Bd x := ⟨h.1, h.2.1⟩
theorem Pl.by {x y : Int32} (h : Pl x y) : Bd y := ⟨h.2.2.1, h.2.2.2⟩
theorem ite_c {α : Type} {p q : Prop} [Decidable p] [Decidable q] {a b c : α} (h : p ↔ q) (h2 : p → a = c) : (if p then a else b) = if q then c else b := by
  by_cases k : p
  · rw [if_pos k, if_pos (h.mp k), h2 k]
  · rw [if_neg k, if_neg (mt h.mpr k)]
