/-! how far THE BEND carries: exact sums, and no spread is more than 2000 times the spread of what it goes by -/
def iS (e : Nat → Int) : Nat → Int
  | 0 => 0
  | k + 1 => iS e k + e k
theorem iS_of {f : Nat → Int64} {e : Nat → Int} : ∀ {n : Nat}, (∀ k, k < n → f k = Int64.ofInt (e k)) → sumTo f n = Int64.ofInt (iS e n)
  | 0, _ => rfl
  | n + 1, h => by unfold sumTo iS; rw [iS_of (fun k hk => h k (by omega)), h n (by omega), Int64.ofInt_add]
theorem iS_neg {f : Nat → Int} : ∀ {n : Nat}, iS (fun k => -f k) n = -iS f n
  | 0 => rfl
  | n + 1 => by unfold iS; rw [iS_neg]; omega
theorem tm_ge {d e : Int} (h1 : -2000 ≤ e) (h2 : e ≤ 2000) : 0 ≤ d * (2000 * d + e) := by
  rcases (show d ≤ -1 ∨ d = 0 ∨ 1 ≤ d by omega) with h | h | h
  · exact Int.mul_nonneg_of_nonpos_of_nonpos (by omega) (by omega)
  · subst h; omega
  · exact Int.mul_nonneg (by omega) (by omega)
section CS
variable {w x X : Nat → Int}
theorem cs_inc {x0 X0 : Int} (h1 : -1000 ≤ X0) (h2 : X0 ≤ 1000) : ∀ m, (∀ k, k < m → w k = 0 ∨ (w k = 1 ∧ -1000 ≤ X k ∧ X k ≤ 1000)) → 0 ≤ 2000 * iS (fun k => w k * (x k * x k)) m + iS (fun k => w k * (x k * X k)) m + iS w m * (2000 * (x0 * x0) + x0 * X0) - iS (fun k => w k * x k) m * (2000 * x0 + X0) - x0 * (2000 * iS (fun k => w k * x k) m + iS (fun k => w k * X k) m)
  | 0, _ => by simp [iS]
  | m + 1, h => by
    have ih := cs_inc (x0 := x0) h1 h2 m (fun k hk => h k (by omega))
    unfold iS
    rcases h m (by omega) with q | ⟨q, q1, q2⟩
    · rw [q]
      simpa using ih
    · rw [q]
      have t := tm_ge (d := x m - x0) (e := X m - X0) (by omega) (by omega)
      generalize iS (fun k => w k * (x k * x k)) m = sC at ih ⊢
      generalize iS (fun k => w k * (x k * X k)) m = sD at ih ⊢
      generalize iS (fun k => w k * x k) m = sA at ih ⊢
      generalize iS (fun k => w k * X k) m = sB at ih ⊢
      generalize iS w m = sN at ih ⊢
      generalize x m = a at t ⊢
      generalize X m = b at t ⊢
      have e : 2000 * (sC + 1 * (a * a)) + (sD + 1 * (a * b)) + (sN + 1) * (2000 * (x0 * x0) + x0 * X0) - (sA + 1 * a) * (2000 * x0 + X0) - x0 * (2000 * (sA + 1 * a) + (sB + 1 * b)) = (2000 * sC + sD + sN * (2000 * (x0 * x0) + x0 * X0) - sA * (2000 * x0 + X0) - x0 * (2000 * sA + sB)) + (a - x0) * (2000 * (a - x0) + (b - X0)) := by grind
      rw [e]
      exact Int.add_nonneg ih t
theorem cs_ge : ∀ m, (∀ k, k < m → w k = 0 ∨ (w k = 1 ∧ -1000 ≤ X k ∧ X k ≤ 1000)) → 0 ≤ iS w m * (2000 * iS (fun k => w k * (x k * x k)) m + iS (fun k => w k * (x k * X k)) m) - iS (fun k => w k * x k) m * (2000 * iS (fun k => w k * x k) m + iS (fun k => w k * X k) m)
  | 0, _ => by simp [iS]
  | m + 1, h => by
    have ih := cs_ge m (fun k hk => h k (by omega))
    unfold iS
    rcases h m (by omega) with q | ⟨q, q1, q2⟩
    · rw [q]
      simpa using ih
    · have t := cs_inc (w := w) (x := x) (X := X) (x0 := x m) (X0 := X m) q1 q2 m (fun k hk => h k (by omega))
      rw [q]
      generalize iS (fun k => w k * (x k * x k)) m = sC at ih t ⊢
      generalize iS (fun k => w k * (x k * X k)) m = sD at ih t ⊢
      generalize iS (fun k => w k * x k) m = sA at ih t ⊢
      generalize iS (fun k => w k * X k) m = sB at ih t ⊢
      generalize iS w m = sN at ih t ⊢
      generalize x m = a at t ⊢
      generalize X m = b at t ⊢
      have e : (sN + 1) * (2000 * (sC + 1 * (a * a)) + (sD + 1 * (a * b))) - (sA + 1 * a) * (2000 * (sA + 1 * a) + (sB + 1 * b)) = (sN * (2000 * sC + sD) - sA * (2000 * sA + sB)) + (2000 * sC + sD + sN * (2000 * (a * a) + a * b) - sA * (2000 * a + b) - a * (2000 * sA + sB)) := by grind
      rw [e]
      exact Int.add_nonneg ih t
theorem cs_both {m : Nat} (h : ∀ k, k < m → w k = 0 ∨ (w k = 1 ∧ -1000 ≤ X k ∧ X k ≤ 1000)) : -(2000 * (iS w m * iS (fun k => w k * (x k * x k)) m - iS (fun k => w k * x k) m * iS (fun k => w k * x k) m)) ≤ iS w m * iS (fun k => w k * (x k * X k)) m - iS (fun k => w k * x k) m * iS (fun k => w k * X k) m ∧ iS w m * iS (fun k => w k * (x k * X k)) m - iS (fun k => w k * x k) m * iS (fun k => w k * X k) m ≤ 2000 * (iS w m * iS (fun k => w k * (x k * x k)) m - iS (fun k => w k * x k) m * iS (fun k => w k * x k) m) := by
  have h1 := cs_ge (w := w) (x := x) (X := X) m h
  have h2 := cs_ge (w := w) (x := x) (X := fun k => -X k) m (fun k hk => by
    rcases h k hk with q | ⟨q, q1, q2⟩
    · exact Or.inl q
    · exact Or.inr ⟨q, by omega, by omega⟩)
  simp only [Int.mul_neg, iS_neg] at h2
  generalize iS (fun k => w k * (x k * x k)) m = sC at h1 h2 ⊢
  generalize iS (fun k => w k * (x k * X k)) m = sD at h1 h2 ⊢
  generalize iS (fun k => w k * x k) m = sA at h1 h2 ⊢
  generalize iS (fun k => w k * X k) m = sB at h1 h2 ⊢
  generalize iS w m = sN at h1 h2 ⊢
  have e1 : sN * (2000 * sC + sD) - sA * (2000 * sA + sB) = 2000 * (sN * sC - sA * sA) + (sN * sD - sA * sB) := by grind
  have e2 : sN * (2000 * sC + -sD) - sA * (2000 * sA + -sB) = 2000 * (sN * sC - sA * sA) - (sN * sD - sA * sB) := by grind
  rw [e1] at h1
  rw [e2] at h2
  omega
theorem iS_bd {M : Int} (hM : 0 ≤ M) : ∀ m, (∀ k, k < m → w k = 0 ∨ (w k = 1 ∧ -M ≤ x k ∧ x k ≤ M)) → 0 ≤ iS w m ∧ iS w m ≤ m ∧ -(M * iS w m) ≤ iS (fun k => w k * x k) m ∧ iS (fun k => w k * x k) m ≤ M * iS w m
  | 0, _ => by simp [iS]
  | m + 1, h => by
    obtain ⟨a, b, c, d⟩ := iS_bd hM m (fun k hk => h k (by omega))
    unfold iS
    rcases h m (by omega) with q | ⟨q, q1, q2⟩
    · rw [q]
      simp only [Int.zero_mul, Int.add_zero]
      exact ⟨a, by omega, c, d⟩
    · rw [q, Int.mul_add, Int.mul_one, Int.one_mul]
      omega
end CS
def wS (s k : Nat) : Int := if bitOn (nI s) k then 1 else 0
def nS (s : Nat) : Int := iS (wS s) 12
def aS (a : aT) (s r : Nat) : Int := iS (fun k => wS s k * (a r k).toInt) 12
def cS (a : aT) (s r q : Nat) : Int := iS (fun k => wS s k * ((a r k).toInt * (a q k).toInt)) 12
def SX (a : aT) (s r q : Nat) : Int := nS s * cS a s r q - aS a s r * aS a s q
section SX
variable {a : aT} {s : Nat}
theorem wS_c (hA : BdA a (nI s)) {r : Nat} (hr : r < 4) : ∀ k, k < 12 → wS s k = 0 ∨ (wS s k = 1 ∧ -1000 ≤ (a r k).toInt ∧ (a r k).toInt ≤ 1000) := fun k hk => by
  unfold wS
  by_cases q : bitOn (nI s) k
  · rw [if_pos q]; exact Or.inr ⟨rfl, (hA k hk q r hr).i⟩
  · rw [if_neg q]; exact Or.inl rfl
theorem nB_x (hs : s < 4096) : nB (nI s) = Int64.ofInt (nS s) := by
  rw [nB_sum s hs]
  refine iS_of (fun k _ => ?_)
  unfold wS
  by_cases q : bitOn (nI s) k
  · rw [if_pos q, if_pos q]; rfl
  · rw [if_neg q, if_neg q]; rfl
theorem smA_x (r : Nat) : smA a (nI s) r = Int64.ofInt (aS a s r) := by
  unfold smA
  refine iS_of (fun k _ => ?_)
  unfold wS
  by_cases q : bitOn (nI s) k
  · rw [if_pos q, if_pos q, Int.one_mul, i64_of]
  · rw [if_neg q, if_neg q, Int.zero_mul]; rfl
theorem spA_x {r q : Nat} (hA : BdA a (nI s)) (hr : r < 4) (hq : q < 4) : spA a (nI s) r q = Int64.ofInt (cS a s r q) := by
  unfold spA
  refine iS_of (fun k hk => ?_)
  unfold wS
  by_cases h : bitOn (nI s) k
  · rw [if_pos h, if_pos h, Int.one_mul, mul64 (hA k hk h r hr) (hA k hk h q hq), i64_of, i64_of, Int64.ofInt_mul]
  · rw [if_neg h, if_neg h, Int.zero_mul]; rfl
theorem SP_x {r q : Nat} (hs : s < 4096) (hA : BdA a (nI s)) (hr : r < 4) (hq : q < 4) : SP a (nI s) r q = Int64.ofInt (SX a s r q) := by
  unfold SP SX
  rw [nB_x hs, spA_x hA hr hq, smA_x, smA_x, Int64.ofInt_sub, Int64.ofInt_mul, Int64.ofInt_mul]
theorem nS_bd (hA : BdA a (nI s)) {r : Nat} (hr : r < 4) : 0 ≤ nS s ∧ nS s ≤ 12 ∧ -(1000 * nS s) ≤ aS a s r ∧ aS a s r ≤ 1000 * nS s := iS_bd (M := 1000) (by omega) 12 (wS_c hA hr)
theorem SX_cs {r q : Nat} (hA : BdA a (nI s)) (hq : q < 4) : -(2000 * SX a s r r) ≤ SX a s r q ∧ SX a s r q ≤ 2000 * SX a s r r := cs_both (wS_c hA hq)
theorem cS_bd {r q : Nat} (hA : BdA a (nI s)) (hr : r < 4) (hq : q < 4) : -12000000 ≤ cS a s r q ∧ cS a s r q ≤ 12000000 := by
  have h := iS_bd (w := wS s) (x := fun k => (a r k).toInt * (a q k).toInt) (M := 1000000) (by omega) 12 (fun k hk => by
    rcases wS_c hA hr k hk with e | ⟨e, e1, e2⟩
    · exact Or.inl e
    · rcases wS_c hA hq k hk with f | ⟨f, f1, f2⟩
      · exact Or.inl f
      · have m := mul_bd (m := 1000) (n := 1000) (a := (a r k).toInt) (b := (a q k).toInt) (by omega) (by omega)
        exact Or.inr ⟨e, by omega, by omega⟩)
  unfold cS
  omega
theorem SX_bd {r q : Nat} (hA : BdA a (nI s)) (hr : r < 4) (hq : q < 4) : -288000000 ≤ SX a s r q ∧ SX a s r q ≤ 288000000 := by
  have c := cS_bd hA hr hq
  have n1 := nS_bd hA hr
  have n2 := nS_bd hA hq
  exact mul_sub_bd n1.1 n1.2.1 c.1 c.2 (by omega) (by omega) (by omega) (by omega)
end SX
theorem mulI {a b m n : Int} (h1 : -m ≤ a) (h2 : a ≤ m) (h3 : -n ≤ b) (h4 : b ≤ n) : -(m * n) ≤ a * b ∧ a * b ≤ m * n := by
  have e1 : a.natAbs ≤ m.natAbs := by omega
  have e2 : b.natAbs ≤ n.natAbs := by omega
  have e3 : (a * b).natAbs ≤ m.natAbs * n.natAbs := by rw [Int.natAbs_mul]; exact Nat.mul_le_mul e1 e2
  have e4 : ((m.natAbs * n.natAbs : Nat) : Int) = m * n := by
    rw [Int.natCast_mul, Int.natAbs_of_nonneg (by omega), Int.natAbs_of_nonneg (by omega)]
  omega
/-- a carried place is d * A + p * u + q * v, over N * d -/
theorem car3 {N d A p q u v : Int} (hd : 0 ≤ d) (hN : 0 ≤ N) (a1 : -(1000 * N) ≤ A) (a2 : A ≤ 1000 * N) (p1 : -(2000 * d) ≤ p) (p2 : p ≤ 2000 * d) (q1 : -(2000 * d) ≤ q) (q2 : q ≤ 2000 * d) (u1 : -(2000 * N) ≤ u) (u2 : u ≤ 2000 * N) (v1 : -(2000 * N) ≤ v) (v2 : v ≤ 2000 * N) : -(8001000 * (N * d)) ≤ d * A + p * u + q * v ∧ d * A + p * u + q * v ≤ 8001000 * (N * d) := by
  have m1 := mulI (a := d) (b := A) (m := d) (n := 1000 * N) (by omega) (by omega) a1 a2
  have m2 := mulI p1 p2 u1 u2
  have m3 := mulI q1 q2 v1 v2
  have e1 : d * (1000 * N) = 1000 * (N * d) := by grind
  have e2 : 2000 * d * (2000 * N) = 4000000 * (N * d) := by grind
  rw [e1] at m1
  rw [e2] at m2 m3
  omega
theorem mulN {N x : Int} (h1 : -1000 ≤ x) (h2 : x ≤ 1000) (hN : 0 ≤ N) : -(1000 * N) ≤ N * x ∧ N * x ≤ 1000 * N := by
  have m := mulI (a := N) (b := x) (m := N) (n := 1000) (by omega) (by omega) h1 h2
  have e : N * 1000 = 1000 * N := Int.mul_comm ..
  rw [e] at m
  exact m
theorem abP_x {a : aT} {s kd ax : Nat} {x y : Int32} (hs : s < 4096) (hA : BdA a (nI s)) (hk : kd < 3) (hax : ax < 2) (hx : Bd x) (hy : Bd y) (h : okA a kd (nI s)) : ∃ Z W : Int, abP a kd (nI s) ax x.toInt64 y.toInt64 = Int64.ofInt Z ∧ Wy a kd (nI s) ax 3 = Int64.ofInt W ∧ 0 < W ∧ W ≤ 7200000000 ∧ -(8001000 * W) ≤ Z ∧ Z ≤ 8001000 * W := by
  have hN := nB_x hs
  have m := fun r => smA_x (a := a) (s := s) r
  have S := fun {r q} (h1 : r < 4) (h2 : q < 4) => SP_x (r := r) (q := q) hs hA h1 h2
  have bx := hx.i
  have byy := hy.i
  obtain ⟨n0, n12, -, -⟩ := nS_bd hA (show 0 < 4 by decide)
  have nx := mulN bx.1 bx.2 n0
  have ny := mulN byy.1 byy.2 n0
  have A := fun {r} (hr : r < 4) => (nS_bd (r := r) hA hr).2.2
  have A0 := A (show 0 < 4 by decide)
  have A1 := A (show 1 < 4 by decide)
  have A2 := A (show 2 < 4 by decide)
  have A3 := A (show 3 < 4 by decide)
  rcases (show kd = 0 ∨ kd = 1 ∨ kd = 2 by omega) with rfl | rfl | rfl
  · have h0 : ¬ nB (nI s) ≤ 0 := by simpa [okA] using h
    rw [hN, pos64 (by omega) (by omega)] at h0
    rcases (show ax = 0 ∨ ax = 1 by omega) with rfl | rfl
    · refine ⟨nS s * x.toInt + (aS a s 2 - aS a s 0), nS s, ?_, ?_, h0, by omega, by omega, by omega⟩
      · simp only [abP, Wy, if_true, Nat.reduceEqDiff, if_false, Nat.reduceAdd, show ¬ (1 : Nat) = 0 by decide, show ¬ (2 : Nat) = 0 by decide, show ¬ (3 : Nat) = 0 by decide, show ¬ (2 : Nat) = 1 by decide, show ¬ (3 : Nat) = 1 by decide, show ¬ (3 : Nat) = 2 by decide, hN, m, i64_of, Int64.ofInt_add, Int64.ofInt_sub, Int64.ofInt_mul, Int64.zero_mul, Int64.add_zero]
      · simp [Wy, hN]
    · refine ⟨nS s * y.toInt + (aS a s 3 - aS a s 1), nS s, ?_, ?_, h0, by omega, by omega, by omega⟩
      · simp only [abP, Wy, if_true, Nat.reduceEqDiff, if_false, Nat.reduceAdd, show ¬ (1 : Nat) = 0 by decide, show ¬ (2 : Nat) = 0 by decide, show ¬ (3 : Nat) = 0 by decide, show ¬ (2 : Nat) = 1 by decide, show ¬ (3 : Nat) = 1 by decide, show ¬ (3 : Nat) = 2 by decide, hN, m, i64_of, Int64.ofInt_add, Int64.ofInt_sub, Int64.ofInt_mul, Int64.zero_mul, Int64.zero_add]
      · simp [Wy, hN]
  · have h0 : ¬ dT a (nI s) ≤ 0 := by simpa [okA] using h
    have ed : dT a (nI s) = Int64.ofInt (SX a s 0 0 + SX a s 1 1) := by unfold dT; rw [S (by decide) (by decide), S (by decide) (by decide), Int64.ofInt_add]
    have ep : pT a (nI s) = Int64.ofInt (SX a s 0 2 + SX a s 1 3) := by unfold pT; rw [S (by decide) (by decide), S (by decide) (by decide), Int64.ofInt_add]
    have eq : qT a (nI s) = Int64.ofInt (SX a s 0 3 - SX a s 1 2) := by unfold qT; rw [S (by decide) (by decide), S (by decide) (by decide), Int64.ofInt_sub]
    have b00 := SX_bd hA (show 0 < 4 by decide) (show 0 < 4 by decide)
    have b11 := SX_bd hA (show 1 < 4 by decide) (show 1 < 4 by decide)
    rw [ed, pos64 (by omega) (by omega)] at h0
    have c02 := SX_cs (r := 0) hA (show 2 < 4 by decide)
    have c13 := SX_cs (r := 1) hA (show 3 < 4 by decide)
    have c03 := SX_cs (r := 0) hA (show 3 < 4 by decide)
    have c12 := SX_cs (r := 1) hA (show 2 < 4 by decide)
    have hN1 : 0 < nS s := by
      rcases (show nS s = 0 ∨ 0 < nS s by omega) with q | q
      · exfalso
        have z0 : aS a s 0 = 0 := by omega
        have z1 : aS a s 1 = 0 := by omega
        have e0 : SX a s 0 0 = 0 := by unfold SX; rw [q, z0]; omega
        have e1 : SX a s 1 1 = 0 := by unfold SX; rw [q, z1]; omega
        omega
      · exact q
    generalize hd : SX a s 0 0 + SX a s 1 1 = d at ed h0
    generalize hp : SX a s 0 2 + SX a s 1 3 = p at ep
    generalize hq : SX a s 0 3 - SX a s 1 2 = q at eq
    have hW : 0 < nS s * d := Int.mul_pos hN1 h0
    have hW2 := mul_bd (a := nS s) (b := d) (m := 12) (n := 600000000) (by omega) (by omega)
    rcases (show ax = 0 ∨ ax = 1 by omega) with rfl | rfl
    · have key := car3 (N := nS s) (d := d) (A := aS a s 2) (p := p) (q := -q) (u := nS s * x.toInt - aS a s 0) (v := nS s * y.toInt - aS a s 1) (by omega) n0 A2.1 A2.2 (by omega) (by omega) (by omega) (by omega) (by omega) (by omega) (by omega) (by omega)
      refine ⟨d * aS a s 2 + p * (nS s * x.toInt - aS a s 0) + -q * (nS s * y.toInt - aS a s 1), nS s * d, ?_, ?_, hW, by omega, key.1, key.2⟩
      · have e : d * aS a s 2 + p * (nS s * x.toInt - aS a s 0) + -q * (nS s * y.toInt - aS a s 1) = nS s * p * x.toInt + -nS s * q * y.toInt + (d * aS a s 2 - p * aS a s 0 + q * aS a s 1) := by grind
        rw [e]
        simp only [abP, Wy, if_true, Nat.reduceEqDiff, if_false, Nat.reduceAdd, show ¬ (1 : Nat) = 0 by decide, show ¬ (2 : Nat) = 0 by decide, show ¬ (3 : Nat) = 0 by decide, show ¬ (2 : Nat) = 1 by decide, show ¬ (3 : Nat) = 1 by decide, show ¬ (3 : Nat) = 2 by decide, hN, m, ed, ep, eq, i64_of, Int64.ofInt_add, Int64.ofInt_sub, Int64.ofInt_mul, Int64.ofInt_neg]
      · simp [Wy, hN, ed]
    · have key := car3 (N := nS s) (d := d) (A := aS a s 3) (p := q) (q := p) (u := nS s * x.toInt - aS a s 0) (v := nS s * y.toInt - aS a s 1) (by omega) n0 A3.1 A3.2 (by omega) (by omega) (by omega) (by omega) (by omega) (by omega) (by omega) (by omega)
      refine ⟨d * aS a s 3 + q * (nS s * x.toInt - aS a s 0) + p * (nS s * y.toInt - aS a s 1), nS s * d, ?_, ?_, hW, by omega, key.1, key.2⟩
      · have e : d * aS a s 3 + q * (nS s * x.toInt - aS a s 0) + p * (nS s * y.toInt - aS a s 1) = nS s * q * x.toInt + nS s * p * y.toInt + (d * aS a s 3 - q * aS a s 0 - p * aS a s 1) := by grind
        rw [e]
        simp only [abP, Wy, if_true, Nat.reduceEqDiff, if_false, Nat.reduceAdd, show ¬ (1 : Nat) = 0 by decide, show ¬ (2 : Nat) = 0 by decide, show ¬ (3 : Nat) = 0 by decide, show ¬ (2 : Nat) = 1 by decide, show ¬ (3 : Nat) = 1 by decide, show ¬ (3 : Nat) = 2 by decide, hN, m, ed, ep, eq, i64_of, Int64.ofInt_add, Int64.ofInt_sub, Int64.ofInt_mul, Int64.ofInt_neg]
      · simp [Wy, hN, ed]
  · have h0 : ¬ SP a (nI s) 0 0 ≤ 0 ∧ ¬ SP a (nI s) 1 1 ≤ 0 := by simpa [okA] using h
    have b00 := SX_bd hA (show 0 < 4 by decide) (show 0 < 4 by decide)
    have b11 := SX_bd hA (show 1 < 4 by decide) (show 1 < 4 by decide)
    rw [S (show 0 < 4 by decide) (show 0 < 4 by decide), S (show 1 < 4 by decide) (show 1 < 4 by decide), pos64 (by omega) (by omega), pos64 (by omega) (by omega)] at h0
    have c02 := SX_cs (r := 0) hA (show 2 < 4 by decide)
    have c13 := SX_cs (r := 1) hA (show 3 < 4 by decide)
    have hN1 : 0 < nS s := by
      rcases (show nS s = 0 ∨ 0 < nS s by omega) with q | q
      · exfalso
        have z0 : aS a s 0 = 0 := by omega
        have e0 : SX a s 0 0 = 0 := by unfold SX; rw [q, z0]; omega
        omega
      · exact q
    have s00 := S (show 0 < 4 by decide) (show 0 < 4 by decide)
    have s11 := S (show 1 < 4 by decide) (show 1 < 4 by decide)
    have s02 := S (show 0 < 4 by decide) (show 2 < 4 by decide)
    have s13 := S (show 1 < 4 by decide) (show 3 < 4 by decide)
    rcases (show ax = 0 ∨ ax = 1 by omega) with rfl | rfl
    · generalize SX a s 0 0 = d at h0 b00 c02 s00
      generalize SX a s 0 2 = p at c02 s02
      have hW : 0 < nS s * d := Int.mul_pos hN1 h0.1
      have hW2 := mul_bd (a := nS s) (b := d) (m := 12) (n := 600000000) (by omega) (by omega)
      have key := car3 (N := nS s) (d := d) (A := aS a s 2) (p := p) (q := 0) (u := nS s * x.toInt - aS a s 0) (v := 0) (by omega) n0 A2.1 A2.2 (by omega) (by omega) (by omega) (by omega) (by omega) (by omega) (by omega) (by omega)
      refine ⟨d * aS a s 2 + p * (nS s * x.toInt - aS a s 0) + 0 * 0, nS s * d, ?_, ?_, hW, by omega, key.1, key.2⟩
      · have e : d * aS a s 2 + p * (nS s * x.toInt - aS a s 0) + 0 * 0 = nS s * p * x.toInt + (d * aS a s 2 - p * aS a s 0) := by grind
        rw [e]
        simp only [abP, Wy, if_true, Nat.reduceEqDiff, if_false, Nat.reduceAdd, show ¬ (1 : Nat) = 0 by decide, show ¬ (2 : Nat) = 0 by decide, show ¬ (3 : Nat) = 0 by decide, show ¬ (2 : Nat) = 1 by decide, show ¬ (3 : Nat) = 1 by decide, show ¬ (3 : Nat) = 2 by decide, hN, m, s00, s02, i64_of, Int64.ofInt_add, Int64.ofInt_sub, Int64.ofInt_mul, Int64.zero_mul, Int64.add_zero]
      · simp [Wy, hN, s00]
    · generalize SX a s 1 1 = d at h0 b11 c13 s11
      generalize SX a s 1 3 = p at c13 s13
      have hW : 0 < nS s * d := Int.mul_pos hN1 h0.2
      have hW2 := mul_bd (a := nS s) (b := d) (m := 12) (n := 600000000) (by omega) (by omega)
      have key := car3 (N := nS s) (d := d) (A := aS a s 3) (p := p) (q := 0) (u := nS s * y.toInt - aS a s 1) (v := 0) (by omega) n0 A3.1 A3.2 (by omega) (by omega) (by omega) (by omega) (by omega) (by omega) (by omega) (by omega)
      refine ⟨d * aS a s 3 + p * (nS s * y.toInt - aS a s 1) + 0 * 0, nS s * d, ?_, ?_, hW, by omega, key.1, key.2⟩
      · have e : d * aS a s 3 + p * (nS s * y.toInt - aS a s 1) + 0 * 0 = nS s * p * y.toInt + (d * aS a s 3 - p * aS a s 1) := by grind
        rw [e]
        simp only [abP, Wy, if_true, Nat.reduceEqDiff, if_false, Nat.reduceAdd, show ¬ (1 : Nat) = 0 by decide, show ¬ (2 : Nat) = 0 by decide, show ¬ (3 : Nat) = 0 by decide, show ¬ (2 : Nat) = 1 by decide, show ¬ (3 : Nat) = 1 by decide, show ¬ (3 : Nat) = 2 by decide, hN, m, s11, s13, i64_of, Int64.ofInt_add, Int64.ofInt_sub, Int64.ofInt_mul, Int64.zero_mul, Int64.zero_add]
      · simp [Wy, hN, s11]
