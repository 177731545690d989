/-! loops, and compares of numbers that are naturals -/
theorem x_loe {Γ : hG} {G : hQ} {pc : Nat} {lo lo' : List (Nat × Value)} {st : List Value} {I : hI} {J : hJ} (h : lo = lo') (k : h_WW Γ G pc lo' st I J) : h_WW Γ G pc lo st I J := h ▸ k
theorem loopU {P : Nat → Prop} (N : Nat) (step : ∀ k, k ≤ N → (k < N → P (k + 1)) → P k) : ∀ k, k ≤ N → P k := by
  have key : ∀ d k, k + d = N → P k := by
    intro d
    induction d with
    | zero => intro k h; exact step k (by omega) (fun h2 => absurd h2 (by omega))
    | succ d ih => intro k h; exact step k (by omega) (fun _ => ih (k + 1) (by omega))
  intro k hk
  exact key (N - k) k (by omega)
theorem cI_le {x y : Int32} {a b : Nat} (hx : x = nI a) (hy : y = nI b) (ha : a < 2 ^ 31) (hb : b < 2 ^ 31) (h : x ≤ y) : a ≤ b := by subst hx; subst hy; exact (nI_leI ha hb).mp h
theorem cI_nle {x y : Int32} {a b : Nat} (hx : x = nI a) (hy : y = nI b) (ha : a < 2 ^ 31) (hb : b < 2 ^ 31) (h : ¬ x ≤ y) : b < a := by subst hx; subst hy; exact Nat.not_le.mp (mt (nI_leI ha hb).mpr h)
theorem cI_lt {x y : Int32} {a b : Nat} (hx : x = nI a) (hy : y = nI b) (ha : a < 2 ^ 31) (hb : b < 2 ^ 31) (h : x < y) : a < b := by subst hx; subst hy; exact (nI_ltI ha hb).mp h
theorem cI_nlt {x y : Int32} {a b : Nat} (hx : x = nI a) (hy : y = nI b) (ha : a < 2 ^ 31) (hb : b < 2 ^ 31) (h : ¬ x < y) : b ≤ a := by subst hx; subst hy; exact Nat.not_lt.mp (mt (nI_ltI ha hb).mpr h)
theorem cI_eq {x y : Int32} {a b : Nat} (hx : x = nI a) (hy : y = nI b) (ha : a < 2 ^ 31) (hb : b < 2 ^ 31) (h : x = y) : a = b := by subst hx; subst hy; exact (nI_eq ha hb).mp h
theorem cI_ne {x y : Int32} {a b : Nat} (hx : x = nI a) (hy : y = nI b) (ha : a < 2 ^ 31) (hb : b < 2 ^ 31) (h : ¬ x = y) : a ≠ b := by subst hx; subst hy; exact mt (nI_eq ha hb).mpr h
/-- the first k of f together -/
def sumTo (f : Nat → Int64) : Nat → Int64
  | 0 => 0
  | k + 1 => sumTo f k + f k
theorem nI_div {a b : Nat} (ha : a < 2 ^ 31) (hb : b < 2 ^ 31) : nI a / nI b = nI (a / b) := by
  have hd : a / b ≤ a := Nat.div_le_self a b
  apply Int32.toInt_inj.mp
  rw [Int32.toInt_div, nI_toInt ha, nI_toInt hb, nI_toInt (Nat.lt_of_le_of_lt hd ha), Int.tdiv_eq_ediv_of_nonneg (by omega)]
  have e : ((a : Int) / (b : Int)) = ((a / b : Nat) : Int) := by simp
  rw [e]
  generalize a / b = q at hd ⊢
  apply Int.bmod_eq_of_le <;> omega
theorem nI_remE {x y : Int32} {a b : Nat} (hx : x = nI a) (hy : y = nI b) (ha : a < 2 ^ 31) (hb : b < 2 ^ 31) : x - x / y * y = nI (a % b) := by
  subst hx; subst hy
  rw [nI_div ha hb, nI_mul, nI_sub (Nat.div_mul_le_self a b)]
  congr 1
  have := Nat.div_add_mod a b
  rw [Nat.mul_comm] at this
  omega
/-- the first k of f together, ints -/
def sumI (f : Nat → Int32) : Nat → Int32
  | 0 => 0
  | k + 1 => sumI f k + f k
/-- the first from k on, of d many, for which P holds; NONE if there is none -/
def fstI (P : Nat → Prop) [DecidablePred P] (k : Nat) : Nat → Int32
  | 0 => -5
  | d + 1 => if P k then nI k else fstI P (k + 1) d
theorem fstI_t {P : Nat → Prop} [DecidablePred P] {k n : Nat} (h : k < n) (p : P k) : fstI P k (n - k) = nI k := by
  obtain ⟨d, hd⟩ : ∃ d, n - k = d + 1 := ⟨n - k - 1, by omega⟩
  rw [hd]
  exact if_pos p
theorem fstI_f {P : Nat → Prop} [DecidablePred P] {k n : Nat} (h : k < n) (p : ¬ P k) : fstI P k (n - k) = fstI P (k + 1) (n - (k + 1)) := by
  obtain ⟨d, hd⟩ : ∃ d, n - k = d + 1 := ⟨n - k - 1, by omega⟩
  rw [hd, show n - (k + 1) = d by omega]
  exact if_neg p
theorem fstI_e {P : Nat → Prop} [DecidablePred P] {k n : Nat} (h : n ≤ k) : fstI P k (n - k) = -5 := by
  rw [show n - k = 0 by omega]
  rfl
def ab32 (x : Int32) : Int32 := if 0 ≤ x then x else 0 - x
def ab64 (x : Int64) : Int64 := if 0 < x then x else -x
def mn32 (x y : Int32) : Int32 := if y < x then y else x
theorem y_absl {Γ : hG} {G : hQ} {l : Launch} {nL : Nat} {cc : ByteArray} {Ts : List Cond} {own : String} {fr lc pc : Nat} {lo : List (Nat × Value)} {st : List Value} {I : hI} {J : hJ} (K : h_C Γ G l nL cc Ts own fr lc) {index : Nat} (hlink : Cond.methodLink own index Lib.MathLoose.abs_long.x ∈ Ts) (hstat : Cond.static Lib.MathLoose.abs_long.x ∈ Ts) (hini : Cond.initialized "java/lang/Math" ∈ Ts) (hcode : Cond.code Lib.MathLoose.abs_long.x Lib.MathLoose.abs_long.code 2 (some .long) ∈ Ts) (hfr : 1 ≤ fr) (hlc : (st.map fun v => v.category).sum + 13 ≤ lc) {x : Int64} (hdg : decode cc pc = .ok (.invokestatic index, 3)) (kk : h_WW Γ G (pc + 3) lo (.long (ab64 x) :: st) I J) : h_WW Γ G pc lo (.long x :: st) I J := fun H locs ls a b c d => va_mabs_long K.1 K.2.1 (K.2.2.1.trans d.1.symm) K.2.2.2.1 (K.2.2.2.2.1 _ hlink) (K.2.2.2.2.1 _ hstat) (K.2.2.2.2.1 _ hini) (K.2.2.2.2.1 _ hcode) (Nat.le_trans hfr K.2.2.2.2.2.2.2.1) (Nat.le_trans hlc K.2.2.2.2.2.2.2.2.1) K.2.2.2.2.2.2.2.2.2.1 K.2.2.2.2.2.2.2.2.2.2.1 hdg (kk H locs ls a b c d)
theorem y_absi {Γ : hG} {G : hQ} {l : Launch} {nL : Nat} {cc : ByteArray} {Ts : List Cond} {own : String} {fr lc pc : Nat} {lo : List (Nat × Value)} {st : List Value} {I : hI} {J : hJ} (K : h_C Γ G l nL cc Ts own fr lc) {index : Nat} (hlink : Cond.methodLink own index Lib.Math.abs.name ∈ Ts) (hstat : Cond.static Lib.Math.abs.name ∈ Ts) (hini : Cond.initialized "java/lang/Math" ∈ Ts) (hcode : Cond.code Lib.Math.abs.name Lib.Math.abs.code 1 (some .int) ∈ Ts) (hfr : 1 ≤ fr) (hlc : (st.map fun v => v.category).sum + 13 ≤ lc) {x : Int32} (hdg : decode cc pc = .ok (.invokestatic index, 3)) (kk : h_WW Γ G (pc + 3) lo (.int (ab32 x) :: st) I J) : h_WW Γ G pc lo (.int x :: st) I J := fun H locs ls a b c d => va_mabs K.1 K.2.1 (K.2.2.1.trans d.1.symm) K.2.2.2.1 (K.2.2.2.2.1 _ hlink) (K.2.2.2.2.1 _ hstat) (K.2.2.2.2.1 _ hini) (K.2.2.2.2.1 _ hcode) (Nat.le_trans hfr K.2.2.2.2.2.2.2.1) (Nat.le_trans hlc K.2.2.2.2.2.2.2.2.1) K.2.2.2.2.2.2.2.2.2.1 K.2.2.2.2.2.2.2.2.2.2.1 hdg (kk H locs ls a b c d)
theorem y_mini {Γ : hG} {G : hQ} {l : Launch} {nL : Nat} {cc : ByteArray} {Ts : List Cond} {own : String} {fr lc pc : Nat} {lo : List (Nat × Value)} {st : List Value} {I : hI} {J : hJ} (K : h_C Γ G l nL cc Ts own fr lc) {index : Nat} (hlink : Cond.methodLink own index Lib.Math.min.name ∈ Ts) (hstat : Cond.static Lib.Math.min.name ∈ Ts) (hini : Cond.initialized "java/lang/Math" ∈ Ts) (hcode : Cond.code Lib.Math.min.name Lib.Math.min.code 2 (some .int) ∈ Ts) (hfr : 1 ≤ fr) (hlc : (st.map fun v => v.category).sum + 13 ≤ lc) {x y : Int32} (hdg : decode cc pc = .ok (.invokestatic index, 3)) (kk : h_WW Γ G (pc + 3) lo (.int (mn32 x y) :: st) I J) : h_WW Γ G pc lo (.int y :: .int x :: st) I J := fun H locs ls a b c d => va_mmin K.1 K.2.1 (K.2.2.1.trans d.1.symm) K.2.2.2.1 (K.2.2.2.2.1 _ hlink) (K.2.2.2.2.1 _ hstat) (K.2.2.2.2.1 _ hini) (K.2.2.2.2.1 _ hcode) (Nat.le_trans hfr K.2.2.2.2.2.2.2.1) (Nat.le_trans hlc K.2.2.2.2.2.2.2.2.1) K.2.2.2.2.2.2.2.2.2.1 K.2.2.2.2.2.2.2.2.2.2.1 hdg (kk H locs ls a b c d)
