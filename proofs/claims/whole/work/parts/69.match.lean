/-! the match: least costs by sets (the class) and the first best choice (the reference) are one -/
abbrev fR (C : Nat → Int) (s o : Nat) : Prop := s.testBit o = false ∧ C o ≠ -1
def mI (C nx : Nat → Int) (s : Nat) (lost : Int) : Nat → Int
  | 0 => lost + nx s
  | k + 1 => if fR C s k then (if C k + nx (orB s k) < mI C nx s lost k then C k + nx (orB s k) else mI C nx s lost k) else mI C nx s lost k
def TI (C : Nat → Nat → Int) (no nn : Nat) (lost : Int) : Nat → Nat → Int
  | 0, _ => 0
  | d + 1, s => mI (C (no - (d + 1))) (TI C no nn lost d) s lost nn
/-- costs: not allowed, or within bounds -/
abbrev CB (C : Nat → Nat → Int) (no nn : Nat) : Prop := ∀ i, i < no → ∀ k, k < nn → C i k = -1 ∨ (0 ≤ C i k ∧ C i k ≤ 20000000)
section MI
variable {C nx : Nat → Int} {s : Nat} {lost : Int}
theorem mI_le0 : ∀ k, mI C nx s lost k ≤ lost + nx s
  | 0 => Int.le_refl _
  | k + 1 => by
    have ih := mI_le0 k
    unfold mI
    by_cases h : fR C s k
    · rw [if_pos h]
      by_cases q : C k + nx (orB s k) < mI C nx s lost k
      · rw [if_pos q]; omega
      · rw [if_neg q]; exact ih
    · rw [if_neg h]; exact ih
theorem mI_le {o : Nat} (hf : fR C s o) : ∀ k, o < k → mI C nx s lost k ≤ C o + nx (orB s o)
  | 0, h => absurd h (by omega)
  | k + 1, h => by
    unfold mI
    by_cases e : o = k
    · subst e
      rw [if_pos hf]
      by_cases q : C o + nx (orB s o) < mI C nx s lost o
      · rw [if_pos q]; exact Int.le_refl _
      · rw [if_neg q]; omega
    · have ih := mI_le hf k (by omega)
      by_cases h2 : fR C s k
      · rw [if_pos h2]
        by_cases q : C k + nx (orB s k) < mI C nx s lost k
        · rw [if_pos q]; omega
        · rw [if_neg q]; exact ih
      · rw [if_neg h2]; exact ih
theorem mI_at : ∀ k, mI C nx s lost k = lost + nx s ∨ ∃ o, o < k ∧ fR C s o ∧ mI C nx s lost k = C o + nx (orB s o)
  | 0 => Or.inl rfl
  | k + 1 => by
    have ih : mI C nx s lost k = lost + nx s ∨ ∃ o, o < k + 1 ∧ fR C s o ∧ mI C nx s lost k = C o + nx (orB s o) := by
      rcases mI_at k with h | ⟨o, h1, h2, h3⟩
      · exact Or.inl h
      · exact Or.inr ⟨o, by omega, h2, h3⟩
    unfold mI
    by_cases h2 : fR C s k
    · rw [if_pos h2]
      by_cases q : C k + nx (orB s k) < mI C nx s lost k
      · rw [if_pos q]; exact Or.inr ⟨k, by omega, h2, rfl⟩
      · rw [if_neg q]; exact ih
    · rw [if_neg h2]; exact ih
theorem mI_ge (h0 : 0 ≤ lost) (hn : ∀ s, 0 ≤ nx s) {nn : Nat} (hC : ∀ k, k < nn → C k = -1 ∨ (0 ≤ C k ∧ C k ≤ 20000000)) : 0 ≤ mI C nx s lost nn := by
  rcases mI_at (C := C) (nx := nx) (s := s) (lost := lost) nn with h | ⟨o, h1, h2, h3⟩
  · rw [h]; have := hn s; omega
  · rw [h3]
    have a := hn (orB s o)
    have b := (hC o h1).resolve_left h2.2
    omega
theorem fre_e {ap : Nat → Int32} {o : Nat} (ho : o < 31) (ha : ap o = Int32.ofInt (C o)) (hC : C o = -1 ∨ (0 ≤ C o ∧ C o ≤ 20000000)) : fre ap s o ↔ fR C s o := by
  unfold fre fR
  rw [bit_val s o ho, ha]
  have e1 : ((if s.testBit o = true then (1 : Int32) else 0) = 0) ↔ s.testBit o = false := by cases s.testBit o <;> decide
  have e2 : Int32.ofInt (C o) = -1 ↔ C o = -1 := by
    constructor
    · intro q
      have q2 := congrArg Int32.toInt q
      rw [i32_toInt (by omega) (by omega)] at q2
      exact q2
    · intro q; rw [q]; rfl
  rw [e1, e2]
theorem lf_x {ap nx32 : Nat → Int32} {l32 : Int32} (h0 : 0 ≤ lost) (h1 : lost ≤ 2000) (hl : l32 = Int32.ofInt lost) (hn : ∀ s, 0 ≤ nx s ∧ nx s ≤ 20000) (hx : ∀ s, nx32 s = Int32.ofInt (nx s)) : ∀ k, k ≤ 6 → (∀ o, o < k → ap o = Int32.ofInt (C o) ∧ (C o = -1 ∨ (0 ≤ C o ∧ C o ≤ 20000000))) → lfG ap nx32 s l32 k = Int32.ofInt (mI C nx s lost k)
  | 0, _, _ => by unfold lfG mI; rw [hl, hx, Int32.ofInt_add]
  | k + 1, hk, h => by
    have ih := lf_x h0 h1 hl hn hx k (by omega) (fun o ho => h o (by omega))
    have hk2 := h k (by omega)
    have f := fre_e (s := s) (ap := ap) (o := k) (by omega) hk2.1 hk2.2
    have b1 := mI_le0 (C := C) (nx := nx) (s := s) (lost := lost) k
    have b2 : 0 ≤ mI C nx s lost k := mI_ge h0 (fun s => (hn s).1) (fun o ho => (h o (by omega)).2)
    have b3 := hn s
    have b4 := hn (orB s k)
    unfold lfG mI
    by_cases q : fR C s k
    · have b5 := hk2.2.resolve_left q.2
      rw [if_pos q, if_pos (f.mpr q), ih, hk2.1, hx, ← Int32.ofInt_add]
      unfold mn32
      have e : Int32.ofInt (C k + nx (orB s k)) < Int32.ofInt (mI C nx s lost k) ↔ C k + nx (orB s k) < mI C nx s lost k := by
        rw [Int32.lt_iff_toInt_lt, i32_toInt (by omega) (by omega), i32_toInt (by omega) (by omega)]
      by_cases r : C k + nx (orB s k) < mI C nx s lost k
      · rw [if_pos r, if_pos (e.mpr r)]
      · rw [if_neg r, if_neg (mt e.mp r)]
    · rw [if_neg q, if_neg (mt f.mp q), ih]
end MI
/-- the first for which P holds, or the end -/
def fN (P : Nat → Prop) [DecidablePred P] (k : Nat) : Nat → Nat
  | 0 => k
  | d + 1 => if P k then k else fN P (k + 1) d
theorem fN_spec {P : Nat → Prop} [DecidablePred P] : ∀ (d k : Nat), k ≤ fN P k d ∧ fN P k d ≤ k + d ∧ (fN P k d < k + d → P (fN P k d)) ∧ ∀ o, k ≤ o → o < fN P k d → ¬ P o
  | 0, k => ⟨Nat.le_refl _, Nat.le_refl _, fun h => absurd h (Nat.lt_irrefl _), fun o h1 h2 => absurd h2 (by show ¬ o < k; omega)⟩
  | d + 1, k => by
    unfold fN
    by_cases q : P k
    · rw [if_pos q]; exact ⟨Nat.le_refl _, by omega, fun _ => q, fun o h1 h2 => absurd h2 (by omega)⟩
    · rw [if_neg q]
      obtain ⟨a, b, c, e⟩ := fN_spec (P := P) d (k + 1)
      refine ⟨by omega, by omega, fun h => c (by omega), fun o h1 h2 => ?_⟩
      by_cases r : o = k
      · subst r; exact q
      · exact e o (by omega) h2
theorem fN_fst {P : Nat → Prop} [DecidablePred P] : ∀ (d k : Nat), fstI P k d = if fN P k d < k + d then nI (fN P k d) else -5
  | 0, k => by unfold fstI fN; rw [if_neg (by omega)]
  | d + 1, k => by
    unfold fstI fN
    by_cases q : P k
    · rw [if_pos q, if_pos q, if_pos (by omega)]
    · rw [if_neg q, if_neg q, fN_fst d (k + 1), show k + 1 + d = k + (d + 1) by omega]
section DP
variable {C : Nat → Nat → Int} {no nn : Nat} {lost : Int}
theorem TI_bd (h0 : 0 ≤ lost) (h1 : lost ≤ 2000) (hC : CB C no nn) : ∀ d, d ≤ no → ∀ s, 0 ≤ TI C no nn lost d s ∧ TI C no nn lost d s ≤ 2000 * d
  | 0, _, s => by unfold TI; omega
  | d + 1, hd, s => by
    have ih := TI_bd h0 h1 hC d (by omega)
    unfold TI
    have a := mI_ge (s := s) h0 (fun s => (ih s).1) (hC (no - (d + 1)) (by omega))
    have b := mI_le0 (C := C (no - (d + 1))) (nx := TI C no nn lost d) (s := s) (lost := lost) nn
    have c := (ih s).2
    omega
theorem ls_x {AP : Nat → Nat → Int32} {l32 : Int32} (h0 : 0 ≤ lost) (h1 : lost ≤ 2000) (hl : l32 = Int32.ofInt lost) (h6 : nn ≤ 6) (h60 : no ≤ 6) (hC : CB C no nn) (hA : ∀ i, i < no → ∀ k, k < nn → AP i k = Int32.ofInt (C i k)) : ∀ d, d ≤ no → ∀ s, lsT AP no nn l32 d s = Int32.ofInt (TI C no nn lost d s)
  | 0, _, s => rfl
  | d + 1, hd, s => by
    have ih := ls_x h0 h1 hl h6 h60 hC hA d (by omega)
    unfold lsT TI
    exact lf_x h0 h1 hl (fun s => by have := TI_bd h0 h1 hC d (by omega) s; omega) ih nn h6 (fun o ho => ⟨hA _ (by omega) o ho, hC _ (by omega) o ho⟩)
/-- the digit that is given: the first that costs the least, or NONE -/
abbrev gP (C : Nat → Nat → Int) (no nn : Nat) (lost : Int) (k u o : Nat) : Prop := fR (C k) u o ∧ C k o + TI C no nn lost (no - (k + 1)) (orB u o) = TI C no nn lost (no - k) u
def gD (C : Nat → Nat → Int) (no nn : Nat) (lost : Int) (k u : Nat) : Nat := fN (gP C no nn lost k u) 0 nn
def uI (C : Nat → Nat → Int) (no nn : Nat) (lost : Int) : Nat → Nat
  | 0 => 0
  | k + 1 => if gD C no nn lost k (uI C no nn lost k) < nn then orB (uI C no nn lost k) (gD C no nn lost k (uI C no nn lost k)) else uI C no nn lost k
def gI (C : Nat → Nat → Int) (no nn : Nat) (lost : Int) (k : Nat) : Nat := gD C no nn lost k (uI C no nn lost k)
theorem gI_le {k : Nat} : gI C no nn lost k ≤ nn := by have := (fN_spec (P := gP C no nn lost k (uI C no nn lost k)) nn 0).2.1; unfold gI gD; omega
theorem FB_x {AP : Nat → Nat → Int32} {l32 : Int32} (h0 : 0 ≤ lost) (h1 : lost ≤ 2000) (hl : l32 = Int32.ofInt lost) (h6 : nn ≤ 6) (h60 : no ≤ 6) (hC : CB C no nn) (hA : ∀ i, i < no → ∀ k, k < nn → AP i k = Int32.ofInt (C i k)) {k u : Nat} (hk : k < no) : FBp AP no nn l32 k u = if gD C no nn lost k u < nn then nI (gD C no nn lost k u) else -5 := by
  have e : FBp AP no nn l32 k u = fstI (gP C no nn lost k u) 0 nn := by
    unfold FBp fbG
    refine fst_cb nn 0 (fun o _ ho => ?_)
    have ho : o < nn := by omega
    have hc := hC k hk o ho
    have f := fre_e (s := u) (ap := AP k) (C := C k) (o := o) (by omega) (hA k hk o ho) hc
    have b1 := TI_bd h0 h1 hC (no - (k + 1)) (by omega) (orB u o)
    have b2 := TI_bd h0 h1 hC (no - k) (by omega) u
    rw [f, hA k hk o ho, ls_x h0 h1 hl h6 h60 hC hA (no - (k + 1)) (by omega), ls_x h0 h1 hl h6 h60 hC hA (no - k) (by omega), ← Int32.ofInt_add]
    refine and_congr_right (fun hf => ?_)
    have hc2 := hc.resolve_left hf.2
    constructor
    · intro q
      have q2 := congrArg Int32.toInt q
      rw [i32_toInt (by omega) (by omega), i32_toInt (by omega) (by omega)] at q2
      exact q2
    · intro q; rw [q]
  rw [e, fN_fst nn 0, Nat.zero_add]
  rfl
theorem us_x {AP : Nat → Nat → Int32} {l32 : Int32} (h0 : 0 ≤ lost) (h1 : lost ≤ 2000) (hl : l32 = Int32.ofInt lost) (h6 : nn ≤ 6) (h60 : no ≤ 6) (hC : CB C no nn) (hA : ∀ i, i < no → ∀ k, k < nn → AP i k = Int32.ofInt (C i k)) : ∀ k, k ≤ no → usP AP no nn l32 k = uI C no nn lost k
  | 0, _ => rfl
  | k + 1, hk => by
    have ih := us_x h0 h1 hl h6 h60 hC hA k (by omega)
    unfold usP at ih ⊢
    unfold usG uI
    rw [ih, FB_x h0 h1 hl h6 h60 hC hA (by omega)]
    by_cases q : gD C no nn lost k (uI C no nn lost k) < nn
    · rw [if_pos q, if_pos q, if_neg (nI_ne5 (by omega)), nI_clamp (by omega)]
    · rw [if_neg q, if_neg q, if_pos rfl]
theorem gv_x {AP : Nat → Nat → Int32} {l32 : Int32} (h0 : 0 ≤ lost) (h1 : lost ≤ 2000) (hl : l32 = Int32.ofInt lost) (h6 : nn ≤ 6) (h60 : no ≤ 6) (hC : CB C no nn) (hA : ∀ i, i < no → ∀ k, k < nn → AP i k = Int32.ofInt (C i k)) {k : Nat} (hk : k < no) : gvP AP no nn l32 k = if gI C no nn lost k < nn then nI (gI C no nn lost k) else -5 := by
  unfold gvP
  rw [us_x h0 h1 hl h6 h60 hC hA k (by omega), FB_x h0 h1 hl h6 h60 hC hA hk]
  rfl
/-- a choice's sets and costs, step by step -/
def cI (C : Nat → Nat → Int) (ch : Nat → Nat) (nn : Nat) (lost : Int) : Nat → Option (Nat × Int)
  | 0 => some (0, 0)
  | k + 1 => match cI C ch nn lost k with
    | none => none
    | some q => if ch k = nn then some (q.1, q.2 + lost) else if C k (ch k) = -1 ∨ q.1.testBit (ch k) = true then none else some (orB q.1 (ch k), q.2 + C k (ch k))
variable {ch : Nat → Nat}
theorem cI_n {k : Nat} (h : cI C ch nn lost k = none) : cI C ch nn lost (k + 1) = none := by
  show (match cI C ch nn lost k with | none => none | some q => _) = none
  rw [h]
theorem cI_s {k : Nat} {q : Nat × Int} (h : cI C ch nn lost k = some q) : cI C ch nn lost (k + 1) = if ch k = nn then some (q.1, q.2 + lost) else if C k (ch k) = -1 ∨ q.1.testBit (ch k) = true then none else some (orB q.1 (ch k), q.2 + C k (ch k)) := by
  show (match cI C ch nn lost k with | none => none | some q => _) = _
  rw [h]
theorem cI_up {k : Nat} : ∀ d, cI C ch nn lost k = none → cI C ch nn lost (k + d) = none
  | 0, h => h
  | d + 1, h => cI_n (cI_up d h)
theorem cI_cg {ch' : Nat → Nat} : ∀ k, (∀ i, i < k → ch i = ch' i) → cI C ch nn lost k = cI C ch' nn lost k
  | 0, _ => rfl
  | k + 1, h => by
    have ih := cI_cg k (fun i hi => h i (by omega))
    cases hq : cI C ch' nn lost k with
    | none => rw [cI_n (ih.trans hq), cI_n hq]
    | some q => rw [cI_s (ih.trans hq), cI_s hq, h k (by omega)]
theorem cI_lb (hch : ∀ i, i < no → ch i ≤ nn) : ∀ (d k : Nat) (q q' : Nat × Int), k + d = no → cI C ch nn lost k = some q → cI C ch nn lost no = some q' → q.2 + TI C no nn lost d q.1 ≤ q'.2
  | 0, k, q, q', hk, h1, h2 => by
    rw [Nat.add_zero] at hk
    subst hk
    rw [h1] at h2
    cases h2
    unfold TI
    omega
  | d + 1, k, q, q', hk, h1, h2 => by
    have hs := cI_s h1
    have hk2 : no - (d + 1) = k := by omega
    have hc := hch k (by omega)
    by_cases e : ch k = nn
    · rw [if_pos e] at hs
      have ih := cI_lb hch d (k + 1) _ q' (by omega) hs h2
      have m := mI_le0 (C := C (no - (d + 1))) (nx := TI C no nn lost d) (s := q.1) (lost := lost) nn
      unfold TI
      simp only at ih
      omega
    · rw [if_neg e] at hs
      by_cases f : C k (ch k) = -1 ∨ q.1.testBit (ch k) = true
      · rw [if_pos f] at hs
        have := cI_up d hs
        rw [show k + 1 + d = no by omega, h2] at this
        cases this
      · rw [if_neg f] at hs
        have ih := cI_lb hch d (k + 1) _ q' (by omega) hs h2
        have f2 := not_or.mp f
        have hf : fR (C (no - (d + 1))) q.1 (ch k) := by rw [hk2]; exact ⟨by simpa using f2.2, f2.1⟩
        have m := mI_le (nx := TI C no nn lost d) (lost := lost) hf nn (by omega)
        unfold TI
        simp only at ih
        rw [hk2] at m ⊢
        omega
theorem cI_gr : ∀ k, k ≤ no → ∃ c, cI C (gI C no nn lost) nn lost k = some (uI C no nn lost k, c) ∧ c + TI C no nn lost (no - k) (uI C no nn lost k) = TI C no nn lost no 0
  | 0, _ => ⟨0, rfl, by rw [Nat.sub_zero]; show 0 + TI C no nn lost no 0 = _; omega⟩
  | k + 1, hk => by
    obtain ⟨c, h1, h2⟩ := cI_gr k (by omega)
    have hs := cI_s h1
    obtain ⟨-, g2, g3, g4⟩ := fN_spec (P := gP C no nn lost k (uI C no nn lost k)) nn 0
    rw [Nat.zero_add] at g2 g3
    have eg : gI C no nn lost k = fN (gP C no nn lost k (uI C no nn lost k)) 0 nn := rfl
    have eu : uI C no nn lost (k + 1) = if gI C no nn lost k < nn then orB (uI C no nn lost k) (gI C no nn lost k) else uI C no nn lost k := rfl
    rw [← eg] at g2 g3 g4
    by_cases q : gI C no nn lost k < nn
    · obtain ⟨p1, p2⟩ := g3 q
      rw [if_neg (by omega), if_neg (fun w => w.elim p1.2 (fun w => absurd (p1.1.symm.trans w) (by decide)))] at hs
      refine ⟨c + C k (gI C no nn lost k), by rw [hs, eu, if_pos q], ?_⟩
      rw [eu, if_pos q]
      omega
    · have e : gI C no nn lost k = nn := by omega
      rw [if_pos e] at hs
      refine ⟨c + lost, by rw [hs, eu, if_neg q], ?_⟩
      rw [eu, if_neg q]
      obtain ⟨d, hd⟩ : ∃ d, no - k = d + 1 := ⟨no - k - 1, by omega⟩
      have hd2 : no - (k + 1) = d := by omega
      have hk2 : no - (d + 1) = k := by omega
      have et : TI C no nn lost (no - k) (uI C no nn lost k) = lost + TI C no nn lost d (uI C no nn lost k) := by
        rw [hd]
        rcases mI_at (C := C (no - (d + 1))) (nx := TI C no nn lost d) (s := uI C no nn lost k) (lost := lost) nn with w | ⟨o, o1, o2, o3⟩
        · exact w
        · exfalso
          refine g4 o (Nat.zero_le _) (by omega) ⟨by rw [hk2] at o2; exact o2, ?_⟩
          rw [hd2, hd]
          rw [hk2] at o3
          show _ = mI (C (no - (d + 1))) (TI C no nn lost d) (uI C no nn lost k) lost nn
          rw [hk2]
          exact o3.symm
      rw [hd2]
      omega
theorem cI_bd (h0 : 0 ≤ lost) (h1 : lost ≤ 2000) (hC : CB C no nn) (hch : ∀ i, i < no → ch i ≤ nn) : ∀ k, k ≤ no → ∀ q, cI C ch nn lost k = some q → 0 ≤ q.2 ∧ q.2 ≤ 20002000 * k
  | 0, _, q, h => by
    have h : some ((0 : Nat), (0 : Int)) = some q := h
    cases h
    simp
  | k + 1, hk, q, h => by
    cases hq : cI C ch nn lost k with
    | none => rw [cI_n hq] at h; cases h
    | some p =>
      have ih := cI_bd h0 h1 hC hch k (by omega) p hq
      have hc := hch k (by omega)
      rw [cI_s hq] at h
      by_cases e : ch k = nn
      · rw [if_pos e] at h; cases h; simp only; omega
      · rw [if_neg e] at h
        by_cases f : C k (ch k) = -1 ∨ p.1.testBit (ch k) = true
        · rw [if_pos f] at h; cases h
        · rw [if_neg f] at h
          have b := (hC k (by omega) (ch k) (by omega)).resolve_left (not_or.mp f).1
          cases h; simp only; omega
end DP
