/-! the codes of choices, the first best of them, and the costs of both -/
def enc (B : Nat) (g : Nat → Nat) : Nat → Nat
  | 0 => 0
  | k + 1 => enc B g k * B + g k
theorem dg_up {B no v i : Nat} (hB : 0 < B) (hi : i < no) : dg B (no + 1) v i = dg B no (v / B) i := by
  unfold dg
  rw [show no + 1 - 1 - i = (no - 1 - i) + 1 by omega, Nat.pow_succ, Nat.mul_comm, ← Nat.div_div_eq_div_mul]
theorem dg_last {B no v : Nat} : dg B (no + 1) v no = v % B := by
  unfold dg
  rw [show no + 1 - 1 - no = 0 by omega, Nat.pow_zero, Nat.div_one]
theorem enc_lt {B : Nat} {g : Nat → Nat} : ∀ no, (∀ i, i < no → g i < B) → enc B g no < B ^ no
  | 0, _ => by unfold enc; simp
  | no + 1, h => by
    have ih := enc_lt no (fun i hi => h i (by omega))
    have hl := h no (by omega)
    unfold enc
    rw [Nat.pow_succ]
    have : (enc B g no + 1) * B ≤ B ^ no * B := Nat.mul_le_mul_right B ih
    rw [Nat.add_mul] at this
    omega
theorem enc_dg {B : Nat} {g : Nat → Nat} : ∀ no, (∀ i, i < no → g i < B) → ∀ i, i < no → dg B no (enc B g no) i = g i
  | 0, _, i, hi => absurd hi (by omega)
  | no + 1, h, i, hi => by
    have hl := h no (by omega)
    have hB : 0 < B := by omega
    by_cases e : i = no
    · subst e
      rw [dg_last]
      unfold enc
      rw [Nat.mul_comm, Nat.mul_add_mod, Nat.mod_eq_of_lt hl]
    · rw [dg_up hB (by omega)]
      have e2 : enc B g (no + 1) / B = enc B g no := by
        show (enc B g no * B + g no) / B = enc B g no
        rw [Nat.mul_comm, Nat.mul_add_div hB, Nat.div_eq_of_lt hl, Nat.add_zero]
      rw [e2]
      exact enc_dg no (fun i hi => h i (by omega)) i (by omega)
theorem dg_lex {B : Nat} (hB : 0 < B) : ∀ (no v w : Nat), w < v → v < B ^ no → ∃ e, e < no ∧ (∀ i, i < e → dg B no w i = dg B no v i) ∧ dg B no w e < dg B no v e
  | 0, v, w, h1, h2 => by simp at h2; omega
  | no + 1, v, w, h1, h2 => by
    have dv : v / B < B ^ no := by
      rw [Nat.pow_succ] at h2
      exact Nat.div_lt_of_lt_mul (by rw [Nat.mul_comm]; exact h2)
    by_cases q : w / B = v / B
    · refine ⟨no, by omega, fun i hi => ?_, ?_⟩
      · rw [dg_up hB hi, dg_up hB hi, q]
      · rw [dg_last, dg_last]
        have a := Nat.div_add_mod w B
        have b := Nat.div_add_mod v B
        rw [q] at a
        omega
    · have hlt : w / B < v / B := by
        have := Nat.div_le_div_right (c := B) (Nat.le_of_lt h1)
        omega
      obtain ⟨e, e1, e2, e3⟩ := dg_lex hB no (v / B) (w / B) hlt dv
      refine ⟨e, by omega, fun i hi => ?_, ?_⟩
      · rw [dg_up hB (by omega), dg_up hB (by omega)]; exact e2 i hi
      · rw [dg_up hB (by omega), dg_up hB (by omega)]; exact e3
theorem bf_lo {cost : Nat → Int64} {c : Int64} : ∀ V, (∀ w, w < V → cost w < 0 ∨ c < cost w) → (bfold cost V).1 < 0 ∨ c < (bfold cost V).1
  | 0, _ => Or.inl (by show (-1 : Int64) < 0; decide)
  | V + 1, h => by
    have ih := bf_lo V (fun w hw => h w (by omega))
    unfold bfold
    by_cases q : 0 ≤ cost V ∧ ((bfold cost V).1 < 0 ∨ cost V < (bfold cost V).1)
    · rw [if_pos q]; exact h V (by omega)
    · rw [if_neg q]; exact ih
theorem bf_at {cost : Nat → Int64} {c : Int64} {v : Nat} (hc : cost v = c) (h0 : 0 ≤ c) (hlo : ∀ w, w < v → cost w < 0 ∨ c < cost w) : ∀ d, (∀ w, v < w → w < v + 1 + d → cost w < 0 ∨ c ≤ cost w) → bfold cost (v + 1 + d) = (c, v)
  | 0, _ => by
    rw [Nat.add_zero]
    unfold bfold
    rw [hc, if_pos ⟨h0, bf_lo v hlo⟩]
  | d + 1, h => by
    have ih := bf_at hc h0 hlo d (fun w h1 h2 => h w h1 (by omega))
    have hw := h (v + 1 + d) (by omega) (by omega)
    show bfold cost (v + 1 + d + 1) = _
    unfold bfold
    rw [ih, if_neg]
    rintro ⟨q1, q2⟩
    simp only [Int64.lt_iff_toInt_lt, Int64.le_iff_toInt_le] at hw q1 q2 h0
    have z : (0 : Int64).toInt = 0 := rfl
    rw [z] at hw q1 q2 h0
    omega
section MX
variable {C : Nat → Nat → Int} {no nn : Nat} {lost : Int} {C64 : Nat → Nat → Int64} {l64 : Int64}
theorem cc_x (h6 : nn ≤ 6) (hl : l64 = Int64.ofInt lost) (hC : CB C no nn) (hA : ∀ i, i < no → ∀ k, k < nn → C64 i k = Int64.ofInt (C i k)) {ch : Nat → Nat} (hch : ∀ i, i < no → ch i ≤ nn) : ∀ k, k ≤ no → ccS C64 ch nn l64 k = (cI C ch nn lost k).map (fun q => (q.1, Int64.ofInt q.2))
  | 0, _ => rfl
  | k + 1, hk => by
    have ih := cc_x h6 hl hC hA hch k (by omega)
    have hc := hch k (by omega)
    unfold ccS
    rw [ih]
    cases hq : cI C ch nn lost k with
    | none => rw [cI_n hq]; rfl
    | some q =>
      rw [cI_s hq]
      show (if ch k = nn then some (q.1, Int64.ofInt q.2 + l64) else if C64 k (ch k) < 0 ∨ bitOn (nI q.1) (ch k) then none else some (orB q.1 (ch k), Int64.ofInt q.2 + C64 k (ch k))) = _
      by_cases e : ch k = nn
      · rw [if_pos e, if_pos e, hl, ← Int64.ofInt_add]; rfl
      · rw [if_neg e, if_neg e]
        have hb := hC k (by omega) (ch k) (by omega)
        have ha := hA k (by omega) (ch k) (by omega)
        have e1 : C64 k (ch k) < 0 ↔ C k (ch k) = -1 := by
          rw [ha, lt64, i64_toInt (by omega) (by omega), zero64]
          omega
        have e2 : bitOn (nI q.1) (ch k) ↔ q.1.testBit (ch k) = true := by
          unfold bitOn
          rw [bit_val q.1 (ch k) (by omega)]
          cases q.1.testBit (ch k) <;> decide
        by_cases f : C k (ch k) = -1 ∨ q.1.testBit (ch k) = true
        · rw [if_pos f, if_pos (f.imp e1.mpr e2.mpr)]; rfl
        · rw [if_neg f, if_neg (fun w => f (w.imp e1.mp e2.mp)), ha, ← Int64.ofInt_add]; rfl
theorem ccR_x (h6 : nn ≤ 6) (hl : l64 = Int64.ofInt lost) (hC : CB C no nn) (hA : ∀ i, i < no → ∀ k, k < nn → C64 i k = Int64.ofInt (C i k)) {ch : Nat → Nat} (hch : ∀ i, i < no → ch i ≤ nn) : (cI C ch nn lost no = none ∧ ccR C64 ch nn l64 no = -1) ∨ ∃ q, cI C ch nn lost no = some q ∧ ccR C64 ch nn l64 no = Int64.ofInt q.2 := by
  unfold ccR
  rw [cc_x h6 hl hC hA hch no (Nat.le_refl _)]
  cases hq : cI C ch nn lost no with
  | none => exact Or.inl ⟨rfl, rfl⟩
  | some q => exact Or.inr ⟨q, rfl, rfl⟩
theorem best_x (h0 : 0 ≤ lost) (h1 : lost ≤ 2000) (h6 : nn ≤ 6) (h60 : no ≤ 6) (hl : l64 = Int64.ofInt lost) (hC : CB C no nn) (hA : ∀ i, i < no → ∀ k, k < nn → C64 i k = Int64.ofInt (C i k)) : bfold (fun v => ccR C64 (dg (nn + 1) no v) nn l64 no) ((nn + 1) ^ no) = (Int64.ofInt (TI C no nn lost no 0), enc (nn + 1) (gI C no nn lost) no) := by
  have hB : 0 < nn + 1 := by omega
  have hg : ∀ i, i < no → gI C no nn lost i < nn + 1 := fun i _ => Nat.lt_succ_of_le gI_le
  have hv := enc_lt no hg
  have hd := enc_dg no hg
  have T := TI_bd h0 h1 hC no (Nat.le_refl _) 0
  obtain ⟨c, g1, g2⟩ := cI_gr (C := C) (no := no) (nn := nn) (lost := lost) no (Nat.le_refl _)
  have hdl : ∀ w i, i < no → dg (nn + 1) no w i ≤ nn := fun w i _ => Nat.le_of_lt_succ (dg_lt hB)
  have hcost : (fun v => ccR C64 (dg (nn + 1) no v) nn l64 no) (enc (nn + 1) (gI C no nn lost) no) = Int64.ofInt (TI C no nn lost no 0) := by
    have e := cI_cg (C := C) (nn := nn) (lost := lost) (ch := dg (nn + 1) no (enc (nn + 1) (gI C no nn lost) no)) (ch' := gI C no nn lost) no hd
    rw [g1] at e
    rcases ccR_x h6 hl hC hA (hdl (enc (nn + 1) (gI C no nn lost) no)) with ⟨a, -⟩ | ⟨q, a, b⟩
    · rw [a] at e; cases e
    · show ccR C64 (dg (nn + 1) no (enc (nn + 1) (gI C no nn lost) no)) nn l64 no = _
      rw [b]
      rw [a] at e
      cases e
      have : TI C no nn lost (no - no) (uI C no nn lost no) = 0 := by rw [Nat.sub_self]; rfl
      rw [this] at g2
      congr 1
      simp only
      omega
  have hpos : (0 : Int64) ≤ Int64.ofInt (TI C no nn lost no 0) := by rw [le64, zero64, i64_toInt (by omega) (by omega)]; omega
  have hge : ∀ w, (fun v => ccR C64 (dg (nn + 1) no v) nn l64 no) w < 0 ∨ Int64.ofInt (TI C no nn lost no 0) ≤ (fun v => ccR C64 (dg (nn + 1) no v) nn l64 no) w := fun w => by
    show ccR C64 (dg (nn + 1) no w) nn l64 no < 0 ∨ _ ≤ ccR C64 (dg (nn + 1) no w) nn l64 no
    rcases ccR_x h6 hl hC hA (hdl w) with ⟨-, b⟩ | ⟨q, a, b⟩
    · rw [b]; exact Or.inl (by decide)
    · have lb := cI_lb (hdl w) no 0 (0, 0) q (by omega) rfl a
      have bd := cI_bd h0 h1 hC (hdl w) no (Nat.le_refl _) q a
      rw [b]
      refine Or.inr ?_
      rw [le64, i64_toInt (by omega) (by omega), i64_toInt (by omega) (by omega)]
      simp only at lb
      omega
  have hlo : ∀ w, w < enc (nn + 1) (gI C no nn lost) no → (fun v => ccR C64 (dg (nn + 1) no v) nn l64 no) w < 0 ∨ Int64.ofInt (TI C no nn lost no 0) < (fun v => ccR C64 (dg (nn + 1) no v) nn l64 no) w := fun w hw => by
    show ccR C64 (dg (nn + 1) no w) nn l64 no < 0 ∨ _ < ccR C64 (dg (nn + 1) no w) nn l64 no
    rcases ccR_x h6 hl hC hA (hdl w) with ⟨-, b⟩ | ⟨q, a, b⟩
    · rw [b]; exact Or.inl (by decide)
    · have bd := cI_bd h0 h1 hC (hdl w) no (Nat.le_refl _) q a
      obtain ⟨e, e1, e2, e3⟩ := dg_lex hB no _ w hw hv
      obtain ⟨ce, k1, k2⟩ := cI_gr (C := C) (no := no) (nn := nn) (lost := lost) e (by omega)
      have ec : cI C (dg (nn + 1) no w) nn lost e = some (uI C no nn lost e, ce) := by
        rw [cI_cg (ch' := gI C no nn lost) e (fun i hi => by rw [e2 i hi]; exact hd i (by omega))]
        exact k1
      have hlt : dg (nn + 1) no w e < gI C no nn lost e := by rw [hd e e1] at e3; exact e3
      have hle : gI C no nn lost e ≤ nn := gI_le
      have hs := cI_s ec
      rw [if_neg (by omega)] at hs
      by_cases f : C e (dg (nn + 1) no w e) = -1 ∨ (uI C no nn lost e).testBit (dg (nn + 1) no w e) = true
      · rw [if_pos f] at hs
        have z := cI_up (no - (e + 1)) hs
        rw [show e + 1 + (no - (e + 1)) = no by omega, a] at z
        cases z
      · rw [if_neg f] at hs
        have lb := cI_lb (hdl w) (no - (e + 1)) (e + 1) _ q (by omega) hs a
        have f2 := not_or.mp f
        have hf : fR (C e) (uI C no nn lost e) (dg (nn + 1) no w e) := ⟨by simpa using f2.2, f2.1⟩
        have hn := (fN_spec (P := gP C no nn lost e (uI C no nn lost e)) nn 0).2.2.2 (dg (nn + 1) no w e) (Nat.zero_le _) hlt
        have hne : C e (dg (nn + 1) no w e) + TI C no nn lost (no - (e + 1)) (orB (uI C no nn lost e) (dg (nn + 1) no w e)) ≠ TI C no nn lost (no - e) (uI C no nn lost e) := fun z => hn ⟨hf, z⟩
        have hmin : TI C no nn lost (no - e) (uI C no nn lost e) ≤ C e (dg (nn + 1) no w e) + TI C no nn lost (no - (e + 1)) (orB (uI C no nn lost e) (dg (nn + 1) no w e)) := by
          obtain ⟨d, hd⟩ : ∃ d, no - e = d + 1 := ⟨no - e - 1, by omega⟩
          rw [hd, show no - (e + 1) = d by omega]
          show mI (C (no - (d + 1))) (TI C no nn lost d) (uI C no nn lost e) lost nn ≤ _
          rw [show no - (d + 1) = e by omega]
          exact mI_le hf nn (by omega)
        rw [b]
        refine Or.inr ?_
        rw [lt64, i64_toInt (by omega) (by omega), i64_toInt (by omega) (by omega)]
        simp only at lb
        omega
  obtain ⟨d, hdd⟩ : ∃ d, (nn + 1) ^ no = enc (nn + 1) (gI C no nn lost) no + 1 + d := ⟨(nn + 1) ^ no - (enc (nn + 1) (gI C no nn lost) no + 1), by omega⟩
  rw [hdd]
  exact bf_at (cost := fun v => ccR C64 (dg (nn + 1) no v) nn l64 no) hcost hpos hlo d (fun w _ _ => hge w)
end MX
theorem fd_fl {a b : Int64} (hb : 0 < b) : fdiv a b = flM a b := by
  have h0 := lt64.mp hb
  rw [zero64] at h0
  have er := rem64_toInt a b
  have b1 := b.toInt_lt
  unfold fdiv flM
  have hx : 0 ≤ a ^^^ b ↔ 0 ≤ a := by
    have e1 : ∀ y : Int64, 0 ≤ y ↔ y.toBitVec.msb = false := fun y => by
      rw [BitVec.msb_eq_toInt, le64, zero64]
      show _ ↔ decide (y.toInt < 0) = false
      rw [decide_eq_false_iff_not]
      omega
    have hb2 : b.toBitVec.msb = false := (e1 b).mp (Int64.le_of_lt hb)
    rw [e1, e1, Int64.toBitVec_xor, BitVec.msb_xor, hb2, Bool.xor_false]
  have hr : (0 ≤ a - a / b * b) ↔ 0 ≤ a.toInt.tmod b.toInt := by rw [le64, zero64, er]
  by_cases h : 0 ≤ a
  · have h2 : 0 ≤ a.toInt.tmod b.toInt := Int.tmod_nonneg _ (by rw [le64, zero64] at h; exact h)
    rw [if_pos (hx.mpr h), if_pos (hr.mpr h2)]
  · rw [if_neg (mt hx.mp h)]
    have h3 : a.toInt < 0 := by rw [le64, zero64] at h; omega
    have h4 : a.toInt.tmod b.toInt ≤ 0 := by
      have := Int.tmod_nonneg (a := -a.toInt) b.toInt (by omega)
      rw [Int.neg_tmod] at this
      omega
    have key : a / b * b = a ↔ 0 ≤ a - a / b * b := by
      rw [hr]
      constructor
      · intro q
        have : (a - a / b * b).toInt = 0 := by rw [q, Int64.sub_self]; rfl
        rw [er] at this
        omega
      · intro q
        have z : (a - a / b * b).toInt = (0 : Int64).toInt := by rw [er, zero64]; omega
        have z2 := Int64.toInt_inj.mp z
        have : a = a / b * b := by
          have e : a = (a - a / b * b) + a / b * b := by rw [Int64.sub_add_cancel]
          rw [z2, Int64.zero_add] at e
          exact e
        exact this.symm
    by_cases q : a / b * b = a
    · rw [if_pos q, if_pos (key.mp q)]
    · rw [if_neg q, if_neg (mt key.mpr q)]
/-- a rounded place lies near -/
theorem fl_bd {Z W : Int} (h1 : 0 < W) (h2 : W ≤ 7200000000) (h3 : -(8001000 * W) ≤ Z) (h4 : Z ≤ 8001000 * W) : ∃ R : Int, flM (2 * Int64.ofInt Z + Int64.ofInt W) (2 * Int64.ofInt W) = Int64.ofInt R ∧ -8001002 ≤ R ∧ R ≤ 8001002 := by
  have e1 : (2 : Int64) * Int64.ofInt Z + Int64.ofInt W = Int64.ofInt (2 * Z + W) := by rw [show (2 : Int64) = Int64.ofInt 2 from rfl, ← Int64.ofInt_mul, ← Int64.ofInt_add]
  have e2 : (2 : Int64) * Int64.ofInt W = Int64.ofInt (2 * W) := by rw [show (2 : Int64) = Int64.ofInt 2 from rfl, ← Int64.ofInt_mul]
  rw [e1, e2]
  have v1 := i64_toInt (E := 2 * Z + W) (by omega) (by omega)
  have v2 := i64_toInt (E := 2 * W) (by omega) (by omega)
  have hne : Int64.ofInt (2 * Z + W) ≠ Int64.minValue := fun q => by
    have q2 := congrArg Int64.toInt q
    rw [v1] at q2
    have : (Int64.minValue).toInt = -9223372036854775808 := rfl
    omega
  have ed : (Int64.ofInt (2 * Z + W) / Int64.ofInt (2 * W)).toInt = (2 * Z + W).tdiv (2 * W) := by rw [Int64.toInt_div_of_ne_left _ _ hne, v1, v2]
  have hq : ((2 * Z + W).tdiv (2 * W)).natAbs ≤ 8001001 := by
    rw [Int.natAbs_tdiv]
    refine Nat.div_le_of_le_mul ?_
    omega
  have e3 : Int64.ofInt (2 * Z + W) / Int64.ofInt (2 * W) = Int64.ofInt ((2 * Z + W).tdiv (2 * W)) := by
    apply Int64.toInt_inj.mp
    rw [ed, i64_toInt (by omega) (by omega)]
  unfold flM
  rw [e3]
  split
  · exact ⟨_, rfl, by omega, by omega⟩
  · refine ⟨(2 * Z + W).tdiv (2 * W) - 1, ?_, by omega, by omega⟩
    rw [Int64.ofInt_sub]; rfl
