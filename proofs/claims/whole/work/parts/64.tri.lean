/-! signs; the triangles of the class and of the reference -/
theorem bt31 (x : Int32) : bt x 31 = decide (x < 0) := by
  have h := BitVec.msb_eq_toInt (x := x.toBitVec)
  rw [BitVec.msb_eq_getLsbD_last] at h
  have e : (x < 0) ↔ x.toBitVec.toInt < 0 := Int32.lt_iff_toInt_lt
  unfold bt
  simp only [e]
  exact h
theorem neg_i {x : Int32} (h : x.toInt ≠ -2147483648) : (-x).toInt = -x.toInt := by
  have h1 := x.le_toInt
  have h2 := x.toInt_lt
  rw [Int32.toInt_neg]
  exact Int.bmod_eq_of_le (by omega) (by omega)
theorem lt32 {x y : Int32} : x < y ↔ x.toInt < y.toInt := Int32.lt_iff_toInt_lt
theorem le32 {x y : Int32} : x ≤ y ↔ x.toInt ≤ y.toInt := Int32.le_iff_toInt_le
theorem zero32 : (0 : Int32).toInt = 0 := rfl
theorem eq32 {x : Int32} : x = 0 ↔ x.toInt = 0 := by rw [← Int32.toInt_inj, zero32]
/-- a number that a side may have -/
abbrev Sm (s : Int32) : Prop := -8000000 ≤ s.toInt ∧ s.toInt ≤ 8000000
theorem p64 {w s : Int32} (hw : Sm w) (hs : Sm s) : (w.toInt64 * s.toInt64).toInt = w.toInt * s.toInt := by
  have b := mul_bd (a := w.toInt) (b := s.toInt) (m := 8000000) (n := 8000000) (by omega) (by omega)
  have e : w.toInt64 * s.toInt64 = Int64.ofInt (w.toInt * s.toInt) := by simp only [i64_of, Int64.ofInt_mul]
  rw [e, i64_toInt (by omega) (by omega)]
theorem sg_ge {a b : Int} (h : ¬ a = 0) : 0 ≤ a * b ↔ (¬ a ≤ 0 ∧ 0 ≤ b) ∨ (a ≤ 0 ∧ b ≤ 0) := by
  rcases Int.lt_or_gt_of_ne h with h1 | h1
  · by_cases hb : b ≤ 0
    · have q := Int.mul_nonneg (a := -a) (b := -b) (by omega) (by omega)
      rw [Int.neg_mul_neg] at q
      exact ⟨fun _ => Or.inr ⟨by omega, hb⟩, fun _ => q⟩
    · have q := Int.mul_pos (a := -a) (b := b) (by omega) (by omega)
      rw [Int.neg_mul] at q
      constructor <;> intro z <;> omega
  · by_cases hb : 0 ≤ b
    · have q := Int.mul_nonneg (a := a) (b := b) (by omega) hb
      exact ⟨fun _ => Or.inl ⟨by omega, hb⟩, fun _ => q⟩
    · have q := Int.mul_pos (a := a) (b := -b) h1 (by omega)
      rw [Int.mul_neg] at q
      constructor <;> intro z <;> omega
theorem sg_le {a b : Int} (h : ¬ a = 0) : a * b ≤ 0 ↔ (¬ a ≤ 0 ∧ b ≤ 0) ∨ (a ≤ 0 ∧ 0 ≤ b) := by
  have q := sg_ge (a := a) (b := -b) h
  rw [Int.mul_neg] at q
  omega
theorem way_ge {w s : Int32} (hw : ¬ w = 0) (h1 : Sm w) (hs : Sm s) : 0 ≤ w.toInt64 * s.toInt64 ↔ (¬ w ≤ 0 ∧ 0 ≤ s) ∨ (w ≤ 0 ∧ s ≤ 0) := by
  rw [eq32] at hw
  rw [le64, p64 h1 hs, zero64]
  simp only [le32, zero32]
  exact sg_ge hw
theorem way_le {w s : Int32} (hw : ¬ w = 0) (h1 : Sm w) (hs : Sm s) : w.toInt64 * s.toInt64 ≤ 0 ↔ (¬ w ≤ 0 ∧ s ≤ 0) ∨ (w ≤ 0 ∧ 0 ≤ s) := by
  rw [eq32] at hw
  rw [le64, p64 h1 hs, zero64]
  simp only [le32, zero32]
  exact sg_le hw
theorem s64_le0 {x : Int32} : x.toInt64 ≤ 0 ↔ x ≤ 0 := by rw [le64, Int32.toInt_toInt64, le32]; rfl
theorem s64_ge0 {x : Int32} : 0 ≤ x.toInt64 ↔ 0 ≤ x := by rw [le64, Int32.toInt_toInt64, le32]; rfl
theorem s64_eq0 {x : Int32} : x.toInt64 = 0 ↔ x = 0 := by rw [← Int64.toInt_inj, Int32.toInt_toInt64, eq32]; rfl
theorem s64_lt0 {x : Int32} : x.toInt64 < 0 ↔ x < 0 := by rw [lt64, Int32.toInt_toInt64, lt32]; rfl
def xE (x1 y1 x2 y2 x y : Int) : Int := (x2 - x1) * (y - y1) - (y2 - y1) * (x - x1)
theorem xE_bd {x1 y1 x2 y2 x y : Int} (h1 : -1000 ≤ x1 ∧ x1 ≤ 1000) (h2 : -1000 ≤ y1 ∧ y1 ≤ 1000) (h3 : -1000 ≤ x2 ∧ x2 ≤ 1000) (h4 : -1000 ≤ y2 ∧ y2 ≤ 1000) (h5 : -1000 ≤ x ∧ x ≤ 1000) (h6 : -1000 ≤ y ∧ y ≤ 1000) : -8000000 ≤ xE x1 y1 x2 y2 x y ∧ xE x1 y1 x2 y2 x y ≤ 8000000 := by
  have m1 := mul_bd (a := x2 - x1) (b := y - y1) (m := 2000) (n := 2000) (by omega) (by omega)
  have m2 := mul_bd (a := y2 - y1) (b := x - x1) (m := 2000) (n := 2000) (by omega) (by omega)
  unfold xE
  omega
theorem side_of (x1 y1 x2 y2 x y : Int32) : (x2 - x1) * (y - y1) - (y2 - y1) * (x - x1) = Int32.ofInt (xE x1.toInt y1.toInt x2.toInt y2.toInt x.toInt y.toInt) := by
  unfold xE
  simp only [Int32.ofInt_sub, Int32.ofInt_mul, Int32.ofInt_toInt]
theorem side_sm {x1 y1 x2 y2 x y : Int32} (h1 : Bd x1) (h2 : Bd y1) (h3 : Bd x2) (h4 : Bd y2) (h5 : Bd x) (h6 : Bd y) : Sm ((x2 - x1) * (y - y1) - (y2 - y1) * (x - x1)) := by
  have b := xE_bd h1.i h2.i h3.i h4.i h5.i h6.i
  rw [side_of]
  unfold Sm
  rw [i32_toInt (by omega) (by omega)]
  exact b
theorem side_64 {x1 y1 x2 y2 x y : Int32} (h1 : Bd x1) (h2 : Bd y1) (h3 : Bd x2) (h4 : Bd y2) (h5 : Bd x) (h6 : Bd y) : ((x2 - x1) * (y - y1) - (y2 - y1) * (x - x1)).toInt64 = crs x1.toInt64 y1.toInt64 x2.toInt64 y2.toInt64 x.toInt64 y.toInt64 := by
  have b := xE_bd h1.i h2.i h3.i h4.i h5.i h6.i
  rw [side_of, i32_64 (by omega) (by omega)]
  unfold xE crs
  simp only [i64_of, Int64.ofInt_sub, Int64.ofInt_mul]
  rw [Int64.mul_comm (Int64.ofInt y2.toInt - Int64.ofInt y1.toInt)]
/-- one triangle, alike in both -/
abbrev TQ (I : hI) (n t : Nat) : Prop := ∀ j, j < 3 → cnM I t j = cn I t j ∧ cn I t j < n
section TQs
variable {I : hI} {n t u : Nat}
theorem crM_e {k mp wh : Nat} (hR : PlR I n) (hT : TQ I n t) (hk : k < 3) (hm : mp < 2) (hw : wh < 2) : crM I t k mp wh = (I (4 + (2 * mp + wh)) (cn I t k)).toInt64 := by
  unfold crM
  rw [(hT k hk).1, Nat.add_assoc, (hR.2 (cn I t k) (hT k hk).2 (2 * mp + wh) (by omega)).1]
theorem at_bd {k mp wh : Nat} (hR : PlR I n) (hT : TQ I n t) (hk : k < 3) (hm : mp < 2) (hw : wh < 2) : Bd (I (4 + (2 * mp + wh)) (cn I t k)) := (hR.2 (cn I t k) (hT k hk).2 (2 * mp + wh) (by omega)).2
theorem sd_e {k mp : Nat} {x y : Int32} (hR : PlR I n) (hT : TQ I n t) (hk : k < 3) (hm : mp < 2) (hx : Bd x) (hy : Bd y) : (sideC I mp (cn I t k) (cn I t ((k + 1) % 3)) x y).toInt64 = sdM I t k mp x.toInt64 y.toInt64 := by
  have h3 : (k + 1) % 3 < 3 := Nat.mod_lt _ (by decide)
  unfold sdM sideC
  rw [crM_e hR hT hk hm (by decide), crM_e hR hT hk hm (by decide), crM_e hR hT h3 hm (by decide), crM_e hR hT h3 hm (by decide)]
  exact side_64 (at_bd hR hT hk hm (show 0 < 2 by decide)) (at_bd hR hT hk hm (show 1 < 2 by decide)) (at_bd hR hT h3 hm (show 0 < 2 by decide)) (at_bd hR hT h3 hm (show 1 < 2 by decide)) hx hy
theorem sd_sm {k mp : Nat} {x y : Int32} (hR : PlR I n) (hT : TQ I n t) (hk : k < 3) (hm : mp < 2) (hx : Bd x) (hy : Bd y) : Sm (sideC I mp (cn I t k) (cn I t ((k + 1) % 3)) x y) := by
  have h3 : (k + 1) % 3 < 3 := Nat.mod_lt _ (by decide)
  unfold sideC
  exact side_sm (at_bd hR hT hk hm (show 0 < 2 by decide)) (at_bd hR hT hk hm (show 1 < 2 by decide)) (at_bd hR hT h3 hm (show 0 < 2 by decide)) (at_bd hR hT h3 hm (show 1 < 2 by decide)) hx hy
theorem rd_e {mp : Nat} (hR : PlR I n) (hT : TQ I n t) (hm : mp < 2) : (tT I t mp).toInt64 = rdM I t mp := by
  unfold tT turnC rdM
  rw [crM_e hR hT (show 2 < 3 by decide) hm (by decide), crM_e hR hT (show 2 < 3 by decide) hm (by decide)]
  exact sd_e hR hT (show 0 < 3 by decide) hm (at_bd hR hT (by decide) hm (show 0 < 2 by decide)) (at_bd hR hT (by decide) hm (show 1 < 2 by decide))
theorem rd_sm {mp : Nat} (hR : PlR I n) (hT : TQ I n t) (hm : mp < 2) : Sm (tT I t mp) := by
  unfold tT turnC
  exact sd_sm hR hT (show 0 < 3 by decide) hm (at_bd hR hT (by decide) hm (show 0 < 2 by decide)) (at_bd hR hT (by decide) hm (show 1 < 2 by decide))
theorem fl_e (hR : PlR I n) (hT : TQ I n t) : fl I t ↔ fltM I t := by
  unfold fl fltM
  rw [← rd_e hR hT (show 0 < 2 by decide), ← rd_e hR hT (show 1 < 2 by decide), s64_eq0, s64_eq0]
theorem st_e (hR : PlR I n) (hT : TQ I n t) : stM I t = if fl I t then 2 else if ov I t then 1 else 0 := by
  unfold stM
  by_cases h : fl I t
  · rw [if_pos h, if_pos ((fl_e hR hT).mp h)]
  · rw [if_neg h, if_neg (mt (fl_e hR hT).mpr h), ← rd_e hR hT (show 0 < 2 by decide), ← rd_e hR hT (show 1 < 2 by decide)]
    have h0 := not_or.mp h
    have q := way_ge h0.1 (rd_sm hR hT (show 0 < 2 by decide)) (rd_sm hR hT (show 1 < 2 by decide))
    have h1 := h0.2
    rw [eq32] at h1
    have e : (((tT I t 0).toInt64 ≤ 0 ∧ (tT I t 1).toInt64 ≤ 0) ∨ (¬ (tT I t 0).toInt64 ≤ 0 ∧ ¬ (tT I t 1).toInt64 ≤ 0)) ↔ 0 ≤ (tT I t 0).toInt64 * (tT I t 1).toInt64 := by
      rw [q, s64_le0, s64_le0]
      simp only [le32, zero32]
      omega
    by_cases z : 0 ≤ (tT I t 0).toInt64 * (tT I t 1).toInt64
    · rw [if_pos (e.mpr z), if_neg (show ¬ ov I t from fun k => k z)]
    · rw [if_neg (mt e.mp z), if_pos (show ov I t from z)]
theorem st1_e (hR : PlR I n) (hT : TQ I n t) : stM I t = 1 ↔ ov I t := by
  rw [st_e hR hT]
  by_cases h : fl I t
  · rw [if_pos h]
    refine ⟨fun q => absurd q (by decide), fun q => absurd ?_ q⟩
    have e : (tT I t 0).toInt64 * (tT I t 1).toInt64 = 0 := by
      rcases h with h | h
      · rw [s64_eq0.mpr h, Int64.zero_mul]
      · rw [s64_eq0.mpr h, Int64.mul_zero]
    rw [e] <;> decide
  · rw [if_neg h]
    by_cases h2 : ov I t
    · rw [if_pos h2]; exact ⟨fun _ => h2, fun _ => rfl⟩
    · rw [if_neg h2]; exact ⟨fun q => absurd q (by decide), fun q => absurd q h2⟩
theorem st2_e (hR : PlR I n) (hT : TQ I n t) : stM I t = 2 ↔ fl I t := by
  rw [st_e hR hT]
  by_cases h : fl I t
  · rw [if_pos h]; exact ⟨fun _ => h, fun _ => rfl⟩
  · rw [if_neg h]
    by_cases h2 : ov I t
    · rw [if_pos h2]; exact ⟨fun q => absurd q (by decide), fun q => absurd q h⟩
    · rw [if_neg h2]; exact ⟨fun q => absurd q (by decide), fun q => absurd q h⟩
theorem nfl {mp : Nat} (h : ¬ fl I t) (hm : mp < 2) : ¬ tT I t mp = 0 := by
  rcases (show mp = 0 ∨ mp = 1 by omega) with rfl | rfl
  · exact (not_or.mp h).1
  · exact (not_or.mp h).2
theorem wi_e {k mp : Nat} {x y : Int32} (hR : PlR I n) (hT : TQ I n t) (hf : ¬ fl I t) (hk : k < 3) (hm : mp < 2) (hx : Bd x) (hy : Bd y) : 0 ≤ inw I t mp (tT I t mp).toInt64 k x y ↔ wiM I t mp k x.toInt64 y.toInt64 := by
  unfold inw wiM
  rw [← rd_e hR hT hm, ← sd_e hR hT hk hm hx hy, s64_le0, s64_le0, s64_ge0]
  exact way_ge (nfl hf hm) (rd_sm hR hT hm) (sd_sm hR hT hk hm hx hy)
theorem co_e {k mp i : Nat} (hR : PlR I n) (hT : TQ I n t) (hU : TQ I n u) (hf : ¬ fl I t) (hk : k < 3) (hm : mp < 2) (hi : i < 3) : inU I t u mp (tT I t mp).toInt64 k i ≤ 0 ↔ coM I t u mp k i := by
  unfold coM inU inw
  rw [crM_e hR hU hi hm (by decide), crM_e hR hU hi hm (by decide)]
  have b0 := at_bd hR hU hi hm (show 0 < 2 by decide)
  have b1 := at_bd hR hU hi hm (show 1 < 2 by decide)
  rw [← rd_e hR hT hm, ← sd_e hR hT hk hm b0 b1, s64_le0, s64_le0, s64_ge0]
  exact way_le (nfl hf hm) (rd_sm hR hT hm) (sd_sm hR hT hk hm b0 b1)
theorem hol_e {mp : Nat} {x y : Int32} (hR : PlR I n) (hT : TQ I n t) (hm : mp < 2) (hx : Bd x) (hy : Bd y) : (¬ fl I t ∧ hol I t mp x y) ↔ inM I t mp x.toInt64 y.toInt64 := by
  unfold inM hol
  rw [← fl_e hR hT]
  by_cases h : fl I t
  · exact ⟨fun q => absurd h q.1, fun q => absurd h q.1⟩
  · rw [wi_e hR hT h (by decide) hm hx hy, wi_e hR hT h (by decide) hm hx hy, wi_e hR hT h (by decide) hm hx hy]
theorem al_s {k mp i : Nat} : ¬ alM I t u mp k (i + 1) = 0 ↔ ¬ alM I t u mp k i = 0 ∧ coM I t u mp k i := by
  show ¬ (if ¬ alM I t u mp k i = 0 ∧ coM I t u mp k i then (1 : Int32) else 0) = 0 ↔ _
  by_cases q : ¬ alM I t u mp k i = 0 ∧ coM I t u mp k i
  · rw [if_pos q]; exact ⟨fun _ => q, fun _ => by decide⟩
  · rw [if_neg q]; exact ⟨fun h => absurd rfl h, fun h => absurd h q⟩
theorem al_e {k mp : Nat} : ¬ alM I t u mp k 3 = 0 ↔ coM I t u mp k 0 ∧ coM I t u mp k 1 ∧ coM I t u mp k 2 := by
  rw [al_s, al_s, al_s]
  exact ⟨fun ⟨⟨⟨_, a⟩, b⟩, c⟩ => ⟨a, b, c⟩, fun ⟨a, b, c⟩ => ⟨⟨⟨(show ¬ (1 : Int32) = 0 by decide), a⟩, b⟩, c⟩⟩
theorem par_e {mp : Nat} (hR : PlR I n) (hT : TQ I n t) (hU : TQ I n u) (hf : ¬ fl I t) (hm : mp < 2) : par I t u mp ↔ prtM I t u mp := by
  unfold par prtM outs
  rw [al_e, al_e, al_e]
  rw [co_e hR hT hU hf (by decide) hm (by decide), co_e hR hT hU hf (by decide) hm (by decide), co_e hR hT hU hf (by decide) hm (by decide), co_e hR hT hU hf (by decide) hm (by decide), co_e hR hT hU hf (by decide) hm (by decide), co_e hR hT hU hf (by decide) hm (by decide), co_e hR hT hU hf (by decide) hm (by decide), co_e hR hT hU hf (by decide) hm (by decide), co_e hR hT hU hf (by decide) hm (by decide)]
theorem ovl_e {mp : Nat} (hR : PlR I n) (hT : TQ I n t) (hU : TQ I n u) (hf : ¬ fl I t) (hg : ¬ fl I u) (hm : mp < 2) : ovl I t u mp ↔ metM I t u mp := by
  unfold ovl metM
  rw [par_e hR hT hU hf hm, par_e hR hU hT hg hm]
end TQs
