/-! the world behind both constructors, as the static heap -/
def I0 : hI := fun k j => if k = 0 then (if j = 5 then 10 else if j = 6 then 100 else 0) else if k = 76 then (if j = 8 then 10 else if j = 9 then 100 else 0) else 0
def J0 : hJ := fun k j => if k = 56 then (if j = 3 then 1 else 0) else if k = 57 then (if j = 3 then 1 else 0) else 0
theorem rel0 : Rel I0 := by
  refine ⟨⟨0, 0, 0, 0, fun _ => 0, ⟨by omega, by decide, by decide, by decide +kernel, by decide +kernel, by decide +kernel, by decide +kernel, fun p hp => absurd hp (Nat.not_lt_zero _), fun p hp => absurd hp (Nat.not_lt_zero _)⟩, ⟨by omega, by decide +kernel, by decide +kernel, fun t ht => absurd ht (Nat.not_lt_zero _)⟩, fun m hm => ?_⟩, by decide +kernel, by decide +kernel, by decide +kernel, by decide +kernel, by decide +kernel, fun h => absurd (by decide +kernel) h⟩
  rcases (show m = 0 ∨ m = 1 by omega) with rfl | rfl
  · exact ⟨Nat.zero_le _, by decide +kernel, by decide +kernel, fun i hi => absurd hi (Nat.not_lt_zero _)⟩
  · exact ⟨Nat.zero_le _, by decide +kernel, by decide +kernel, fun i hi => absurd hi (Nat.not_lt_zero _)⟩
theorem cell_q {c : ClassId} {N : Nat} {f g : Nat → Option Nat} (h : ∀ j, j < N → f j = g j) : vp_cell c (N, .inr (.inr (.inr (.inr f)))) = vp_cell c (N, .inr (.inr (.inr (.inr g)))) := by
  rw [vp_cell_q, vp_cell_q]
  unfold arrV
  have e : (fun j : Fin N => va_rf (f j.val)) = fun j : Fin N => va_rf (g j.val) := funext fun j => by rw [h j.val j.isLt]
  rw [e]
abbrev w91 (cy : Nat → ClassId) (h : Nat) (q : SOm) (h2 : Nat) (q2 : Nat → Nat) : va_W := wOm cy h q ++ wMo cy h2 q2
def ad0 (ws : va_W) (k : Nat) : Nat := (ws.map Prod.fst).getD k 0
abbrev G0 (D : va_G) (cy : Nat → ClassId) (h : Nat) (q : SOm) (h2 : Nat) (q2 : Nat → Nat) : hQ := (D, cy, ad0 (w91 cy h q h2 q2))
def wkP (D : va_G) (cy : Nat → ClassId) (h : Nat) (q : SOm) (h2 : Nat) (q2 : Nat → Nat) (k : Nat) : Prop := ∃ e : va_E, (w91 cy h q h2 q2)[k]? = some (ad0 (w91 cy h q h2 q2) k, e) ∧ ∀ H : Heap, va_at D vwCl (ad0 (w91 cy h q h2 q2) k, e) H → va_at D vwCl (ad0 (w91 cy h q h2 q2) k, h_cell (G0 D cy h q h2 q2) I0 J0 k) H
section WK
variable {D : va_G} {cy : Nat → ClassId} {h : Nat} {q : SOm} {h2 : Nat} {q2 : Nat → Nat}
set_option maxRecDepth 100000 in
theorem wk_0 : wkP D cy h q h2 q2 0 := ⟨h_cell (G0 D cy h q h2 q2) I0 J0 0, rfl, fun _ w => w⟩
set_option maxRecDepth 100000 in
theorem wk_1 : wkP D cy h q h2 q2 1 := ⟨h_cell (G0 D cy h q h2 q2) I0 J0 1, rfl, fun _ w => w⟩
set_option maxRecDepth 100000 in
theorem wk_2 : wkP D cy h q h2 q2 2 := ⟨h_cell (G0 D cy h q h2 q2) I0 J0 2, rfl, fun _ w => w⟩
set_option maxRecDepth 100000 in
theorem wk_3 : wkP D cy h q h2 q2 3 := ⟨b_out cy 4 q.1.2.1.2.2, rfl, fun H w => Eq.trans (b := some (vp_cell (cy 2) (4, .inr (.inr (.inr (.inr (fun i => if i < 4 then some (q.1.2.1.2.2 i) else none))))))) w (congrArg some (cell_q (g := fun j => some (ad0 (w91 cy h q h2 q2) (h_rf 3 j))) (fun j hj => by rcases (show j = 0 ∨ j = 1 ∨ j = 2 ∨ j = 3 by omega) with rfl | rfl | rfl | rfl <;> rfl)))⟩
set_option maxRecDepth 100000 in
theorem wk_4 : wkP D cy h q h2 q2 4 := ⟨h_cell (G0 D cy h q h2 q2) I0 J0 4, rfl, fun _ w => w⟩
set_option maxRecDepth 100000 in
theorem wk_5 : wkP D cy h q h2 q2 5 := ⟨h_cell (G0 D cy h q h2 q2) I0 J0 5, rfl, fun _ w => w⟩
set_option maxRecDepth 100000 in
theorem wk_6 : wkP D cy h q h2 q2 6 := ⟨h_cell (G0 D cy h q h2 q2) I0 J0 6, rfl, fun _ w => w⟩
set_option maxRecDepth 100000 in
theorem wk_7 : wkP D cy h q h2 q2 7 := ⟨h_cell (G0 D cy h q h2 q2) I0 J0 7, rfl, fun _ w => w⟩
set_option maxRecDepth 100000 in
theorem wk_8 : wkP D cy h q h2 q2 8 := ⟨h_cell (G0 D cy h q h2 q2) I0 J0 8, rfl, fun _ w => w⟩
set_option maxRecDepth 100000 in
theorem wk_9 : wkP D cy h q h2 q2 9 := ⟨b_out cy 10 q.1.2.2.1.2.2, rfl, fun H w => Eq.trans (b := some (vp_cell (cy 2) (10, .inr (.inr (.inr (.inr (fun i => if i < 10 then some (q.1.2.2.1.2.2 i) else none))))))) w (congrArg some (cell_q (g := fun j => some (ad0 (w91 cy h q h2 q2) (h_rf 9 j))) (fun j hj => by rcases (show j = 0 ∨ j = 1 ∨ j = 2 ∨ j = 3 ∨ j = 4 ∨ j = 5 ∨ j = 6 ∨ j = 7 ∨ j = 8 ∨ j = 9 by omega) with rfl | rfl | rfl | rfl | rfl | rfl | rfl | rfl | rfl | rfl <;> rfl)))⟩
set_option maxRecDepth 100000 in
theorem wk_10 : wkP D cy h q h2 q2 10 := ⟨h_cell (G0 D cy h q h2 q2) I0 J0 10, rfl, fun _ w => w⟩
set_option maxRecDepth 100000 in
theorem wk_11 : wkP D cy h q h2 q2 11 := ⟨h_cell (G0 D cy h q h2 q2) I0 J0 11, rfl, fun _ w => w⟩
set_option maxRecDepth 100000 in
theorem wk_12 : wkP D cy h q h2 q2 12 := ⟨h_cell (G0 D cy h q h2 q2) I0 J0 12, rfl, fun _ w => w⟩
set_option maxRecDepth 100000 in
theorem wk_13 : wkP D cy h q h2 q2 13 := ⟨h_cell (G0 D cy h q h2 q2) I0 J0 13, rfl, fun _ w => w⟩
set_option maxRecDepth 100000 in
theorem wk_14 : wkP D cy h q h2 q2 14 := ⟨h_cell (G0 D cy h q h2 q2) I0 J0 14, rfl, fun _ w => w⟩
set_option maxRecDepth 100000 in
theorem wk_15 : wkP D cy h q h2 q2 15 := ⟨h_cell (G0 D cy h q h2 q2) I0 J0 15, rfl, fun _ w => w⟩
set_option maxRecDepth 100000 in
theorem wk_16 : wkP D cy h q h2 q2 16 := ⟨h_cell (G0 D cy h q h2 q2) I0 J0 16, rfl, fun _ w => w⟩
set_option maxRecDepth 100000 in
theorem wk_17 : wkP D cy h q h2 q2 17 := ⟨h_cell (G0 D cy h q h2 q2) I0 J0 17, rfl, fun _ w => w⟩
set_option maxRecDepth 100000 in
theorem wk_18 : wkP D cy h q h2 q2 18 := ⟨h_cell (G0 D cy h q h2 q2) I0 J0 18, rfl, fun _ w => w⟩
set_option maxRecDepth 100000 in
theorem wk_19 : wkP D cy h q h2 q2 19 := ⟨h_cell (G0 D cy h q h2 q2) I0 J0 19, rfl, fun _ w => w⟩
set_option maxRecDepth 100000 in
theorem wk_20 : wkP D cy h q h2 q2 20 := ⟨h_cell (G0 D cy h q h2 q2) I0 J0 20, rfl, fun _ w => w⟩
set_option maxRecDepth 100000 in
theorem wk_21 : wkP D cy h q h2 q2 21 := ⟨h_cell (G0 D cy h q h2 q2) I0 J0 21, rfl, fun _ w => w⟩
set_option maxRecDepth 100000 in
theorem wk_22 : wkP D cy h q h2 q2 22 := ⟨h_cell (G0 D cy h q h2 q2) I0 J0 22, rfl, fun _ w => w⟩
set_option maxRecDepth 100000 in
theorem wk_23 : wkP D cy h q h2 q2 23 := ⟨h_cell (G0 D cy h q h2 q2) I0 J0 23, rfl, fun _ w => w⟩
set_option maxRecDepth 100000 in
theorem wk_24 : wkP D cy h q h2 q2 24 := ⟨h_cell (G0 D cy h q h2 q2) I0 J0 24, rfl, fun _ w => w⟩
set_option maxRecDepth 100000 in
theorem wk_25 : wkP D cy h q h2 q2 25 := ⟨h_cell (G0 D cy h q h2 q2) I0 J0 25, rfl, fun _ w => w⟩
set_option maxRecDepth 100000 in
theorem wk_26 : wkP D cy h q h2 q2 26 := ⟨h_cell (G0 D cy h q h2 q2) I0 J0 26, rfl, fun _ w => w⟩
set_option maxRecDepth 100000 in
theorem wk_27 : wkP D cy h q h2 q2 27 := ⟨h_cell (G0 D cy h q h2 q2) I0 J0 27, rfl, fun _ w => w⟩
set_option maxRecDepth 100000 in
theorem wk_28 : wkP D cy h q h2 q2 28 := ⟨h_cell (G0 D cy h q h2 q2) I0 J0 28, rfl, fun _ w => w⟩
set_option maxRecDepth 100000 in
theorem wk_29 : wkP D cy h q h2 q2 29 := ⟨h_cell (G0 D cy h q h2 q2) I0 J0 29, rfl, fun _ w => w⟩
set_option maxRecDepth 100000 in
theorem wk_30 : wkP D cy h q h2 q2 30 := ⟨b_out cy 4 q.2.1.2.1.2.2, rfl, fun H w => Eq.trans (b := some (vp_cell (cy 2) (4, .inr (.inr (.inr (.inr (fun i => if i < 4 then some (q.2.1.2.1.2.2 i) else none))))))) w (congrArg some (cell_q (g := fun j => some (ad0 (w91 cy h q h2 q2) (h_rf 30 j))) (fun j hj => by rcases (show j = 0 ∨ j = 1 ∨ j = 2 ∨ j = 3 by omega) with rfl | rfl | rfl | rfl <;> rfl)))⟩
set_option maxRecDepth 100000 in
theorem wk_31 : wkP D cy h q h2 q2 31 := ⟨h_cell (G0 D cy h q h2 q2) I0 J0 31, rfl, fun _ w => w⟩
set_option maxRecDepth 100000 in
theorem wk_32 : wkP D cy h q h2 q2 32 := ⟨h_cell (G0 D cy h q h2 q2) I0 J0 32, rfl, fun _ w => w⟩
set_option maxRecDepth 100000 in
theorem wk_33 : wkP D cy h q h2 q2 33 := ⟨h_cell (G0 D cy h q h2 q2) I0 J0 33, rfl, fun _ w => w⟩
set_option maxRecDepth 100000 in
theorem wk_34 : wkP D cy h q h2 q2 34 := ⟨h_cell (G0 D cy h q h2 q2) I0 J0 34, rfl, fun _ w => w⟩
set_option maxRecDepth 100000 in
theorem wk_35 : wkP D cy h q h2 q2 35 := ⟨h_cell (G0 D cy h q h2 q2) I0 J0 35, rfl, fun _ w => w⟩
set_option maxRecDepth 100000 in
theorem wk_36 : wkP D cy h q h2 q2 36 := ⟨b_out cy 10 q.2.1.2.2.1.2.2, rfl, fun H w => Eq.trans (b := some (vp_cell (cy 2) (10, .inr (.inr (.inr (.inr (fun i => if i < 10 then some (q.2.1.2.2.1.2.2 i) else none))))))) w (congrArg some (cell_q (g := fun j => some (ad0 (w91 cy h q h2 q2) (h_rf 36 j))) (fun j hj => by rcases (show j = 0 ∨ j = 1 ∨ j = 2 ∨ j = 3 ∨ j = 4 ∨ j = 5 ∨ j = 6 ∨ j = 7 ∨ j = 8 ∨ j = 9 by omega) with rfl | rfl | rfl | rfl | rfl | rfl | rfl | rfl | rfl | rfl <;> rfl)))⟩
set_option maxRecDepth 100000 in
theorem wk_37 : wkP D cy h q h2 q2 37 := ⟨h_cell (G0 D cy h q h2 q2) I0 J0 37, rfl, fun _ w => w⟩
set_option maxRecDepth 100000 in
theorem wk_38 : wkP D cy h q h2 q2 38 := ⟨h_cell (G0 D cy h q h2 q2) I0 J0 38, rfl, fun _ w => w⟩
set_option maxRecDepth 100000 in
theorem wk_39 : wkP D cy h q h2 q2 39 := ⟨h_cell (G0 D cy h q h2 q2) I0 J0 39, rfl, fun _ w => w⟩
set_option maxRecDepth 100000 in
theorem wk_40 : wkP D cy h q h2 q2 40 := ⟨h_cell (G0 D cy h q h2 q2) I0 J0 40, rfl, fun _ w => w⟩
set_option maxRecDepth 100000 in
theorem wk_41 : wkP D cy h q h2 q2 41 := ⟨h_cell (G0 D cy h q h2 q2) I0 J0 41, rfl, fun _ w => w⟩
set_option maxRecDepth 100000 in
theorem wk_42 : wkP D cy h q h2 q2 42 := ⟨h_cell (G0 D cy h q h2 q2) I0 J0 42, rfl, fun _ w => w⟩
set_option maxRecDepth 100000 in
theorem wk_43 : wkP D cy h q h2 q2 43 := ⟨h_cell (G0 D cy h q h2 q2) I0 J0 43, rfl, fun _ w => w⟩
set_option maxRecDepth 100000 in
theorem wk_44 : wkP D cy h q h2 q2 44 := ⟨h_cell (G0 D cy h q h2 q2) I0 J0 44, rfl, fun _ w => w⟩
set_option maxRecDepth 100000 in
theorem wk_45 : wkP D cy h q h2 q2 45 := ⟨h_cell (G0 D cy h q h2 q2) I0 J0 45, rfl, fun _ w => w⟩
set_option maxRecDepth 100000 in
theorem wk_46 : wkP D cy h q h2 q2 46 := ⟨h_cell (G0 D cy h q h2 q2) I0 J0 46, rfl, fun _ w => w⟩
set_option maxRecDepth 100000 in
theorem wk_47 : wkP D cy h q h2 q2 47 := ⟨h_cell (G0 D cy h q h2 q2) I0 J0 47, rfl, fun _ w => w⟩
set_option maxRecDepth 100000 in
theorem wk_48 : wkP D cy h q h2 q2 48 := ⟨h_cell (G0 D cy h q h2 q2) I0 J0 48, rfl, fun _ w => w⟩
set_option maxRecDepth 100000 in
theorem wk_49 : wkP D cy h q h2 q2 49 := ⟨h_cell (G0 D cy h q h2 q2) I0 J0 49, rfl, fun _ w => w⟩
set_option maxRecDepth 100000 in
theorem wk_50 : wkP D cy h q h2 q2 50 := ⟨h_cell (G0 D cy h q h2 q2) I0 J0 50, rfl, fun _ w => w⟩
set_option maxRecDepth 100000 in
theorem wk_51 : wkP D cy h q h2 q2 51 := ⟨h_cell (G0 D cy h q h2 q2) I0 J0 51, rfl, fun _ w => w⟩
set_option maxRecDepth 100000 in
theorem wk_52 : wkP D cy h q h2 q2 52 := ⟨h_cell (G0 D cy h q h2 q2) I0 J0 52, rfl, fun _ w => w⟩
set_option maxRecDepth 100000 in
theorem wk_53 : wkP D cy h q h2 q2 53 := ⟨h_cell (G0 D cy h q h2 q2) I0 J0 53, rfl, fun _ w => w⟩
set_option maxRecDepth 100000 in
theorem wk_54 : wkP D cy h q h2 q2 54 := ⟨h_cell (G0 D cy h q h2 q2) I0 J0 54, rfl, fun _ w => w⟩
set_option maxRecDepth 100000 in
theorem wk_55 : wkP D cy h q h2 q2 55 := ⟨h_cell (G0 D cy h q h2 q2) I0 J0 55, rfl, fun _ w => w⟩
set_option maxRecDepth 100000 in
theorem wk_56 : wkP D cy h q h2 q2 56 := ⟨h_cell (G0 D cy h q h2 q2) I0 J0 56, rfl, fun _ w => w⟩
set_option maxRecDepth 100000 in
theorem wk_57 : wkP D cy h q h2 q2 57 := ⟨h_cell (G0 D cy h q h2 q2) I0 J0 57, rfl, fun _ w => w⟩
set_option maxRecDepth 100000 in
theorem wk_58 : wkP D cy h q h2 q2 58 := ⟨h_cell (G0 D cy h q h2 q2) I0 J0 58, rfl, fun _ w => w⟩
set_option maxRecDepth 100000 in
theorem wk_59 : wkP D cy h q h2 q2 59 := ⟨h_cell (G0 D cy h q h2 q2) I0 J0 59, rfl, fun _ w => w⟩
set_option maxRecDepth 100000 in
theorem wk_60 : wkP D cy h q h2 q2 60 := ⟨b_out cy 6 q.2.2.2.2.1.2, rfl, fun H w => Eq.trans (b := some (vp_cell (cy 2) (6, .inr (.inr (.inr (.inr (fun i => if i < 6 then some (q.2.2.2.2.1.2 i) else none))))))) w (congrArg some (cell_q (g := fun j => some (ad0 (w91 cy h q h2 q2) (h_rf 60 j))) (fun j hj => by rcases (show j = 0 ∨ j = 1 ∨ j = 2 ∨ j = 3 ∨ j = 4 ∨ j = 5 by omega) with rfl | rfl | rfl | rfl | rfl | rfl <;> rfl)))⟩
set_option maxRecDepth 100000 in
theorem wk_61 : wkP D cy h q h2 q2 61 := ⟨h_cell (G0 D cy h q h2 q2) I0 J0 61, rfl, fun _ w => w⟩
set_option maxRecDepth 100000 in
theorem wk_62 : wkP D cy h q h2 q2 62 := ⟨h_cell (G0 D cy h q h2 q2) I0 J0 62, rfl, fun _ w => w⟩
set_option maxRecDepth 100000 in
theorem wk_63 : wkP D cy h q h2 q2 63 := ⟨h_cell (G0 D cy h q h2 q2) I0 J0 63, rfl, fun _ w => w⟩
set_option maxRecDepth 100000 in
theorem wk_64 : wkP D cy h q h2 q2 64 := ⟨h_cell (G0 D cy h q h2 q2) I0 J0 64, rfl, fun _ w => w⟩
set_option maxRecDepth 100000 in
theorem wk_65 : wkP D cy h q h2 q2 65 := ⟨h_cell (G0 D cy h q h2 q2) I0 J0 65, rfl, fun _ w => w⟩
set_option maxRecDepth 100000 in
theorem wk_66 : wkP D cy h q h2 q2 66 := ⟨h_cell (G0 D cy h q h2 q2) I0 J0 66, rfl, fun _ w => w⟩
set_option maxRecDepth 100000 in
theorem wk_67 : wkP D cy h q h2 q2 67 := ⟨b_out cy 7 q.2.2.2.2.2.1.2, rfl, fun H w => Eq.trans (b := some (vp_cell (cy 2) (7, .inr (.inr (.inr (.inr (fun i => if i < 7 then some (q.2.2.2.2.2.1.2 i) else none))))))) w (congrArg some (cell_q (g := fun j => some (ad0 (w91 cy h q h2 q2) (h_rf 67 j))) (fun j hj => by rcases (show j = 0 ∨ j = 1 ∨ j = 2 ∨ j = 3 ∨ j = 4 ∨ j = 5 ∨ j = 6 by omega) with rfl | rfl | rfl | rfl | rfl | rfl | rfl <;> rfl)))⟩
set_option maxRecDepth 100000 in
theorem wk_68 : wkP D cy h q h2 q2 68 := ⟨h_cell (G0 D cy h q h2 q2) I0 J0 68, rfl, fun _ w => w⟩
set_option maxRecDepth 100000 in
theorem wk_69 : wkP D cy h q h2 q2 69 := ⟨h_cell (G0 D cy h q h2 q2) I0 J0 69, rfl, fun _ w => w⟩
set_option maxRecDepth 100000 in
theorem wk_70 : wkP D cy h q h2 q2 70 := ⟨h_cell (G0 D cy h q h2 q2) I0 J0 70, rfl, fun _ w => w⟩
set_option maxRecDepth 100000 in
theorem wk_71 : wkP D cy h q h2 q2 71 := ⟨h_cell (G0 D cy h q h2 q2) I0 J0 71, rfl, fun _ w => w⟩
set_option maxRecDepth 100000 in
theorem wk_72 : wkP D cy h q h2 q2 72 := ⟨h_cell (G0 D cy h q h2 q2) I0 J0 72, rfl, fun _ w => w⟩
set_option maxRecDepth 100000 in
theorem wk_73 : wkP D cy h q h2 q2 73 := ⟨h_cell (G0 D cy h q h2 q2) I0 J0 73, rfl, fun _ w => w⟩
set_option maxRecDepth 100000 in
theorem wk_74 : wkP D cy h q h2 q2 74 := ⟨h_cell (G0 D cy h q h2 q2) I0 J0 74, rfl, fun _ w => w⟩
set_option maxRecDepth 100000 in
theorem wk_75 : wkP D cy h q h2 q2 75 := ⟨h_cell (G0 D cy h q h2 q2) I0 J0 75, rfl, fun _ w => w⟩
set_option maxRecDepth 100000 in
theorem wk_76 : wkP D cy h q h2 q2 76 := ⟨h_cell (G0 D cy h q h2 q2) I0 J0 76, rfl, fun _ w => w⟩
set_option maxRecDepth 100000 in
theorem wk_77 : wkP D cy h q h2 q2 77 := ⟨h_cell (G0 D cy h q h2 q2) I0 J0 77, rfl, fun _ w => w⟩
set_option maxRecDepth 100000 in
theorem wk_78 : wkP D cy h q h2 q2 78 := ⟨h_cell (G0 D cy h q h2 q2) I0 J0 78, rfl, fun _ w => w⟩
set_option maxRecDepth 100000 in
theorem wk_79 : wkP D cy h q h2 q2 79 := ⟨h_cell (G0 D cy h q h2 q2) I0 J0 79, rfl, fun _ w => w⟩
set_option maxRecDepth 100000 in
theorem wk_80 : wkP D cy h q h2 q2 80 := ⟨h_cell (G0 D cy h q h2 q2) I0 J0 80, rfl, fun _ w => w⟩
set_option maxRecDepth 100000 in
theorem wk_81 : wkP D cy h q h2 q2 81 := ⟨h_cell (G0 D cy h q h2 q2) I0 J0 81, rfl, fun _ w => w⟩
set_option maxRecDepth 100000 in
theorem wk_82 : wkP D cy h q h2 q2 82 := ⟨h_cell (G0 D cy h q h2 q2) I0 J0 82, rfl, fun _ w => w⟩
set_option maxRecDepth 100000 in
theorem wk_83 : wkP D cy h q h2 q2 83 := ⟨h_cell (G0 D cy h q h2 q2) I0 J0 83, rfl, fun _ w => w⟩
set_option maxRecDepth 100000 in
theorem wk_84 : wkP D cy h q h2 q2 84 := ⟨h_cell (G0 D cy h q h2 q2) I0 J0 84, rfl, fun _ w => w⟩
set_option maxRecDepth 100000 in
theorem wk_85 : wkP D cy h q h2 q2 85 := ⟨h_cell (G0 D cy h q h2 q2) I0 J0 85, rfl, fun _ w => w⟩
set_option maxRecDepth 100000 in
theorem wk_86 : wkP D cy h q h2 q2 86 := ⟨h_cell (G0 D cy h q h2 q2) I0 J0 86, rfl, fun _ w => w⟩
set_option maxRecDepth 100000 in
theorem wk_87 : wkP D cy h q h2 q2 87 := ⟨h_cell (G0 D cy h q h2 q2) I0 J0 87, rfl, fun _ w => w⟩
set_option maxRecDepth 100000 in
theorem wk_88 : wkP D cy h q h2 q2 88 := ⟨h_cell (G0 D cy h q h2 q2) I0 J0 88, rfl, fun _ w => w⟩
set_option maxRecDepth 100000 in
theorem wk_89 : wkP D cy h q h2 q2 89 := ⟨h_cell (G0 D cy h q h2 q2) I0 J0 89, rfl, fun _ w => w⟩
set_option maxRecDepth 100000 in
theorem wk_90 : wkP D cy h q h2 q2 90 := ⟨h_cell (G0 D cy h q h2 q2) I0 J0 90, rfl, fun _ w => w⟩
set_option maxRecDepth 100000 in
theorem wk_all : ∀ k ∈ [0, 1, 2, 3, 4, 5, 6, 7, 8, 9, 10, 11, 12, 13, 14, 15, 16, 17, 18, 19, 20, 21, 22, 23, 24, 25, 26, 27, 28, 29, 30, 31, 32, 33, 34, 35, 36, 37, 38, 39, 40, 41, 42, 43, 44, 45, 46, 47, 48, 49, 50, 51, 52, 53, 54, 55, 56, 57, 58, 59, 60, 61, 62, 63, 64, 65, 66, 67, 68, 69, 70, 71, 72, 73, 74, 75, 76, 77, 78, 79, 80, 81, 82, 83, 84, 85, 86, 87, 88, 89, 90], wkP D cy h q h2 q2 k := List.forall_mem_cons.mpr ⟨wk_0, List.forall_mem_cons.mpr ⟨wk_1, List.forall_mem_cons.mpr ⟨wk_2, List.forall_mem_cons.mpr ⟨wk_3, List.forall_mem_cons.mpr ⟨wk_4, List.forall_mem_cons.mpr ⟨wk_5, List.forall_mem_cons.mpr ⟨wk_6, List.forall_mem_cons.mpr ⟨wk_7, List.forall_mem_cons.mpr ⟨wk_8, List.forall_mem_cons.mpr ⟨wk_9, List.forall_mem_cons.mpr ⟨wk_10, List.forall_mem_cons.mpr ⟨wk_11, List.forall_mem_cons.mpr ⟨wk_12, List.forall_mem_cons.mpr ⟨wk_13, List.forall_mem_cons.mpr ⟨wk_14, List.forall_mem_cons.mpr ⟨wk_15, List.forall_mem_cons.mpr ⟨wk_16, List.forall_mem_cons.mpr ⟨wk_17, List.forall_mem_cons.mpr ⟨wk_18, List.forall_mem_cons.mpr ⟨wk_19, List.forall_mem_cons.mpr ⟨wk_20, List.forall_mem_cons.mpr ⟨wk_21, List.forall_mem_cons.mpr ⟨wk_22, List.forall_mem_cons.mpr ⟨wk_23, List.forall_mem_cons.mpr ⟨wk_24, List.forall_mem_cons.mpr ⟨wk_25, List.forall_mem_cons.mpr ⟨wk_26, List.forall_mem_cons.mpr ⟨wk_27, List.forall_mem_cons.mpr ⟨wk_28, List.forall_mem_cons.mpr ⟨wk_29, List.forall_mem_cons.mpr ⟨wk_30, List.forall_mem_cons.mpr ⟨wk_31, List.forall_mem_cons.mpr ⟨wk_32, List.forall_mem_cons.mpr ⟨wk_33, List.forall_mem_cons.mpr ⟨wk_34, List.forall_mem_cons.mpr ⟨wk_35, List.forall_mem_cons.mpr ⟨wk_36, List.forall_mem_cons.mpr ⟨wk_37, List.forall_mem_cons.mpr ⟨wk_38, List.forall_mem_cons.mpr ⟨wk_39, List.forall_mem_cons.mpr ⟨wk_40, List.forall_mem_cons.mpr ⟨wk_41, List.forall_mem_cons.mpr ⟨wk_42, List.forall_mem_cons.mpr ⟨wk_43, List.forall_mem_cons.mpr ⟨wk_44, List.forall_mem_cons.mpr ⟨wk_45, List.forall_mem_cons.mpr ⟨wk_46, List.forall_mem_cons.mpr ⟨wk_47, List.forall_mem_cons.mpr ⟨wk_48, List.forall_mem_cons.mpr ⟨wk_49, List.forall_mem_cons.mpr ⟨wk_50, List.forall_mem_cons.mpr ⟨wk_51, List.forall_mem_cons.mpr ⟨wk_52, List.forall_mem_cons.mpr ⟨wk_53, List.forall_mem_cons.mpr ⟨wk_54, List.forall_mem_cons.mpr ⟨wk_55, List.forall_mem_cons.mpr ⟨wk_56, List.forall_mem_cons.mpr ⟨wk_57, List.forall_mem_cons.mpr ⟨wk_58, List.forall_mem_cons.mpr ⟨wk_59, List.forall_mem_cons.mpr ⟨wk_60, List.forall_mem_cons.mpr ⟨wk_61, List.forall_mem_cons.mpr ⟨wk_62, List.forall_mem_cons.mpr ⟨wk_63, List.forall_mem_cons.mpr ⟨wk_64, List.forall_mem_cons.mpr ⟨wk_65, List.forall_mem_cons.mpr ⟨wk_66, List.forall_mem_cons.mpr ⟨wk_67, List.forall_mem_cons.mpr ⟨wk_68, List.forall_mem_cons.mpr ⟨wk_69, List.forall_mem_cons.mpr ⟨wk_70, List.forall_mem_cons.mpr ⟨wk_71, List.forall_mem_cons.mpr ⟨wk_72, List.forall_mem_cons.mpr ⟨wk_73, List.forall_mem_cons.mpr ⟨wk_74, List.forall_mem_cons.mpr ⟨wk_75, List.forall_mem_cons.mpr ⟨wk_76, List.forall_mem_cons.mpr ⟨wk_77, List.forall_mem_cons.mpr ⟨wk_78, List.forall_mem_cons.mpr ⟨wk_79, List.forall_mem_cons.mpr ⟨wk_80, List.forall_mem_cons.mpr ⟨wk_81, List.forall_mem_cons.mpr ⟨wk_82, List.forall_mem_cons.mpr ⟨wk_83, List.forall_mem_cons.mpr ⟨wk_84, List.forall_mem_cons.mpr ⟨wk_85, List.forall_mem_cons.mpr ⟨wk_86, List.forall_mem_cons.mpr ⟨wk_87, List.forall_mem_cons.mpr ⟨wk_88, List.forall_mem_cons.mpr ⟨wk_89, List.forall_mem_cons.mpr ⟨wk_90, fun _ w => absurd w List.not_mem_nil⟩⟩⟩⟩⟩⟩⟩⟩⟩⟩⟩⟩⟩⟩⟩⟩⟩⟩⟩⟩⟩⟩⟩⟩⟩⟩⟩⟩⟩⟩⟩⟩⟩⟩⟩⟩⟩⟩⟩⟩⟩⟩⟩⟩⟩⟩⟩⟩⟩⟩⟩⟩⟩⟩⟩⟩⟩⟩⟩⟩⟩⟩⟩⟩⟩⟩⟩⟩⟩⟩⟩⟩⟩⟩⟩⟩⟩⟩⟩⟩⟩⟩⟩⟩⟩⟩⟩⟩⟩⟩⟩
theorem in91 : ∀ k, k < 91 → k ∈ [0, 1, 2, 3, 4, 5, 6, 7, 8, 9, 10, 11, 12, 13, 14, 15, 16, 17, 18, 19, 20, 21, 22, 23, 24, 25, 26, 27, 28, 29, 30, 31, 32, 33, 34, 35, 36, 37, 38, 39, 40, 41, 42, 43, 44, 45, 46, 47, 48, 49, 50, 51, 52, 53, 54, 55, 56, 57, 58, 59, 60, 61, 62, 63, 64, 65, 66, 67, 68, 69, 70, 71, 72, 73, 74, 75, 76, 77, 78, 79, 80, 81, 82, 83, 84, 85, 86, 87, 88, 89, 90] := by decide +kernel
theorem hW_lt {G : hQ} {I : hI} {J : hJ} {k : Nat} {x : Nat × va_E} (hk : (h_W G I J)[k]? = some x) : k < 91 := by
  have := (List.getElem?_eq_some_iff.mp hk).1
  simpa [h_W] using this
theorem w_P {H : Heap} (hP : va_P D vwCl (w91 cy h q h2 q2) H) : va_P D vwCl (h_W (G0 D cy h q h2 q2) I0 J0) H := by
  intro k x hx
  have hk := hW_lt hx
  rw [h_W_at hk] at hx
  obtain ⟨e, e1, e2⟩ := wk_all (D := D) (cy := cy) (h := h) (q := q) (h2 := h2) (q2 := q2) k (in91 k hk)
  cases hx
  exact e2 H (hP k _ e1)
theorem w_D {A : Nat → Prop} (hD : va_D A (w91 cy h q h2 q2)) : va_D A (h_W (G0 D cy h q h2 q2) I0 J0) := by
  refine ⟨fun i j x y hi hj hxy => ?_, fun k x hx => ?_⟩
  · have ki := hW_lt hi
    have kj := hW_lt hj
    rw [h_W_at ki] at hi
    rw [h_W_at kj] at hj
    obtain ⟨e, e1, -⟩ := wk_all (D := D) (cy := cy) (h := h) (q := q) (h2 := h2) (q2 := q2) i (in91 i ki)
    obtain ⟨f, f1, -⟩ := wk_all (D := D) (cy := cy) (h := h) (q := q) (h2 := h2) (q2 := q2) j (in91 j kj)
    cases hi
    cases hj
    exact hD.1 i j _ _ e1 f1 hxy
  · have hk := hW_lt hx
    rw [h_W_at hk] at hx
    obtain ⟨e, e1, -⟩ := wk_all (D := D) (cy := cy) (h := h) (q := q) (h2 := h2) (q2 := q2) k (in91 k hk)
    cases hx
    exact hD.2 k (ad0 (w91 cy h q h2 q2) k, e) e1
theorem w_go {Γ : hG} {pc : Nat} {lo : List (Nat × Value)} {st : List Value} {k j : Nat} (hk : k ≤ g_k Γ) (hj : j ≤ g_j Γ) (kk : h_WW Γ (G0 D cy h q h2 q2) pc lo st I0 J0) : b_WW Γ D pc lo st (w91 cy h q h2 q2) k j := fun H locs ls a b c d => W.widen hk hj (kk H locs ls (w_P a) (w_D b) c d)
end WK
