/-! what each constructor leaves -/
abbrev wTh (cy : Nat → ClassId) (h : Nat) (q : Nat × Nat × Nat) : va_W := [(h, .inr (4, [.int 0, .ref (q.1), .ref (q.2.1), .ref (q.2.2)])), (q.1, b_row cy 6), (q.2.1, b_row cy 6), (q.2.2, b_row cy 6)]
abbrev wPo (cy : Nat → ClassId) (h : Nat) (q : Nat × (Nat → Nat)) : va_W := (h, .inr (2, [.int 0, .ref (q.1), .int 0, .int 0])) :: (q.1, b_out cy 4 q.2) :: (List.range 4).map (fun i => (q.2 i, b_row cy 12))
abbrev wTr (cy : Nat → ClassId) (p h : Nat) (q : Nat × (Nat → Nat)) : va_W := (h, .inr (5, [.ref (p), .int 0, .ref (q.1)])) :: (q.1, b_out cy 10 q.2) :: (List.range 10).map (fun i => (q.2 i, b_row cy 3))
abbrev wWy (h : Nat) : va_W := [(h, .inr (6, [.long 0, .long 0, .long 0, .long 1]))]
abbrev wBe (cy : Nat → ClassId) (p h : Nat) (q : Nat × Nat × Nat) : va_W := [(h, .inr (0, [.ref (p), .ref (q.1), .ref (q.2.1), .ref (q.2.2), .int 0, .int 0, .long 0]))] ++ (wWy q.1 ++ (wWy q.2.1 ++ [(q.2.2, .inl (cy 1, 4, .inr (.inl (fun _ => 0))))]))
abbrev wMa (cy : Nat → ClassId) (a b c h : Nat) (q : (Nat × (Nat → Nat)) × (Nat × (Nat → Nat)) × Nat) : va_W := [(h, .inr (1, [.ref (a), .ref (b), .ref (c), .ref (q.1.1), .ref (q.2.1.1), .ref (q.2.2), .int 0]))] ++ (((q.1.1, b_out cy 6 q.1.2) :: (List.range 6).map (fun i => (q.1.2 i, b_row cy 6))) ++ (((q.2.1.1, b_out cy 7 q.2.1.2) :: (List.range 7).map (fun i => (q.2.1.2 i, b_row cy 64))) ++ [(q.2.2, b_row cy 6)]))
abbrev SPo : Type := Nat × (Nat → Nat)
abbrev STh : Type := Nat × Nat × Nat
abbrev STa : Type := (Nat × SPo) × (Nat × SPo) × (Nat × STh) × (Nat × STh)
abbrev wTa (cy : Nat → ClassId) (h : Nat) (q : STa) : va_W := [(h, .inr (3, [.ref (q.1.1), .ref (q.2.1.1), .ref (q.2.2.1.1), .ref (q.2.2.2.1)]))] ++ (wPo cy q.1.1 q.1.2 ++ (wTr cy q.1.1 q.2.1.1 q.2.1.2 ++ (wTh cy q.2.2.1.1 q.2.2.1.2 ++ wTh cy q.2.2.2.1 q.2.2.2.2)))
abbrev SMa : Type := (Nat × (Nat → Nat)) × (Nat × (Nat → Nat)) × Nat
set_option maxHeartbeats 2000000 in
set_option maxRecDepth 100000 in
theorem c_X4_init (l : Launch) (D : va_G) (cy : Nat → ClassId) (h : Nat) : b_Mv (S := Nat × Nat × Nat) l yX4_init wsX4_init 1 12 3 18 D cy [.ref h] [(h, .inr (4, [.int 0, .null, .null, .null]))] (fun q => wTh cy h q) := by
  refine b_Mv.of (cc := cX4_init) (maxL := 1) [(0, .ref h)] (by decide +kernel) rfl (Nat.le_of_ble_eq_true rfl) rfl ?_
  intro Γ K hnm ret
  have i_X4 : ∀ w ∈ u_ws RX4 TX4 4, w ∈ wsX4_init := by decide +kernel
  refine z_aload_n (pc := 0) K 0 dX4_init_0 rfl rfl ?_
  refine z_obj (pc := 1) (st := []) K (by decide +kernel) (by decide +kernel) (by decide +kernel) (by decide) (Nat.le_of_ble_eq_true rfl) dX4_init_1 ?_
  refine z_aload_n (pc := 4) K 0 dX4_init_4 rfl rfl ?_
  refine z_iconst (pc := 5) (v := 0) K dX4_init_5 (by decide) ?_
  refine z_put (pc := 6) (index := 9) (C := RX4) (T := TX4) (N := 4) (ref := "OldMap$Things") (ty := .int) (ws' := [(h, .inr (4, [.int 0, .null, .null, .null]))]) K 0 0 rfl rfl i_X4 (by decide) (by decide +kernel) rfl tyX4 tyX4_ok nmX4 rfl (by decide +kernel) rfl rfl (Nat.le_of_ble_eq_true rfl) rfl dX4_init_6 ?_
  refine z_aload_n (pc := 9) K 0 dX4_init_9 rfl rfl ?_
  refine z_bipush (pc := 10) (v := 6) K dX4_init_10 (by decide) ?_
  refine z_newaI (pc := 12) (N := 6) K (by decide +kernel) rfl (by decide) (by decide) (by decide) dX4_init_12 (fun n12 => ?_)
  refine z_ws (ws' := [(h, .inr (4, [.int 0, .null, .null, .null])), (n12, b_row cy 6)]) rfl ?_
  refine z_putF (pc := 14) (index := 15) (C := RX4) (T := TX4) (N := 4) (ref := "OldMap$Things") (ty := (.array .int)) (ws' := [(h, .inr (4, [.int 0, .ref (n12), .null, .null])), (n12, b_row cy 6)]) K hnm 0 1 rfl rfl i_X4 (by decide) (by decide +kernel) rfl tyX4 tyX4_ok nmX4 rfl rfl (by decide +kernel) rfl rfl (Nat.le_of_ble_eq_true rfl) rfl dX4_init_14 ?_
  refine z_aload_n (pc := 17) K 0 dX4_init_17 rfl rfl ?_
  refine z_bipush (pc := 18) (v := 6) K dX4_init_18 (by decide) ?_
  refine z_newaI (pc := 20) (N := 6) K (by decide +kernel) rfl (by decide) (by decide) (by decide) dX4_init_20 (fun n20 => ?_)
  refine z_ws (ws' := [(h, .inr (4, [.int 0, .ref (n12), .null, .null])), (n12, b_row cy 6), (n20, b_row cy 6)]) rfl ?_
  refine z_putF (pc := 22) (index := 19) (C := RX4) (T := TX4) (N := 4) (ref := "OldMap$Things") (ty := (.array .int)) (ws' := [(h, .inr (4, [.int 0, .ref (n12), .ref (n20), .null])), (n12, b_row cy 6), (n20, b_row cy 6)]) K hnm 0 2 rfl rfl i_X4 (by decide) (by decide +kernel) rfl tyX4 tyX4_ok nmX4 rfl rfl (by decide +kernel) rfl rfl (Nat.le_of_ble_eq_true rfl) rfl dX4_init_22 ?_
  refine z_aload_n (pc := 25) K 0 dX4_init_25 rfl rfl ?_
  refine z_bipush (pc := 26) (v := 6) K dX4_init_26 (by decide) ?_
  refine z_newaI (pc := 28) (N := 6) K (by decide +kernel) rfl (by decide) (by decide) (by decide) dX4_init_28 (fun n28 => ?_)
  refine z_ws (ws' := [(h, .inr (4, [.int 0, .ref (n12), .ref (n20), .null])), (n12, b_row cy 6), (n20, b_row cy 6), (n28, b_row cy 6)]) rfl ?_
  refine z_putF (pc := 30) (index := 22) (C := RX4) (T := TX4) (N := 4) (ref := "OldMap$Things") (ty := (.array .int)) (ws' := [(h, .inr (4, [.int 0, .ref (n12), .ref (n20), .ref (n28)])), (n12, b_row cy 6), (n20, b_row cy 6), (n28, b_row cy 6)]) K hnm 0 3 rfl rfl i_X4 (by decide) (by decide +kernel) rfl tyX4 tyX4_ok nmX4 rfl rfl (by decide +kernel) rfl rfl (Nat.le_of_ble_eq_true rfl) rfl dX4_init_30 ?_
  exact ret (pc := 33) (n12, n20, n28) dX4_init_33 (by decide) (by decide)
set_option maxHeartbeats 2000000 in
set_option maxRecDepth 100000 in
theorem c_X2_init (l : Launch) (D : va_G) (cy : Nat → ClassId) (h : Nat) : b_Mv (S := Nat × (Nat → Nat)) l yX2_init wsX2_init 1 12 5 52 D cy [.ref h] [(h, .inr (2, [.int 0, .null, .int 0, .int 0]))] (fun q => wPo cy h q) := by
  refine b_Mv.of (cc := cX2_init) (maxL := 1) [(0, .ref h)] (by decide +kernel) rfl (Nat.le_of_ble_eq_true rfl) rfl ?_
  intro Γ K hnm ret
  have i_X2 : ∀ w ∈ u_ws RX2 TX2 4, w ∈ wsX2_init := by decide +kernel
  refine z_aload_n (pc := 0) K 0 dX2_init_0 rfl rfl ?_
  refine z_obj (pc := 1) (st := []) K (by decide +kernel) (by decide +kernel) (by decide +kernel) (by decide) (Nat.le_of_ble_eq_true rfl) dX2_init_1 ?_
  refine z_aload_n (pc := 4) K 0 dX2_init_4 rfl rfl ?_
  refine z_iconst (pc := 5) (v := 0) K dX2_init_5 (by decide) ?_
  refine z_put (pc := 6) (index := 9) (C := RX2) (T := TX2) (N := 4) (ref := "OldMap$Points") (ty := .int) (ws' := [(h, .inr (2, [.int 0, .null, .int 0, .int 0]))]) K 0 0 rfl rfl i_X2 (by decide) (by decide +kernel) rfl tyX2 tyX2_ok nmX2 rfl (by decide +kernel) rfl rfl (Nat.le_of_ble_eq_true rfl) rfl dX2_init_6 ?_
  refine z_aload_n (pc := 9) K 0 dX2_init_9 rfl rfl ?_
  refine z_iconst (pc := 10) (v := 4) K dX2_init_10 (by decide) ?_
  refine z_bipush (pc := 11) (v := 12) K dX2_init_11 (by decide) ?_
  refine z_mna (pc := 13) (N := 4) (M := 12) K (by decide +kernel) (by decide +kernel) rfl rfl (by decide) (by decide) (by decide) (by decide) dX2_init_13 (fun n13 r13 => ?_)
  refine z_ws (ws' := [(h, .inr (2, [.int 0, .null, .int 0, .int 0]))] ++ (((n13, b_out cy 4 r13) :: (List.range 4).map (fun i => (r13 i, b_row cy 12))))) rfl ?_
  refine z_putF (pc := 17) (index := 17) (C := RX2) (T := TX2) (N := 4) (ref := "OldMap$Points") (ty := (.array (.array .int))) (ws' := [(h, .inr (2, [.int 0, .ref (n13), .int 0, .int 0]))] ++ (((n13, b_out cy 4 r13) :: (List.range 4).map (fun i => (r13 i, b_row cy 12))))) K hnm 0 1 rfl rfl i_X2 (by decide) (by decide +kernel) rfl tyX2 tyX2_ok nmX2 rfl rfl (by decide +kernel) rfl rfl (Nat.le_of_ble_eq_true rfl) rfl dX2_init_17 ?_
  refine z_aload_n (pc := 20) K 0 dX2_init_20 rfl rfl ?_
  refine z_iconst (pc := 21) (v := 0) K dX2_init_21 (by decide) ?_
  refine z_put (pc := 22) (index := 20) (C := RX2) (T := TX2) (N := 4) (ref := "OldMap$Points") (ty := .int) (ws' := [(h, .inr (2, [.int 0, .ref (n13), .int 0, .int 0]))] ++ (((n13, b_out cy 4 r13) :: (List.range 4).map (fun i => (r13 i, b_row cy 12))))) K 0 2 rfl rfl i_X2 (by decide) (by decide +kernel) rfl tyX2 tyX2_ok nmX2 rfl (by decide +kernel) rfl rfl (Nat.le_of_ble_eq_true rfl) rfl dX2_init_22 ?_
  refine z_aload_n (pc := 25) K 0 dX2_init_25 rfl rfl ?_
  refine z_iconst (pc := 26) (v := 0) K dX2_init_26 (by decide) ?_
  refine z_put (pc := 27) (index := 23) (C := RX2) (T := TX2) (N := 4) (ref := "OldMap$Points") (ty := .int) (ws' := [(h, .inr (2, [.int 0, .ref (n13), .int 0, .int 0]))] ++ (((n13, b_out cy 4 r13) :: (List.range 4).map (fun i => (r13 i, b_row cy 12))))) K 0 3 rfl rfl i_X2 (by decide) (by decide +kernel) rfl tyX2 tyX2_ok nmX2 rfl (by decide +kernel) rfl rfl (Nat.le_of_ble_eq_true rfl) rfl dX2_init_27 ?_
  exact ret (pc := 30) (n13, r13) dX2_init_30 (by decide) (by decide)
set_option maxHeartbeats 2000000 in
set_option maxRecDepth 100000 in
theorem c_X5_init (l : Launch) (D : va_G) (cy : Nat → ClassId) (h : Nat) (p : Nat) : b_Mv (S := Nat × (Nat → Nat)) l yX5_init wsX5_init 1 12 11 40 D cy [.ref h, .ref p] [(h, .inr (5, [.null, .int 0, .null]))] (fun q => wTr cy p h q) := by
  refine b_Mv.of (cc := cX5_init) (maxL := 2) [(0, .ref h), (1, .ref p)] (by decide +kernel) rfl (Nat.le_of_ble_eq_true rfl) rfl ?_
  intro Γ K hnm ret
  have i_X5 : ∀ w ∈ u_ws RX5 TX5 3, w ∈ wsX5_init := by decide +kernel
  refine z_aload_n (pc := 0) K 0 dX5_init_0 rfl rfl ?_
  refine z_obj (pc := 1) (st := []) K (by decide +kernel) (by decide +kernel) (by decide +kernel) (by decide) (Nat.le_of_ble_eq_true rfl) dX5_init_1 ?_
  refine z_aload_n (pc := 4) K 0 dX5_init_4 rfl rfl ?_
  refine z_iconst (pc := 5) (v := 0) K dX5_init_5 (by decide) ?_
  refine z_put (pc := 6) (index := 9) (C := RX5) (T := TX5) (N := 3) (ref := "OldMap$Triangles") (ty := .int) (ws' := [(h, .inr (5, [.null, .int 0, .null]))]) K 0 1 rfl rfl i_X5 (by decide) (by decide +kernel) rfl tyX5 tyX5_ok nmX5 rfl (by decide +kernel) rfl rfl (Nat.le_of_ble_eq_true rfl) rfl dX5_init_6 ?_
  refine z_aload_n (pc := 9) K 0 dX5_init_9 rfl rfl ?_
  refine z_bipush (pc := 10) (v := 10) K dX5_init_10 (by decide) ?_
  refine z_iconst (pc := 12) (v := 3) K dX5_init_12 (by decide) ?_
  refine z_mna (pc := 13) (N := 10) (M := 3) K (by decide +kernel) (by decide +kernel) rfl rfl (by decide) (by decide) (by decide) (by decide) dX5_init_13 (fun n13 r13 => ?_)
  refine z_ws (ws' := [(h, .inr (5, [.null, .int 0, .null]))] ++ (((n13, b_out cy 10 r13) :: (List.range 10).map (fun i => (r13 i, b_row cy 3))))) rfl ?_
  refine z_putF (pc := 17) (index := 17) (C := RX5) (T := TX5) (N := 3) (ref := "OldMap$Triangles") (ty := (.array (.array .int))) (ws' := [(h, .inr (5, [.null, .int 0, .ref (n13)]))] ++ (((n13, b_out cy 10 r13) :: (List.range 10).map (fun i => (r13 i, b_row cy 3))))) K hnm 0 2 rfl rfl i_X5 (by decide) (by decide +kernel) rfl tyX5 tyX5_ok nmX5 rfl rfl (by decide +kernel) rfl rfl (Nat.le_of_ble_eq_true rfl) rfl dX5_init_17 ?_
  refine z_aload_n (pc := 20) K 0 dX5_init_20 rfl rfl ?_
  refine z_aload_n (pc := 21) K 1 dX5_init_21 rfl rfl ?_
  refine z_putF (pc := 22) (index := 20) (C := RX5) (T := TX5) (N := 3) (ref := "OldMap$Triangles") (ty := (.object "OldMap$Points")) (ws' := [(h, .inr (5, [.ref (p), .int 0, .ref (n13)]))] ++ (((n13, b_out cy 10 r13) :: (List.range 10).map (fun i => (r13 i, b_row cy 3))))) K hnm 0 0 rfl rfl i_X5 (by decide) (by decide +kernel) rfl tyX5 tyX5_ok nmX5 rfl rfl (by decide +kernel) rfl rfl (Nat.le_of_ble_eq_true rfl) rfl dX5_init_22 ?_
  exact ret (pc := 25) (n13, r13) dX5_init_25 (by decide) (by decide)
set_option maxHeartbeats 2000000 in
set_option maxRecDepth 100000 in
theorem c_X6_init (l : Launch) (D : va_G) (cy : Nat → ClassId) (h : Nat) : b_Mv (S := Unit) l yX6_init wsX6_init 1 12 0 0 D cy [.ref h] [(h, .inr (6, [.long 0, .long 0, .long 0, .long 0]))] (fun _ => wWy h) := by
  refine b_Mv.of (cc := cX6_init) (maxL := 1) [(0, .ref h)] (by decide +kernel) rfl (Nat.le_of_ble_eq_true rfl) rfl ?_
  intro Γ K hnm ret
  have i_X6 : ∀ w ∈ u_ws RX6 TX6 4, w ∈ wsX6_init := by decide +kernel
  refine z_aload_n (pc := 0) K 0 dX6_init_0 rfl rfl ?_
  refine z_obj (pc := 1) (st := []) K (by decide +kernel) (by decide +kernel) (by decide +kernel) (by decide) (Nat.le_of_ble_eq_true rfl) dX6_init_1 ?_
  refine z_aload_n (pc := 4) K 0 dX6_init_4 rfl rfl ?_
  refine z_lconst (pc := 5) (v := 0) K dX6_init_5 (by decide) ?_
  refine z_put (pc := 6) (index := 7) (C := RX6) (T := TX6) (N := 4) (ref := "OldMap$Way") (ty := .long) (ws' := [(h, .inr (6, [.long 0, .long 0, .long 0, .long 0]))]) K 0 0 rfl rfl i_X6 (by decide) (by decide +kernel) rfl tyX6 tyX6_ok nmX6 rfl (by decide +kernel) rfl rfl (Nat.le_of_ble_eq_true rfl) rfl dX6_init_6 ?_
  refine z_aload_n (pc := 9) K 0 dX6_init_9 rfl rfl ?_
  refine z_lconst (pc := 10) (v := 0) K dX6_init_10 (by decide) ?_
  refine z_put (pc := 11) (index := 13) (C := RX6) (T := TX6) (N := 4) (ref := "OldMap$Way") (ty := .long) (ws' := [(h, .inr (6, [.long 0, .long 0, .long 0, .long 0]))]) K 0 1 rfl rfl i_X6 (by decide) (by decide +kernel) rfl tyX6 tyX6_ok nmX6 rfl (by decide +kernel) rfl rfl (Nat.le_of_ble_eq_true rfl) rfl dX6_init_11 ?_
  refine z_aload_n (pc := 14) K 0 dX6_init_14 rfl rfl ?_
  refine z_lconst (pc := 15) (v := 0) K dX6_init_15 (by decide) ?_
  refine z_put (pc := 16) (index := 16) (C := RX6) (T := TX6) (N := 4) (ref := "OldMap$Way") (ty := .long) (ws' := [(h, .inr (6, [.long 0, .long 0, .long 0, .long 0]))]) K 0 2 rfl rfl i_X6 (by decide) (by decide +kernel) rfl tyX6 tyX6_ok nmX6 rfl (by decide +kernel) rfl rfl (Nat.le_of_ble_eq_true rfl) rfl dX6_init_16 ?_
  refine z_aload_n (pc := 19) K 0 dX6_init_19 rfl rfl ?_
  refine z_lconst (pc := 20) (v := 1) K dX6_init_20 (by decide) ?_
  refine z_put (pc := 21) (index := 19) (C := RX6) (T := TX6) (N := 4) (ref := "OldMap$Way") (ty := .long) (ws' := [(h, .inr (6, [.long 0, .long 0, .long 0, .long 1]))]) K 0 3 rfl rfl i_X6 (by decide) (by decide +kernel) rfl tyX6 tyX6_ok nmX6 rfl (by decide +kernel) rfl rfl (Nat.le_of_ble_eq_true rfl) rfl dX6_init_21 ?_
  exact ret (pc := 24) () dX6_init_24 (by decide) (by decide)
set_option maxHeartbeats 2000000 in
set_option maxRecDepth 100000 in
theorem c_X0_init (l : Launch) (D : va_G) (cy : Nat → ClassId) (h : Nat) (p : Nat) : b_Mv (S := Nat × Nat × Nat) l yX0_init wsX0_init 2 32 3 12 D cy [.ref h, .ref p] [(h, .inr (0, [.null, .null, .null, .null, .int 0, .int 0, .long 0]))] (fun q => wBe cy p h q) := by
  refine b_Mv.of (cc := cX0_init) (maxL := 2) [(0, .ref h), (1, .ref p)] (by decide +kernel) rfl (Nat.le_of_ble_eq_true rfl) rfl ?_
  intro Γ K hnm ret
  have i_X0 : ∀ w ∈ u_ws RX0 TX0 7, w ∈ wsX0_init := by decide +kernel
  refine z_aload_n (pc := 0) K 0 dX0_init_0 rfl rfl ?_
  refine z_obj (pc := 1) (st := []) K (by decide +kernel) (by decide +kernel) (by decide +kernel) (by decide) (Nat.le_of_ble_eq_true rfl) dX0_init_1 ?_
  refine z_aload_n (pc := 4) K 0 dX0_init_4 rfl rfl ?_
  refine z_new (pc := 5) (ci := 6) (C := RX6) (T := TX6) (N := 4) (fs := [.long 0, .long 0, .long 0, .long 0]) K (by decide +kernel) tyX6 tyX6_ok (by decide +kernel) (by decide +kernel) (by decide +kernel) rfl (fun j hj => by rcases (show j = 0 ∨ j = 1 ∨ j = 2 ∨ j = 3 by omega) with rfl | rfl | rfl | rfl <;> rfl) (by decide) (by decide) dX0_init_5 (fun n5 => ?_)
  refine z_dup (pc := 8) K dX0_init_8 rfl ?_
  refine z_ws (ws' := ([(h, .inr (0, [.null, .null, .null, .null, .int 0, .int 0, .long 0]))]) ++ [(n5, .inr (6, [.long 0, .long 0, .long 0, .long 0]))]) rfl ?_
  refine z_callIN (pc := 9) (st := [_, _]) (n := 0) (host := "OldMap") K (c_X6_init l D cy n5) gX0_init_X6_init_n11 (by decide +kernel) (by decide +kernel) (by decide +kernel) rfl (by decide +kernel) rfl (by decide) (by decide) rfl rfl (Nat.le_of_ble_eq_true rfl) (by decide) (by decide) dX0_init_9 (fun u9 => ?_)
  refine z_ws (ws' := [(h, .inr (0, [.null, .null, .null, .null, .int 0, .int 0, .long 0]))] ++ ((wWy n5))) rfl ?_
  refine z_putF (pc := 12) (index := 12) (C := RX0) (T := TX0) (N := 7) (ref := "OldMap$Bend") (ty := (.object "OldMap$Way")) (ws' := [(h, .inr (0, [.null, .ref (n5), .null, .null, .int 0, .int 0, .long 0]))] ++ ((wWy n5))) K hnm 0 1 rfl rfl i_X0 (by decide) (by decide +kernel) rfl tyX0 tyX0_ok nmX0 rfl rfl (by decide +kernel) rfl rfl (Nat.le_of_ble_eq_true rfl) rfl dX0_init_12 ?_
  refine z_aload_n (pc := 15) K 0 dX0_init_15 rfl rfl ?_
  refine z_new (pc := 16) (ci := 6) (C := RX6) (T := TX6) (N := 4) (fs := [.long 0, .long 0, .long 0, .long 0]) K (by decide +kernel) tyX6 tyX6_ok (by decide +kernel) (by decide +kernel) (by decide +kernel) rfl (fun j hj => by rcases (show j = 0 ∨ j = 1 ∨ j = 2 ∨ j = 3 by omega) with rfl | rfl | rfl | rfl <;> rfl) (by decide) (by decide) dX0_init_16 (fun n16 => ?_)
  refine z_dup (pc := 19) K dX0_init_19 rfl ?_
  refine z_ws (ws' := ([(h, .inr (0, [.null, .ref (n5), .null, .null, .int 0, .int 0, .long 0]))] ++ ((wWy n5))) ++ [(n16, .inr (6, [.long 0, .long 0, .long 0, .long 0]))]) rfl ?_
  refine z_callIN (pc := 20) (st := [_, _]) (n := 0) (host := "OldMap") K (c_X6_init l D cy n16) gX0_init_X6_init_n11 (by decide +kernel) (by decide +kernel) (by decide +kernel) rfl (by decide +kernel) rfl (by decide) (by decide) rfl rfl (Nat.le_of_ble_eq_true rfl) (by decide) (by decide) dX0_init_20 (fun u20 => ?_)
  refine z_ws (ws' := [(h, .inr (0, [.null, .ref (n5), .null, .null, .int 0, .int 0, .long 0]))] ++ ((wWy n5) ++ ((wWy n16)))) rfl ?_
  refine z_putF (pc := 23) (index := 18) (C := RX0) (T := TX0) (N := 7) (ref := "OldMap$Bend") (ty := (.object "OldMap$Way")) (ws' := [(h, .inr (0, [.null, .ref (n5), .ref (n16), .null, .int 0, .int 0, .long 0]))] ++ ((wWy n5) ++ ((wWy n16)))) K hnm 0 2 rfl rfl i_X0 (by decide) (by decide +kernel) rfl tyX0 tyX0_ok nmX0 rfl rfl (by decide +kernel) rfl rfl (Nat.le_of_ble_eq_true rfl) rfl dX0_init_23 ?_
  refine z_aload_n (pc := 26) K 0 dX0_init_26 rfl rfl ?_
  refine z_iconst (pc := 27) (v := 4) K dX0_init_27 (by decide) ?_
  refine z_newaL (pc := 28) (N := 4) K (by decide +kernel) rfl (by decide) (by decide) (by decide) dX0_init_28 (fun n28 => ?_)
  refine z_ws (ws' := [(h, .inr (0, [.null, .ref (n5), .ref (n16), .null, .int 0, .int 0, .long 0]))] ++ ((wWy n5) ++ ((wWy n16) ++ ([(n28, .inl (cy 1, 4, .inr (.inl (fun _ => 0))))])))) rfl ?_
  refine z_putF (pc := 30) (index := 23) (C := RX0) (T := TX0) (N := 7) (ref := "OldMap$Bend") (ty := (.array .long)) (ws' := [(h, .inr (0, [.null, .ref (n5), .ref (n16), .ref (n28), .int 0, .int 0, .long 0]))] ++ ((wWy n5) ++ ((wWy n16) ++ ([(n28, .inl (cy 1, 4, .inr (.inl (fun _ => 0))))])))) K hnm 0 3 rfl rfl i_X0 (by decide) (by decide +kernel) rfl tyX0 tyX0_ok nmX0 rfl rfl (by decide +kernel) rfl rfl (Nat.le_of_ble_eq_true rfl) rfl dX0_init_30 ?_
  refine z_aload_n (pc := 33) K 0 dX0_init_33 rfl rfl ?_
  refine z_iconst (pc := 34) (v := 0) K dX0_init_34 (by decide) ?_
  refine z_put (pc := 35) (index := 27) (C := RX0) (T := TX0) (N := 7) (ref := "OldMap$Bend") (ty := .int) (ws' := [(h, .inr (0, [.null, .ref (n5), .ref (n16), .ref (n28), .int 0, .int 0, .long 0]))] ++ ((wWy n5) ++ ((wWy n16) ++ ([(n28, .inl (cy 1, 4, .inr (.inl (fun _ => 0))))])))) K 0 4 rfl rfl i_X0 (by decide) (by decide +kernel) rfl tyX0 tyX0_ok nmX0 rfl (by decide +kernel) rfl rfl (Nat.le_of_ble_eq_true rfl) rfl dX0_init_35 ?_
  refine z_aload_n (pc := 38) K 0 dX0_init_38 rfl rfl ?_
  refine z_iconst (pc := 39) (v := 0) K dX0_init_39 (by decide) ?_
  refine z_put (pc := 40) (index := 31) (C := RX0) (T := TX0) (N := 7) (ref := "OldMap$Bend") (ty := .int) (ws' := [(h, .inr (0, [.null, .ref (n5), .ref (n16), .ref (n28), .int 0, .int 0, .long 0]))] ++ ((wWy n5) ++ ((wWy n16) ++ ([(n28, .inl (cy 1, 4, .inr (.inl (fun _ => 0))))])))) K 0 5 rfl rfl i_X0 (by decide) (by decide +kernel) rfl tyX0 tyX0_ok nmX0 rfl (by decide +kernel) rfl rfl (Nat.le_of_ble_eq_true rfl) rfl dX0_init_40 ?_
  refine z_aload_n (pc := 43) K 0 dX0_init_43 rfl rfl ?_
  refine z_lconst (pc := 44) (v := 0) K dX0_init_44 (by decide) ?_
  refine z_put (pc := 45) (index := 34) (C := RX0) (T := TX0) (N := 7) (ref := "OldMap$Bend") (ty := .long) (ws' := [(h, .inr (0, [.null, .ref (n5), .ref (n16), .ref (n28), .int 0, .int 0, .long 0]))] ++ ((wWy n5) ++ ((wWy n16) ++ ([(n28, .inl (cy 1, 4, .inr (.inl (fun _ => 0))))])))) K 0 6 rfl rfl i_X0 (by decide) (by decide +kernel) rfl tyX0 tyX0_ok nmX0 rfl (by decide +kernel) rfl rfl (Nat.le_of_ble_eq_true rfl) rfl dX0_init_45 ?_
  refine z_aload_n (pc := 48) K 0 dX0_init_48 rfl rfl ?_
  refine z_aload_n (pc := 49) K 1 dX0_init_49 rfl rfl ?_
  refine z_putF (pc := 50) (index := 38) (C := RX0) (T := TX0) (N := 7) (ref := "OldMap$Bend") (ty := (.object "OldMap$Points")) (ws' := [(h, .inr (0, [.ref (p), .ref (n5), .ref (n16), .ref (n28), .int 0, .int 0, .long 0]))] ++ ((wWy n5) ++ ((wWy n16) ++ ([(n28, .inl (cy 1, 4, .inr (.inl (fun _ => 0))))])))) K hnm 0 0 rfl rfl i_X0 (by decide) (by decide +kernel) rfl tyX0 tyX0_ok nmX0 rfl rfl (by decide +kernel) rfl rfl (Nat.le_of_ble_eq_true rfl) rfl dX0_init_50 ?_
  exact ret (pc := 53) (n5, n16, n28) dX0_init_53 (by decide) (by decide)
set_option maxHeartbeats 2000000 in
set_option maxRecDepth 100000 in
theorem c_X1_init (l : Launch) (D : va_G) (cy : Nat → ClassId) (h : Nat) (p q r : Nat) : b_Mv (S := SMa) l yX1_init wsX1_init 1 12 16 503 D cy [.ref h, .ref p, .ref q, .ref r] [(h, .inr (1, [.null, .null, .null, .null, .null, .null, .int 0]))] (fun u => wMa cy p q r h u) := by
  refine b_Mv.of (cc := cX1_init) (maxL := 4) [(0, .ref h), (1, .ref p), (2, .ref q), (3, .ref r)] (by decide +kernel) rfl (Nat.le_of_ble_eq_true rfl) rfl ?_
  intro Γ K hnm ret
  have i_X1 : ∀ w ∈ u_ws RX1 TX1 7, w ∈ wsX1_init := by decide +kernel
  refine z_aload_n (pc := 0) K 0 dX1_init_0 rfl rfl ?_
  refine z_obj (pc := 1) (st := []) K (by decide +kernel) (by decide +kernel) (by decide +kernel) (by decide) (Nat.le_of_ble_eq_true rfl) dX1_init_1 ?_
  refine z_aload_n (pc := 4) K 0 dX1_init_4 rfl rfl ?_
  refine z_bipush (pc := 5) (v := 6) K dX1_init_5 (by decide) ?_
  refine z_bipush (pc := 7) (v := 6) K dX1_init_7 (by decide) ?_
  refine z_mna (pc := 9) (N := 6) (M := 6) K (by decide +kernel) (by decide +kernel) rfl rfl (by decide) (by decide) (by decide) (by decide) dX1_init_9 (fun n9 r9 => ?_)
  refine z_ws (ws' := [(h, .inr (1, [.null, .null, .null, .null, .null, .null, .int 0]))] ++ (((n9, b_out cy 6 r9) :: (List.range 6).map (fun i => (r9 i, b_row cy 6))))) rfl ?_
  refine z_putF (pc := 13) (index := 11) (C := RX1) (T := TX1) (N := 7) (ref := "OldMap$Match") (ty := (.array (.array .int))) (ws' := [(h, .inr (1, [.null, .null, .null, .ref (n9), .null, .null, .int 0]))] ++ (((n9, b_out cy 6 r9) :: (List.range 6).map (fun i => (r9 i, b_row cy 6))))) K hnm 0 3 rfl rfl i_X1 (by decide) (by decide +kernel) rfl tyX1 tyX1_ok nmX1 rfl rfl (by decide +kernel) rfl rfl (Nat.le_of_ble_eq_true rfl) rfl dX1_init_13 ?_
  refine z_aload_n (pc := 16) K 0 dX1_init_16 rfl rfl ?_
  refine z_bipush (pc := 17) (v := 7) K dX1_init_17 (by decide) ?_
  refine z_bipush (pc := 19) (v := 64) K dX1_init_19 (by decide) ?_
  refine z_mna (pc := 21) (N := 7) (M := 64) K (by decide +kernel) (by decide +kernel) rfl rfl (by decide) (by decide) (by decide) (by decide) dX1_init_21 (fun n21 r21 => ?_)
  refine z_ws (ws' := [(h, .inr (1, [.null, .null, .null, .ref (n9), .null, .null, .int 0]))] ++ (((n9, b_out cy 6 r9) :: (List.range 6).map (fun i => (r9 i, b_row cy 6))) ++ (((n21, b_out cy 7 r21) :: (List.range 7).map (fun i => (r21 i, b_row cy 64)))))) rfl ?_
  refine z_putF (pc := 25) (index := 16) (C := RX1) (T := TX1) (N := 7) (ref := "OldMap$Match") (ty := (.array (.array .int))) (ws' := [(h, .inr (1, [.null, .null, .null, .ref (n9), .ref (n21), .null, .int 0]))] ++ (((n9, b_out cy 6 r9) :: (List.range 6).map (fun i => (r9 i, b_row cy 6))) ++ (((n21, b_out cy 7 r21) :: (List.range 7).map (fun i => (r21 i, b_row cy 64)))))) K hnm 0 4 rfl rfl i_X1 (by decide) (by decide +kernel) rfl tyX1 tyX1_ok nmX1 rfl rfl (by decide +kernel) rfl rfl (Nat.le_of_ble_eq_true rfl) rfl dX1_init_25 ?_
  refine z_aload_n (pc := 28) K 0 dX1_init_28 rfl rfl ?_
  refine z_bipush (pc := 29) (v := 6) K dX1_init_29 (by decide) ?_
  refine z_newaI (pc := 31) (N := 6) K (by decide +kernel) rfl (by decide) (by decide) (by decide) dX1_init_31 (fun n31 => ?_)
  refine z_ws (ws' := [(h, .inr (1, [.null, .null, .null, .ref (n9), .ref (n21), .null, .int 0]))] ++ (((n9, b_out cy 6 r9) :: (List.range 6).map (fun i => (r9 i, b_row cy 6))) ++ (((n21, b_out cy 7 r21) :: (List.range 7).map (fun i => (r21 i, b_row cy 64))) ++ ([(n31, b_row cy 6)])))) rfl ?_
  refine z_putF (pc := 33) (index := 19) (C := RX1) (T := TX1) (N := 7) (ref := "OldMap$Match") (ty := (.array .int)) (ws' := [(h, .inr (1, [.null, .null, .null, .ref (n9), .ref (n21), .ref (n31), .int 0]))] ++ (((n9, b_out cy 6 r9) :: (List.range 6).map (fun i => (r9 i, b_row cy 6))) ++ (((n21, b_out cy 7 r21) :: (List.range 7).map (fun i => (r21 i, b_row cy 64))) ++ ([(n31, b_row cy 6)])))) K hnm 0 5 rfl rfl i_X1 (by decide) (by decide +kernel) rfl tyX1 tyX1_ok nmX1 rfl rfl (by decide +kernel) rfl rfl (Nat.le_of_ble_eq_true rfl) rfl dX1_init_33 ?_
  refine z_aload_n (pc := 36) K 0 dX1_init_36 rfl rfl ?_
  refine z_iconst (pc := 37) (v := 0) K dX1_init_37 (by decide) ?_
  refine z_put (pc := 38) (index := 23) (C := RX1) (T := TX1) (N := 7) (ref := "OldMap$Match") (ty := .int) (ws' := [(h, .inr (1, [.null, .null, .null, .ref (n9), .ref (n21), .ref (n31), .int 0]))] ++ (((n9, b_out cy 6 r9) :: (List.range 6).map (fun i => (r9 i, b_row cy 6))) ++ (((n21, b_out cy 7 r21) :: (List.range 7).map (fun i => (r21 i, b_row cy 64))) ++ ([(n31, b_row cy 6)])))) K 0 6 rfl rfl i_X1 (by decide) (by decide +kernel) rfl tyX1 tyX1_ok nmX1 rfl (by decide +kernel) rfl rfl (Nat.le_of_ble_eq_true rfl) rfl dX1_init_38 ?_
  refine z_aload_n (pc := 41) K 0 dX1_init_41 rfl rfl ?_
  refine z_aload_n (pc := 42) K 1 dX1_init_42 rfl rfl ?_
  refine z_putF (pc := 43) (index := 27) (C := RX1) (T := TX1) (N := 7) (ref := "OldMap$Match") (ty := (.object "OldMap$Things")) (ws' := [(h, .inr (1, [.ref (p), .null, .null, .ref (n9), .ref (n21), .ref (n31), .int 0]))] ++ (((n9, b_out cy 6 r9) :: (List.range 6).map (fun i => (r9 i, b_row cy 6))) ++ (((n21, b_out cy 7 r21) :: (List.range 7).map (fun i => (r21 i, b_row cy 64))) ++ ([(n31, b_row cy 6)])))) K hnm 0 0 rfl rfl i_X1 (by decide) (by decide +kernel) rfl tyX1 tyX1_ok nmX1 rfl rfl (by decide +kernel) rfl rfl (Nat.le_of_ble_eq_true rfl) rfl dX1_init_43 ?_
  refine z_aload_n (pc := 46) K 0 dX1_init_46 rfl rfl ?_
  refine z_aload_n (pc := 47) K 2 dX1_init_47 rfl rfl ?_
  refine z_putF (pc := 48) (index := 31) (C := RX1) (T := TX1) (N := 7) (ref := "OldMap$Match") (ty := (.object "OldMap$Things")) (ws' := [(h, .inr (1, [.ref (p), .ref (q), .null, .ref (n9), .ref (n21), .ref (n31), .int 0]))] ++ (((n9, b_out cy 6 r9) :: (List.range 6).map (fun i => (r9 i, b_row cy 6))) ++ (((n21, b_out cy 7 r21) :: (List.range 7).map (fun i => (r21 i, b_row cy 64))) ++ ([(n31, b_row cy 6)])))) K hnm 0 1 rfl rfl i_X1 (by decide) (by decide +kernel) rfl tyX1 tyX1_ok nmX1 rfl rfl (by decide +kernel) rfl rfl (Nat.le_of_ble_eq_true rfl) rfl dX1_init_48 ?_
  refine z_aload_n (pc := 51) K 0 dX1_init_51 rfl rfl ?_
  refine z_aload_n (pc := 52) K 3 dX1_init_52 rfl rfl ?_
  refine z_putF (pc := 53) (index := 34) (C := RX1) (T := TX1) (N := 7) (ref := "OldMap$Match") (ty := (.object "OldMap$Bend")) (ws' := [(h, .inr (1, [.ref (p), .ref (q), .ref (r), .ref (n9), .ref (n21), .ref (n31), .int 0]))] ++ (((n9, b_out cy 6 r9) :: (List.range 6).map (fun i => (r9 i, b_row cy 6))) ++ (((n21, b_out cy 7 r21) :: (List.range 7).map (fun i => (r21 i, b_row cy 64))) ++ ([(n31, b_row cy 6)])))) K hnm 0 2 rfl rfl i_X1 (by decide) (by decide +kernel) rfl tyX1 tyX1_ok nmX1 rfl rfl (by decide +kernel) rfl rfl (Nat.le_of_ble_eq_true rfl) rfl dX1_init_53 ?_
  exact ret (pc := 56) ((n9, r9), (n21, r21), n31) dX1_init_56 (by decide) (by decide)
set_option maxHeartbeats 2000000 in
set_option maxRecDepth 100000 in
theorem c_X3_init (l : Launch) (D : va_G) (cy : Nat → ClassId) (h : Nat) : b_Mv (S := STa) l yX3_init wsX3_init 2 33 26 143 D cy [.ref h] [(h, .inr (3, [.null, .null, .null, .null]))] (fun q => wTa cy h q) := by
  refine b_Mv.of (cc := cX3_init) (maxL := 1) [(0, .ref h)] (by decide +kernel) rfl (Nat.le_of_ble_eq_true rfl) rfl ?_
  intro Γ K hnm ret
  have i_X3 : ∀ w ∈ u_ws RX3 TX3 4, w ∈ wsX3_init := by decide +kernel
  refine z_aload_n (pc := 0) K 0 dX3_init_0 rfl rfl ?_
  refine z_obj (pc := 1) (st := []) K (by decide +kernel) (by decide +kernel) (by decide +kernel) (by decide) (Nat.le_of_ble_eq_true rfl) dX3_init_1 ?_
  refine z_aload_n (pc := 4) K 0 dX3_init_4 rfl rfl ?_
  refine z_new (pc := 5) (ci := 2) (C := RX2) (T := TX2) (N := 4) (fs := [.int 0, .null, .int 0, .int 0]) K (by decide +kernel) tyX2 tyX2_ok (by decide +kernel) (by decide +kernel) (by decide +kernel) rfl (fun j hj => by rcases (show j = 0 ∨ j = 1 ∨ j = 2 ∨ j = 3 by omega) with rfl | rfl | rfl | rfl <;> rfl) (by decide) (by decide) dX3_init_5 (fun n5 => ?_)
  refine z_dup (pc := 8) K dX3_init_8 rfl ?_
  refine z_ws (ws' := ([(h, .inr (3, [.null, .null, .null, .null]))]) ++ [(n5, .inr (2, [.int 0, .null, .int 0, .int 0]))]) rfl ?_
  refine z_callIN (pc := 9) (st := [_, _]) (n := 0) (host := "OldMap") K (c_X2_init l D cy n5) gX3_init_X2_init_n9 (by decide +kernel) (by decide +kernel) (by decide +kernel) rfl (by decide +kernel) rfl (by decide) (by decide) rfl rfl (Nat.le_of_ble_eq_true rfl) (by decide) (by decide) dX3_init_9 (fun u9 => ?_)
  refine z_ws (ws' := [(h, .inr (3, [.null, .null, .null, .null]))] ++ ((wPo cy n5 u9))) rfl ?_
  refine z_putF (pc := 12) (index := 10) (C := RX3) (T := TX3) (N := 4) (ref := "OldMap$Table") (ty := (.object "OldMap$Points")) (ws' := [(h, .inr (3, [.ref (n5), .null, .null, .null]))] ++ ((wPo cy n5 u9))) K hnm 0 0 rfl rfl i_X3 (by decide) (by decide +kernel) rfl tyX3 tyX3_ok nmX3 rfl rfl (by decide +kernel) rfl rfl (Nat.le_of_ble_eq_true rfl) rfl dX3_init_12 ?_
  refine z_aload_n (pc := 15) K 0 dX3_init_15 rfl rfl ?_
  refine z_new (pc := 16) (ci := 5) (C := RX5) (T := TX5) (N := 3) (fs := [.null, .int 0, .null]) K (by decide +kernel) tyX5 tyX5_ok (by decide +kernel) (by decide +kernel) (by decide +kernel) rfl (fun j hj => by rcases (show j = 0 ∨ j = 1 ∨ j = 2 by omega) with rfl | rfl | rfl <;> rfl) (by decide) (by decide) dX3_init_16 (fun n16 => ?_)
  refine z_dup (pc := 19) K dX3_init_19 rfl ?_
  refine z_aload_n (pc := 20) K 0 dX3_init_20 rfl rfl ?_
  refine z_get (pc := 21) (index := 10) (C := RX3) (T := TX3) (N := 4) (ref := "OldMap$Table") K 0 0 rfl rfl i_X3 (by decide) (by decide +kernel) rfl rfl dX3_init_21 ?_
  refine z_ws (ws' := ([(h, .inr (3, [.ref (n5), .null, .null, .null]))] ++ ((wPo cy n5 u9))) ++ [(n16, .inr (5, [.null, .int 0, .null]))]) rfl ?_
  refine z_callIN (pc := 24) (st := [_, _]) (n := 1) (host := "OldMap") K (c_X5_init l D cy n16 n5) gX3_init_X5_init_n18 (by decide +kernel) (by decide +kernel) (by decide +kernel) rfl (by decide +kernel) rfl (by decide) (by decide) rfl rfl (Nat.le_of_ble_eq_true rfl) (by decide) (by decide) dX3_init_24 (fun u24 => ?_)
  refine z_ws (ws' := [(h, .inr (3, [.ref (n5), .null, .null, .null]))] ++ ((wPo cy n5 u9) ++ ((wTr cy n5 n16 u24)))) rfl ?_
  refine z_putF (pc := 27) (index := 21) (C := RX3) (T := TX3) (N := 4) (ref := "OldMap$Table") (ty := (.object "OldMap$Triangles")) (ws' := [(h, .inr (3, [.ref (n5), .ref (n16), .null, .null]))] ++ ((wPo cy n5 u9) ++ ((wTr cy n5 n16 u24)))) K hnm 0 1 rfl rfl i_X3 (by decide) (by decide +kernel) rfl tyX3 tyX3_ok nmX3 rfl rfl (by decide +kernel) rfl rfl (Nat.le_of_ble_eq_true rfl) rfl dX3_init_27 ?_
  refine z_aload_n (pc := 30) K 0 dX3_init_30 rfl rfl ?_
  refine z_new (pc := 31) (ci := 4) (C := RX4) (T := TX4) (N := 4) (fs := [.int 0, .null, .null, .null]) K (by decide +kernel) tyX4 tyX4_ok (by decide +kernel) (by decide +kernel) (by decide +kernel) rfl (fun j hj => by rcases (show j = 0 ∨ j = 1 ∨ j = 2 ∨ j = 3 by omega) with rfl | rfl | rfl | rfl <;> rfl) (by decide) (by decide) dX3_init_31 (fun n31 => ?_)
  refine z_dup (pc := 34) K dX3_init_34 rfl ?_
  refine z_ws (ws' := ([(h, .inr (3, [.ref (n5), .ref (n16), .null, .null]))] ++ ((wPo cy n5 u9) ++ ((wTr cy n5 n16 u24)))) ++ [(n31, .inr (4, [.int 0, .null, .null, .null]))]) rfl ?_
  refine z_callIN (pc := 35) (st := [_, _]) (n := 0) (host := "OldMap") K (c_X4_init l D cy n31) gX3_init_X4_init_n27 (by decide +kernel) (by decide +kernel) (by decide +kernel) rfl (by decide +kernel) rfl (by decide) (by decide) rfl rfl (Nat.le_of_ble_eq_true rfl) (by decide) (by decide) dX3_init_35 (fun u35 => ?_)
  refine z_ws (ws' := [(h, .inr (3, [.ref (n5), .ref (n16), .null, .null]))] ++ ((wPo cy n5 u9) ++ ((wTr cy n5 n16 u24) ++ ((wTh cy n31 u35))))) rfl ?_
  refine z_putF (pc := 38) (index := 28) (C := RX3) (T := TX3) (N := 4) (ref := "OldMap$Table") (ty := (.object "OldMap$Things")) (ws' := [(h, .inr (3, [.ref (n5), .ref (n16), .ref (n31), .null]))] ++ ((wPo cy n5 u9) ++ ((wTr cy n5 n16 u24) ++ ((wTh cy n31 u35))))) K hnm 0 2 rfl rfl i_X3 (by decide) (by decide +kernel) rfl tyX3 tyX3_ok nmX3 rfl rfl (by decide +kernel) rfl rfl (Nat.le_of_ble_eq_true rfl) rfl dX3_init_38 ?_
  refine z_aload_n (pc := 41) K 0 dX3_init_41 rfl rfl ?_
  refine z_new (pc := 42) (ci := 4) (C := RX4) (T := TX4) (N := 4) (fs := [.int 0, .null, .null, .null]) K (by decide +kernel) tyX4 tyX4_ok (by decide +kernel) (by decide +kernel) (by decide +kernel) rfl (fun j hj => by rcases (show j = 0 ∨ j = 1 ∨ j = 2 ∨ j = 3 by omega) with rfl | rfl | rfl | rfl <;> rfl) (by decide) (by decide) dX3_init_42 (fun n42 => ?_)
  refine z_dup (pc := 45) K dX3_init_45 rfl ?_
  refine z_ws (ws' := ([(h, .inr (3, [.ref (n5), .ref (n16), .ref (n31), .null]))] ++ ((wPo cy n5 u9) ++ ((wTr cy n5 n16 u24) ++ ((wTh cy n31 u35))))) ++ [(n42, .inr (4, [.int 0, .null, .null, .null]))]) rfl ?_
  refine z_callIN (pc := 46) (st := [_, _]) (n := 0) (host := "OldMap") K (c_X4_init l D cy n42) gX3_init_X4_init_n27 (by decide +kernel) (by decide +kernel) (by decide +kernel) rfl (by decide +kernel) rfl (by decide) (by decide) rfl rfl (Nat.le_of_ble_eq_true rfl) (by decide) (by decide) dX3_init_46 (fun u46 => ?_)
  refine z_ws (ws' := [(h, .inr (3, [.ref (n5), .ref (n16), .ref (n31), .null]))] ++ ((wPo cy n5 u9) ++ ((wTr cy n5 n16 u24) ++ ((wTh cy n31 u35) ++ ((wTh cy n42 u46)))))) rfl ?_
  refine z_putF (pc := 49) (index := 32) (C := RX3) (T := TX3) (N := 4) (ref := "OldMap$Table") (ty := (.object "OldMap$Things")) (ws' := [(h, .inr (3, [.ref (n5), .ref (n16), .ref (n31), .ref (n42)]))] ++ ((wPo cy n5 u9) ++ ((wTr cy n5 n16 u24) ++ ((wTh cy n31 u35) ++ ((wTh cy n42 u46)))))) K hnm 0 3 rfl rfl i_X3 (by decide) (by decide +kernel) rfl tyX3 tyX3_ok nmX3 rfl rfl (by decide +kernel) rfl rfl (Nat.le_of_ble_eq_true rfl) rfl dX3_init_49 ?_
  exact ret (pc := 52) ((n5, u9), (n16, u24), (n31, u35), (n42, u46)) dX3_init_52 (by decide) (by decide)
abbrev SOm : Type := (Nat × STa) × (Nat × STa) × (Nat × (Nat × Nat × Nat)) × (Nat × SMa)
abbrev wOm (cy : Nat → ClassId) (h : Nat) (q : SOm) : va_W := [(h, .inr (7, [.ref (q.1.1), .ref (q.2.1.1), .ref (q.2.2.1.1), .ref (q.2.2.2.1), .int 0, .int 10, .int 100]))] ++ (wTa cy q.1.1 q.1.2 ++ (wTa cy q.2.1.1 q.2.1.2 ++ (wBe cy q.1.2.1.1 q.2.2.1.1 q.2.2.1.2 ++ wMa cy q.1.2.2.2.1.1 q.1.2.2.2.2.1 q.2.2.1.1 q.2.2.2.1 q.2.2.2.2)))
set_option maxHeartbeats 2000000 in
set_option maxRecDepth 100000 in
theorem c_X7_init (l : Launch) (D : va_G) (cy : Nat → ClassId) (h : Nat) : b_Mv (S := SOm) l yX7_init wsX7_init 3 60 75 823 D cy [.ref h] [(h, .inr (7, [.null, .null, .null, .null, .int 0, .int 0, .int 0]))] (fun q => wOm cy h q) := by
  refine b_Mv.of (cc := cX7_init) (maxL := 1) [(0, .ref h)] (by decide +kernel) rfl (Nat.le_of_ble_eq_true rfl) rfl ?_
  intro Γ K hnm ret
  have i_X7 : ∀ w ∈ u_ws RX7 TX7 7, w ∈ wsX7_init := by decide +kernel
  have i_X3 : ∀ w ∈ u_ws RX3 TX3 4, w ∈ wsX7_init := by decide +kernel
  refine z_aload_n (pc := 0) K 0 dX7_init_0 rfl rfl ?_
  refine z_obj (pc := 1) (st := []) K (by decide +kernel) (by decide +kernel) (by decide +kernel) (by decide) (Nat.le_of_ble_eq_true rfl) dX7_init_1 ?_
  refine z_aload_n (pc := 4) K 0 dX7_init_4 rfl rfl ?_
  refine z_new (pc := 5) (ci := 3) (C := RX3) (T := TX3) (N := 4) (fs := [.null, .null, .null, .null]) K (by decide +kernel) tyX3 tyX3_ok (by decide +kernel) (by decide +kernel) (by decide +kernel) rfl (fun j hj => by rcases (show j = 0 ∨ j = 1 ∨ j = 2 ∨ j = 3 by omega) with rfl | rfl | rfl | rfl <;> rfl) (by decide) (by decide) dX7_init_5 (fun n5 => ?_)
  refine z_dup (pc := 8) K dX7_init_8 rfl ?_
  refine z_ws (ws' := ([(h, .inr (7, [.null, .null, .null, .null, .int 0, .int 0, .int 0]))]) ++ [(n5, .inr (3, [.null, .null, .null, .null]))]) rfl ?_
  refine z_callIN (pc := 9) (st := [_, _]) (n := 0) (host := "OldMap") K (c_X3_init l D cy n5) gX7_init_X3_init_n9 (by decide +kernel) (by decide +kernel) (by decide +kernel) rfl (by decide +kernel) rfl (by decide) (by decide) rfl rfl (Nat.le_of_ble_eq_true rfl) (by decide) (by decide) dX7_init_9 (fun u9 => ?_)
  refine z_ws (ws' := [(h, .inr (7, [.null, .null, .null, .null, .int 0, .int 0, .int 0]))] ++ ((wTa cy n5 u9))) rfl ?_
  refine z_putF (pc := 12) (index := 10) (C := RX7) (T := TX7) (N := 7) (ref := "OldMap") (ty := (.object "OldMap$Table")) (ws' := [(h, .inr (7, [.ref (n5), .null, .null, .null, .int 0, .int 0, .int 0]))] ++ ((wTa cy n5 u9))) K hnm 0 0 rfl rfl i_X7 (by decide) (by decide +kernel) rfl tyX7 tyX7_ok nmX7 rfl rfl (by decide +kernel) rfl rfl (Nat.le_of_ble_eq_true rfl) rfl dX7_init_12 ?_
  refine z_aload_n (pc := 15) K 0 dX7_init_15 rfl rfl ?_
  refine z_new (pc := 16) (ci := 3) (C := RX3) (T := TX3) (N := 4) (fs := [.null, .null, .null, .null]) K (by decide +kernel) tyX3 tyX3_ok (by decide +kernel) (by decide +kernel) (by decide +kernel) rfl (fun j hj => by rcases (show j = 0 ∨ j = 1 ∨ j = 2 ∨ j = 3 by omega) with rfl | rfl | rfl | rfl <;> rfl) (by decide) (by decide) dX7_init_16 (fun n16 => ?_)
  refine z_dup (pc := 19) K dX7_init_19 rfl ?_
  refine z_ws (ws' := ([(h, .inr (7, [.ref (n5), .null, .null, .null, .int 0, .int 0, .int 0]))] ++ ((wTa cy n5 u9))) ++ [(n16, .inr (3, [.null, .null, .null, .null]))]) rfl ?_
  refine z_callIN (pc := 20) (st := [_, _]) (n := 0) (host := "OldMap") K (c_X3_init l D cy n16) gX7_init_X3_init_n9 (by decide +kernel) (by decide +kernel) (by decide +kernel) rfl (by decide +kernel) rfl (by decide) (by decide) rfl rfl (Nat.le_of_ble_eq_true rfl) (by decide) (by decide) dX7_init_20 (fun u20 => ?_)
  refine z_ws (ws' := [(h, .inr (7, [.ref (n5), .null, .null, .null, .int 0, .int 0, .int 0]))] ++ ((wTa cy n5 u9) ++ ((wTa cy n16 u20)))) rfl ?_
  refine z_putF (pc := 23) (index := 16) (C := RX7) (T := TX7) (N := 7) (ref := "OldMap") (ty := (.object "OldMap$Table")) (ws' := [(h, .inr (7, [.ref (n5), .ref (n16), .null, .null, .int 0, .int 0, .int 0]))] ++ ((wTa cy n5 u9) ++ ((wTa cy n16 u20)))) K hnm 0 1 rfl rfl i_X7 (by decide) (by decide +kernel) rfl tyX7 tyX7_ok nmX7 rfl rfl (by decide +kernel) rfl rfl (Nat.le_of_ble_eq_true rfl) rfl dX7_init_23 ?_
  refine z_aload_n (pc := 26) K 0 dX7_init_26 rfl rfl ?_
  refine z_new (pc := 27) (ci := 0) (C := RX0) (T := TX0) (N := 7) (fs := [.null, .null, .null, .null, .int 0, .int 0, .long 0]) K (by decide +kernel) tyX0 tyX0_ok (by decide +kernel) (by decide +kernel) (by decide +kernel) rfl (fun j hj => by rcases (show j = 0 ∨ j = 1 ∨ j = 2 ∨ j = 3 ∨ j = 4 ∨ j = 5 ∨ j = 6 by omega) with rfl | rfl | rfl | rfl | rfl | rfl | rfl <;> rfl) (by decide) (by decide) dX7_init_27 (fun n27 => ?_)
  refine z_dup (pc := 30) K dX7_init_30 rfl ?_
  refine z_aload_n (pc := 31) K 0 dX7_init_31 rfl rfl ?_
  refine z_get (pc := 32) (index := 10) (C := RX7) (T := TX7) (N := 7) (ref := "OldMap") K 0 0 rfl rfl i_X7 (by decide) (by decide +kernel) rfl rfl dX7_init_32 ?_
  refine z_getN (pc := 35) (index := 21) (C := RX3) (T := TX3) (N := 4) (ref := "OldMap$Table") (host := "OldMap") K 1 0 rfl rfl i_X3 (by decide) (by decide +kernel) rfl rfl dX7_init_35 ?_
  refine z_ws (ws' := ([(h, .inr (7, [.ref (n5), .ref (n16), .null, .null, .int 0, .int 0, .int 0]))] ++ ((wTa cy n5 u9) ++ ((wTa cy n16 u20)))) ++ [(n27, .inr (0, [.null, .null, .null, .null, .int 0, .int 0, .long 0]))]) rfl ?_
  refine z_callIN (pc := 38) (st := [_, _]) (n := 1) (host := "OldMap") K (c_X0_init l D cy n27 (u9.1.1)) gX7_init_X0_init_n25 (by decide +kernel) (by decide +kernel) (by decide +kernel) rfl (by decide +kernel) rfl (by decide) (by decide) rfl rfl (Nat.le_of_ble_eq_true rfl) (by decide) (by decide) dX7_init_38 (fun u38 => ?_)
  refine z_ws (ws' := [(h, .inr (7, [.ref (n5), .ref (n16), .null, .null, .int 0, .int 0, .int 0]))] ++ ((wTa cy n5 u9) ++ ((wTa cy n16 u20) ++ ((wBe cy (u9.1.1) n27 u38))))) rfl ?_
  refine z_putF (pc := 41) (index := 28) (C := RX7) (T := TX7) (N := 7) (ref := "OldMap") (ty := (.object "OldMap$Bend")) (ws' := [(h, .inr (7, [.ref (n5), .ref (n16), .ref (n27), .null, .int 0, .int 0, .int 0]))] ++ ((wTa cy n5 u9) ++ ((wTa cy n16 u20) ++ ((wBe cy (u9.1.1) n27 u38))))) K hnm 0 2 rfl rfl i_X7 (by decide) (by decide +kernel) rfl tyX7 tyX7_ok nmX7 rfl rfl (by decide +kernel) rfl rfl (Nat.le_of_ble_eq_true rfl) rfl dX7_init_41 ?_
  refine z_aload_n (pc := 44) K 0 dX7_init_44 rfl rfl ?_
  refine z_new (pc := 45) (ci := 1) (C := RX1) (T := TX1) (N := 7) (fs := [.null, .null, .null, .null, .null, .null, .int 0]) K (by decide +kernel) tyX1 tyX1_ok (by decide +kernel) (by decide +kernel) (by decide +kernel) rfl (fun j hj => by rcases (show j = 0 ∨ j = 1 ∨ j = 2 ∨ j = 3 ∨ j = 4 ∨ j = 5 ∨ j = 6 by omega) with rfl | rfl | rfl | rfl | rfl | rfl | rfl <;> rfl) (by decide) (by decide) dX7_init_45 (fun n45 => ?_)
  refine z_dup (pc := 48) K dX7_init_48 rfl ?_
  refine z_aload_n (pc := 49) K 0 dX7_init_49 rfl rfl ?_
  refine z_get (pc := 50) (index := 10) (C := RX7) (T := TX7) (N := 7) (ref := "OldMap") K 0 0 rfl rfl i_X7 (by decide) (by decide +kernel) rfl rfl dX7_init_50 ?_
  refine z_getN (pc := 53) (index := 34) (C := RX3) (T := TX3) (N := 4) (ref := "OldMap$Table") (host := "OldMap") K 1 2 rfl rfl i_X3 (by decide) (by decide +kernel) rfl rfl dX7_init_53 ?_
  refine z_aload_n (pc := 56) K 0 dX7_init_56 rfl rfl ?_
  refine z_get (pc := 57) (index := 10) (C := RX7) (T := TX7) (N := 7) (ref := "OldMap") K 0 0 rfl rfl i_X7 (by decide) (by decide +kernel) rfl rfl dX7_init_57 ?_
  refine z_getN (pc := 60) (index := 38) (C := RX3) (T := TX3) (N := 4) (ref := "OldMap$Table") (host := "OldMap") K 1 3 rfl rfl i_X3 (by decide) (by decide +kernel) rfl rfl dX7_init_60 ?_
  refine z_aload_n (pc := 63) K 0 dX7_init_63 rfl rfl ?_
  refine z_get (pc := 64) (index := 28) (C := RX7) (T := TX7) (N := 7) (ref := "OldMap") K 0 2 rfl rfl i_X7 (by decide) (by decide +kernel) rfl rfl dX7_init_64 ?_
  refine z_ws (ws' := ([(h, .inr (7, [.ref (n5), .ref (n16), .ref (n27), .null, .int 0, .int 0, .int 0]))] ++ ((wTa cy n5 u9) ++ ((wTa cy n16 u20) ++ ((wBe cy (u9.1.1) n27 u38))))) ++ [(n45, .inr (1, [.null, .null, .null, .null, .null, .null, .int 0]))]) rfl ?_
  refine z_callIN (pc := 67) (st := [_, _]) (n := 3) (host := "OldMap") K (c_X1_init l D cy n45 (u9.2.2.1.1) (u9.2.2.2.1) (n27)) gX7_init_X1_init_n41 (by decide +kernel) (by decide +kernel) (by decide +kernel) rfl (by decide +kernel) rfl (by decide) (by decide) rfl rfl (Nat.le_of_ble_eq_true rfl) (by decide) (by decide) dX7_init_67 (fun u67 => ?_)
  refine z_ws (ws' := [(h, .inr (7, [.ref (n5), .ref (n16), .ref (n27), .null, .int 0, .int 0, .int 0]))] ++ ((wTa cy n5 u9) ++ ((wTa cy n16 u20) ++ ((wBe cy (u9.1.1) n27 u38) ++ ((wMa cy (u9.2.2.1.1) (u9.2.2.2.1) (n27) n45 u67)))))) rfl ?_
  refine z_putF (pc := 70) (index := 44) (C := RX7) (T := TX7) (N := 7) (ref := "OldMap") (ty := (.object "OldMap$Match")) (ws' := [(h, .inr (7, [.ref (n5), .ref (n16), .ref (n27), .ref (n45), .int 0, .int 0, .int 0]))] ++ ((wTa cy n5 u9) ++ ((wTa cy n16 u20) ++ ((wBe cy (u9.1.1) n27 u38) ++ ((wMa cy (u9.2.2.1.1) (u9.2.2.2.1) (n27) n45 u67)))))) K hnm 0 3 rfl rfl i_X7 (by decide) (by decide +kernel) rfl tyX7 tyX7_ok nmX7 rfl rfl (by decide +kernel) rfl rfl (Nat.le_of_ble_eq_true rfl) rfl dX7_init_70 ?_
  refine z_aload_n (pc := 73) K 0 dX7_init_73 rfl rfl ?_
  refine z_iconst (pc := 74) (v := 0) K dX7_init_74 (by decide) ?_
  refine z_put (pc := 75) (index := 48) (C := RX7) (T := TX7) (N := 7) (ref := "OldMap") (ty := .boolean) (ws' := [(h, .inr (7, [.ref (n5), .ref (n16), .ref (n27), .ref (n45), .int 0, .int 0, .int 0]))] ++ ((wTa cy n5 u9) ++ ((wTa cy n16 u20) ++ ((wBe cy (u9.1.1) n27 u38) ++ ((wMa cy (u9.2.2.1.1) (u9.2.2.2.1) (n27) n45 u67)))))) K 0 4 rfl rfl i_X7 (by decide) (by decide +kernel) rfl tyX7 tyX7_ok nmX7 rfl (by decide +kernel) rfl rfl (Nat.le_of_ble_eq_true rfl) rfl dX7_init_75 ?_
  refine z_aload_n (pc := 78) K 0 dX7_init_78 rfl rfl ?_
  refine z_bipush (pc := 79) (v := 10) K dX7_init_79 (by decide) ?_
  refine z_put (pc := 81) (index := 52) (C := RX7) (T := TX7) (N := 7) (ref := "OldMap") (ty := .int) (ws' := [(h, .inr (7, [.ref (n5), .ref (n16), .ref (n27), .ref (n45), .int 0, .int 10, .int 0]))] ++ ((wTa cy n5 u9) ++ ((wTa cy n16 u20) ++ ((wBe cy (u9.1.1) n27 u38) ++ ((wMa cy (u9.2.2.1.1) (u9.2.2.2.1) (n27) n45 u67)))))) K 0 5 rfl rfl i_X7 (by decide) (by decide +kernel) rfl tyX7 tyX7_ok nmX7 rfl (by decide +kernel) rfl rfl (Nat.le_of_ble_eq_true rfl) rfl dX7_init_81 ?_
  refine z_aload_n (pc := 84) K 0 dX7_init_84 rfl rfl ?_
  refine z_bipush (pc := 85) (v := 100) K dX7_init_85 (by decide) ?_
  refine z_put (pc := 87) (index := 56) (C := RX7) (T := TX7) (N := 7) (ref := "OldMap") (ty := .int) (ws' := [(h, .inr (7, [.ref (n5), .ref (n16), .ref (n27), .ref (n45), .int 0, .int 10, .int 100]))] ++ ((wTa cy n5 u9) ++ ((wTa cy n16 u20) ++ ((wBe cy (u9.1.1) n27 u38) ++ ((wMa cy (u9.2.2.1.1) (u9.2.2.2.1) (n27) n45 u67)))))) K 0 6 rfl rfl i_X7 (by decide) (by decide +kernel) rfl tyX7 tyX7_ok nmX7 rfl (by decide +kernel) rfl rfl (Nat.le_of_ble_eq_true rfl) rfl dX7_init_87 ?_
  exact ret (pc := 90) ((n5, u9), (n16, u20), (n27, u38), (n45, u67)) dX7_init_90 (by decide) (by decide)
abbrev wMo (cy : Nat → ClassId) (h : Nat) (q : Nat → Nat) : va_W := [(h, .inr (8, [.int 0, .ref (q 0), .ref (q 1), .ref (q 2), .int 0, .ref (q 3), .ref (q 4), .ref (q 5), .int 10, .int 100, .int 0, .ref (q 6), .ref (q 7), .ref (q 8), .ref (q 9), .ref (q 10), .long 0, .long 0, .long 0, .long 0, .long 0, .long 0, .long 0, .long 0, .long 0, .long 0, .long 0, .long 0, .long 0, .long 0, .long 0, .long 0, .ref (q 11), .ref (q 12), .ref (q 13), .long 0])), (q 0, b_row cy 48), (q 1, .inl (cy 3, 12, .inl (fun _ => 0))), (q 2, .inl (cy 3, 12, .inl (fun _ => 0))), (q 3, b_row cy 30), (q 4, b_row cy 2), (q 5, b_row cy 36), (q 6, b_row cy 4), (q 7, b_row cy 48), (q 8, b_row cy 12), (q 9, b_row cy 30), (q 10, b_row cy 36), (q 11, .inl (cy 1, 36, .inr (.inl (fun _ => 0)))), (q 12, b_row cy 6), (q 13, b_row cy 6)]
set_option maxHeartbeats 2000000 in
set_option maxRecDepth 100000 in
theorem c_X8_init (l : Launch) (D : va_G) (cy : Nat → ClassId) (h : Nat) : b_Mv (S := Nat → Nat) l yX8_init wsX8_init 1 12 14 318 D cy [.ref h] [(h, .inr (8, [.int 0, .null, .null, .null, .int 0, .null, .null, .null, .int 0, .int 0, .int 0, .null, .null, .null, .null, .null, .long 0, .long 0, .long 0, .long 0, .long 0, .long 0, .long 0, .long 0, .long 0, .long 0, .long 0, .long 0, .long 0, .long 0, .long 0, .long 0, .null, .null, .null, .long 0]))] (fun q => wMo cy h q) := by
  refine b_Mv.of (cc := cX8_init) (maxL := 1) [(0, .ref h)] (by decide +kernel) rfl (Nat.le_of_ble_eq_true rfl) rfl ?_
  intro Γ K hnm ret
  have i_X8 : ∀ w ∈ u_ws RX8 TX8 36, w ∈ wsX8_init := by decide +kernel
  refine z_aload_n (pc := 0) K 0 dX8_init_0 rfl rfl ?_
  refine z_obj (pc := 1) (st := []) K (by decide +kernel) (by decide +kernel) (by decide +kernel) (by decide) (Nat.le_of_ble_eq_true rfl) dX8_init_1 ?_
  refine z_aload_n (pc := 4) K 0 dX8_init_4 rfl rfl ?_
  refine z_bipush (pc := 5) (v := 48) K dX8_init_5 (by decide) ?_
  refine z_newaI (pc := 7) (N := 48) K (by decide +kernel) rfl (by decide) (by decide) (by decide) dX8_init_7 (fun n7 => ?_)
  refine z_ws (ws' := [(h, .inr (8, [.int 0, .null, .null, .null, .int 0, .null, .null, .null, .int 0, .int 0, .int 0, .null, .null, .null, .null, .null, .long 0, .long 0, .long 0, .long 0, .long 0, .long 0, .long 0, .long 0, .long 0, .long 0, .long 0, .long 0, .long 0, .long 0, .long 0, .long 0, .null, .null, .null, .long 0])), (n7, b_row cy 48)]) rfl ?_
  refine z_putF (pc := 9) (index := 7) (C := RX8) (T := TX8) (N := 36) (ref := "OldMapModel") (ty := (.array .int)) (ws' := [(h, .inr (8, [.int 0, .ref (n7), .null, .null, .int 0, .null, .null, .null, .int 0, .int 0, .int 0, .null, .null, .null, .null, .null, .long 0, .long 0, .long 0, .long 0, .long 0, .long 0, .long 0, .long 0, .long 0, .long 0, .long 0, .long 0, .long 0, .long 0, .long 0, .long 0, .null, .null, .null, .long 0])), (n7, b_row cy 48)]) K hnm 0 1 rfl rfl i_X8 (by decide) (by decide +kernel) rfl tyX8 tyX8_ok nmX8 rfl rfl (by decide +kernel) rfl rfl (Nat.le_of_ble_eq_true rfl) rfl dX8_init_9 ?_
  refine z_aload_n (pc := 12) K 0 dX8_init_12 rfl rfl ?_
  refine z_bipush (pc := 13) (v := 12) K dX8_init_13 (by decide) ?_
  refine z_newaZ (pc := 15) (N := 12) K (by decide +kernel) rfl (by decide) (by decide) (by decide) dX8_init_15 (fun n15 => ?_)
  refine z_ws (ws' := [(h, .inr (8, [.int 0, .ref (n7), .null, .null, .int 0, .null, .null, .null, .int 0, .int 0, .int 0, .null, .null, .null, .null, .null, .long 0, .long 0, .long 0, .long 0, .long 0, .long 0, .long 0, .long 0, .long 0, .long 0, .long 0, .long 0, .long 0, .long 0, .long 0, .long 0, .null, .null, .null, .long 0])), (n7, b_row cy 48), (n15, .inl (cy 3, 12, .inl (fun _ => 0)))]) rfl ?_
  refine z_putF (pc := 17) (index := 13) (C := RX8) (T := TX8) (N := 36) (ref := "OldMapModel") (ty := (.array .boolean)) (ws' := [(h, .inr (8, [.int 0, .ref (n7), .ref (n15), .null, .int 0, .null, .null, .null, .int 0, .int 0, .int 0, .null, .null, .null, .null, .null, .long 0, .long 0, .long 0, .long 0, .long 0, .long 0, .long 0, .long 0, .long 0, .long 0, .long 0, .long 0, .long 0, .long 0, .long 0, .long 0, .null, .null, .null, .long 0])), (n7, b_row cy 48), (n15, .inl (cy 3, 12, .inl (fun _ => 0)))]) K hnm 0 2 rfl rfl i_X8 (by decide) (by decide +kernel) rfl tyX8 tyX8_ok nmX8 rfl rfl (by decide +kernel) rfl rfl (Nat.le_of_ble_eq_true rfl) rfl dX8_init_17 ?_
  refine z_aload_n (pc := 20) K 0 dX8_init_20 rfl rfl ?_
  refine z_bipush (pc := 21) (v := 12) K dX8_init_21 (by decide) ?_
  refine z_newaZ (pc := 23) (N := 12) K (by decide +kernel) rfl (by decide) (by decide) (by decide) dX8_init_23 (fun n23 => ?_)
  refine z_ws (ws' := [(h, .inr (8, [.int 0, .ref (n7), .ref (n15), .null, .int 0, .null, .null, .null, .int 0, .int 0, .int 0, .null, .null, .null, .null, .null, .long 0, .long 0, .long 0, .long 0, .long 0, .long 0, .long 0, .long 0, .long 0, .long 0, .long 0, .long 0, .long 0, .long 0, .long 0, .long 0, .null, .null, .null, .long 0])), (n7, b_row cy 48), (n15, .inl (cy 3, 12, .inl (fun _ => 0))), (n23, .inl (cy 3, 12, .inl (fun _ => 0)))]) rfl ?_
  refine z_putF (pc := 25) (index := 17) (C := RX8) (T := TX8) (N := 36) (ref := "OldMapModel") (ty := (.array .boolean)) (ws' := [(h, .inr (8, [.int 0, .ref (n7), .ref (n15), .ref (n23), .int 0, .null, .null, .null, .int 0, .int 0, .int 0, .null, .null, .null, .null, .null, .long 0, .long 0, .long 0, .long 0, .long 0, .long 0, .long 0, .long 0, .long 0, .long 0, .long 0, .long 0, .long 0, .long 0, .long 0, .long 0, .null, .null, .null, .long 0])), (n7, b_row cy 48), (n15, .inl (cy 3, 12, .inl (fun _ => 0))), (n23, .inl (cy 3, 12, .inl (fun _ => 0)))]) K hnm 0 3 rfl rfl i_X8 (by decide) (by decide +kernel) rfl tyX8 tyX8_ok nmX8 rfl rfl (by decide +kernel) rfl rfl (Nat.le_of_ble_eq_true rfl) rfl dX8_init_25 ?_
  refine z_aload_n (pc := 28) K 0 dX8_init_28 rfl rfl ?_
  refine z_bipush (pc := 29) (v := 30) K dX8_init_29 (by decide) ?_
  refine z_newaI (pc := 31) (N := 30) K (by decide +kernel) rfl (by decide) (by decide) (by decide) dX8_init_31 (fun n31 => ?_)
  refine z_ws (ws' := [(h, .inr (8, [.int 0, .ref (n7), .ref (n15), .ref (n23), .int 0, .null, .null, .null, .int 0, .int 0, .int 0, .null, .null, .null, .null, .null, .long 0, .long 0, .long 0, .long 0, .long 0, .long 0, .long 0, .long 0, .long 0, .long 0, .long 0, .long 0, .long 0, .long 0, .long 0, .long 0, .null, .null, .null, .long 0])), (n7, b_row cy 48), (n15, .inl (cy 3, 12, .inl (fun _ => 0))), (n23, .inl (cy 3, 12, .inl (fun _ => 0))), (n31, b_row cy 30)]) rfl ?_
  refine z_putF (pc := 33) (index := 20) (C := RX8) (T := TX8) (N := 36) (ref := "OldMapModel") (ty := (.array .int)) (ws' := [(h, .inr (8, [.int 0, .ref (n7), .ref (n15), .ref (n23), .int 0, .ref (n31), .null, .null, .int 0, .int 0, .int 0, .null, .null, .null, .null, .null, .long 0, .long 0, .long 0, .long 0, .long 0, .long 0, .long 0, .long 0, .long 0, .long 0, .long 0, .long 0, .long 0, .long 0, .long 0, .long 0, .null, .null, .null, .long 0])), (n7, b_row cy 48), (n15, .inl (cy 3, 12, .inl (fun _ => 0))), (n23, .inl (cy 3, 12, .inl (fun _ => 0))), (n31, b_row cy 30)]) K hnm 0 5 rfl rfl i_X8 (by decide) (by decide +kernel) rfl tyX8 tyX8_ok nmX8 rfl rfl (by decide +kernel) rfl rfl (Nat.le_of_ble_eq_true rfl) rfl dX8_init_33 ?_
  refine z_aload_n (pc := 36) K 0 dX8_init_36 rfl rfl ?_
  refine z_iconst (pc := 37) (v := 2) K dX8_init_37 (by decide) ?_
  refine z_newaI (pc := 38) (N := 2) K (by decide +kernel) rfl (by decide) (by decide) (by decide) dX8_init_38 (fun n38 => ?_)
  refine z_ws (ws' := [(h, .inr (8, [.int 0, .ref (n7), .ref (n15), .ref (n23), .int 0, .ref (n31), .null, .null, .int 0, .int 0, .int 0, .null, .null, .null, .null, .null, .long 0, .long 0, .long 0, .long 0, .long 0, .long 0, .long 0, .long 0, .long 0, .long 0, .long 0, .long 0, .long 0, .long 0, .long 0, .long 0, .null, .null, .null, .long 0])), (n7, b_row cy 48), (n15, .inl (cy 3, 12, .inl (fun _ => 0))), (n23, .inl (cy 3, 12, .inl (fun _ => 0))), (n31, b_row cy 30), (n38, b_row cy 2)]) rfl ?_
  refine z_putF (pc := 40) (index := 23) (C := RX8) (T := TX8) (N := 36) (ref := "OldMapModel") (ty := (.array .int)) (ws' := [(h, .inr (8, [.int 0, .ref (n7), .ref (n15), .ref (n23), .int 0, .ref (n31), .ref (n38), .null, .int 0, .int 0, .int 0, .null, .null, .null, .null, .null, .long 0, .long 0, .long 0, .long 0, .long 0, .long 0, .long 0, .long 0, .long 0, .long 0, .long 0, .long 0, .long 0, .long 0, .long 0, .long 0, .null, .null, .null, .long 0])), (n7, b_row cy 48), (n15, .inl (cy 3, 12, .inl (fun _ => 0))), (n23, .inl (cy 3, 12, .inl (fun _ => 0))), (n31, b_row cy 30), (n38, b_row cy 2)]) K hnm 0 6 rfl rfl i_X8 (by decide) (by decide +kernel) rfl tyX8 tyX8_ok nmX8 rfl rfl (by decide +kernel) rfl rfl (Nat.le_of_ble_eq_true rfl) rfl dX8_init_40 ?_
  refine z_aload_n (pc := 43) K 0 dX8_init_43 rfl rfl ?_
  refine z_bipush (pc := 44) (v := 36) K dX8_init_44 (by decide) ?_
  refine z_newaI (pc := 46) (N := 36) K (by decide +kernel) rfl (by decide) (by decide) (by decide) dX8_init_46 (fun n46 => ?_)
  refine z_ws (ws' := [(h, .inr (8, [.int 0, .ref (n7), .ref (n15), .ref (n23), .int 0, .ref (n31), .ref (n38), .null, .int 0, .int 0, .int 0, .null, .null, .null, .null, .null, .long 0, .long 0, .long 0, .long 0, .long 0, .long 0, .long 0, .long 0, .long 0, .long 0, .long 0, .long 0, .long 0, .long 0, .long 0, .long 0, .null, .null, .null, .long 0])), (n7, b_row cy 48), (n15, .inl (cy 3, 12, .inl (fun _ => 0))), (n23, .inl (cy 3, 12, .inl (fun _ => 0))), (n31, b_row cy 30), (n38, b_row cy 2), (n46, b_row cy 36)]) rfl ?_
  refine z_putF (pc := 48) (index := 26) (C := RX8) (T := TX8) (N := 36) (ref := "OldMapModel") (ty := (.array .int)) (ws' := [(h, .inr (8, [.int 0, .ref (n7), .ref (n15), .ref (n23), .int 0, .ref (n31), .ref (n38), .ref (n46), .int 0, .int 0, .int 0, .null, .null, .null, .null, .null, .long 0, .long 0, .long 0, .long 0, .long 0, .long 0, .long 0, .long 0, .long 0, .long 0, .long 0, .long 0, .long 0, .long 0, .long 0, .long 0, .null, .null, .null, .long 0])), (n7, b_row cy 48), (n15, .inl (cy 3, 12, .inl (fun _ => 0))), (n23, .inl (cy 3, 12, .inl (fun _ => 0))), (n31, b_row cy 30), (n38, b_row cy 2), (n46, b_row cy 36)]) K hnm 0 7 rfl rfl i_X8 (by decide) (by decide +kernel) rfl tyX8 tyX8_ok nmX8 rfl rfl (by decide +kernel) rfl rfl (Nat.le_of_ble_eq_true rfl) rfl dX8_init_48 ?_
  refine z_aload_n (pc := 51) K 0 dX8_init_51 rfl rfl ?_
  refine z_bipush (pc := 52) (v := 10) K dX8_init_52 (by decide) ?_
  refine z_put (pc := 54) (index := 29) (C := RX8) (T := TX8) (N := 36) (ref := "OldMapModel") (ty := .int) (ws' := [(h, .inr (8, [.int 0, .ref (n7), .ref (n15), .ref (n23), .int 0, .ref (n31), .ref (n38), .ref (n46), .int 10, .int 0, .int 0, .null, .null, .null, .null, .null, .long 0, .long 0, .long 0, .long 0, .long 0, .long 0, .long 0, .long 0, .long 0, .long 0, .long 0, .long 0, .long 0, .long 0, .long 0, .long 0, .null, .null, .null, .long 0])), (n7, b_row cy 48), (n15, .inl (cy 3, 12, .inl (fun _ => 0))), (n23, .inl (cy 3, 12, .inl (fun _ => 0))), (n31, b_row cy 30), (n38, b_row cy 2), (n46, b_row cy 36)]) K 0 8 rfl rfl i_X8 (by decide) (by decide +kernel) rfl tyX8 tyX8_ok nmX8 rfl (by decide +kernel) rfl rfl (Nat.le_of_ble_eq_true rfl) rfl dX8_init_54 ?_
  refine z_aload_n (pc := 57) K 0 dX8_init_57 rfl rfl ?_
  refine z_bipush (pc := 58) (v := 100) K dX8_init_58 (by decide) ?_
  refine z_put (pc := 60) (index := 33) (C := RX8) (T := TX8) (N := 36) (ref := "OldMapModel") (ty := .int) (ws' := [(h, .inr (8, [.int 0, .ref (n7), .ref (n15), .ref (n23), .int 0, .ref (n31), .ref (n38), .ref (n46), .int 10, .int 100, .int 0, .null, .null, .null, .null, .null, .long 0, .long 0, .long 0, .long 0, .long 0, .long 0, .long 0, .long 0, .long 0, .long 0, .long 0, .long 0, .long 0, .long 0, .long 0, .long 0, .null, .null, .null, .long 0])), (n7, b_row cy 48), (n15, .inl (cy 3, 12, .inl (fun _ => 0))), (n23, .inl (cy 3, 12, .inl (fun _ => 0))), (n31, b_row cy 30), (n38, b_row cy 2), (n46, b_row cy 36)]) K 0 9 rfl rfl i_X8 (by decide) (by decide +kernel) rfl tyX8 tyX8_ok nmX8 rfl (by decide +kernel) rfl rfl (Nat.le_of_ble_eq_true rfl) rfl dX8_init_60 ?_
  refine z_aload_n (pc := 63) K 0 dX8_init_63 rfl rfl ?_
  refine z_iconst (pc := 64) (v := 4) K dX8_init_64 (by decide) ?_
  refine z_newaI (pc := 65) (N := 4) K (by decide +kernel) rfl (by decide) (by decide) (by decide) dX8_init_65 (fun n65 => ?_)
  refine z_ws (ws' := [(h, .inr (8, [.int 0, .ref (n7), .ref (n15), .ref (n23), .int 0, .ref (n31), .ref (n38), .ref (n46), .int 10, .int 100, .int 0, .null, .null, .null, .null, .null, .long 0, .long 0, .long 0, .long 0, .long 0, .long 0, .long 0, .long 0, .long 0, .long 0, .long 0, .long 0, .long 0, .long 0, .long 0, .long 0, .null, .null, .null, .long 0])), (n7, b_row cy 48), (n15, .inl (cy 3, 12, .inl (fun _ => 0))), (n23, .inl (cy 3, 12, .inl (fun _ => 0))), (n31, b_row cy 30), (n38, b_row cy 2), (n46, b_row cy 36), (n65, b_row cy 4)]) rfl ?_
  refine z_putF (pc := 67) (index := 36) (C := RX8) (T := TX8) (N := 36) (ref := "OldMapModel") (ty := (.array .int)) (ws' := [(h, .inr (8, [.int 0, .ref (n7), .ref (n15), .ref (n23), .int 0, .ref (n31), .ref (n38), .ref (n46), .int 10, .int 100, .int 0, .ref (n65), .null, .null, .null, .null, .long 0, .long 0, .long 0, .long 0, .long 0, .long 0, .long 0, .long 0, .long 0, .long 0, .long 0, .long 0, .long 0, .long 0, .long 0, .long 0, .null, .null, .null, .long 0])), (n7, b_row cy 48), (n15, .inl (cy 3, 12, .inl (fun _ => 0))), (n23, .inl (cy 3, 12, .inl (fun _ => 0))), (n31, b_row cy 30), (n38, b_row cy 2), (n46, b_row cy 36), (n65, b_row cy 4)]) K hnm 0 11 rfl rfl i_X8 (by decide) (by decide +kernel) rfl tyX8 tyX8_ok nmX8 rfl rfl (by decide +kernel) rfl rfl (Nat.le_of_ble_eq_true rfl) rfl dX8_init_67 ?_
  refine z_aload_n (pc := 70) K 0 dX8_init_70 rfl rfl ?_
  refine z_bipush (pc := 71) (v := 48) K dX8_init_71 (by decide) ?_
  refine z_newaI (pc := 73) (N := 48) K (by decide +kernel) rfl (by decide) (by decide) (by decide) dX8_init_73 (fun n73 => ?_)
  refine z_ws (ws' := [(h, .inr (8, [.int 0, .ref (n7), .ref (n15), .ref (n23), .int 0, .ref (n31), .ref (n38), .ref (n46), .int 10, .int 100, .int 0, .ref (n65), .null, .null, .null, .null, .long 0, .long 0, .long 0, .long 0, .long 0, .long 0, .long 0, .long 0, .long 0, .long 0, .long 0, .long 0, .long 0, .long 0, .long 0, .long 0, .null, .null, .null, .long 0])), (n7, b_row cy 48), (n15, .inl (cy 3, 12, .inl (fun _ => 0))), (n23, .inl (cy 3, 12, .inl (fun _ => 0))), (n31, b_row cy 30), (n38, b_row cy 2), (n46, b_row cy 36), (n65, b_row cy 4), (n73, b_row cy 48)]) rfl ?_
  refine z_putF (pc := 75) (index := 39) (C := RX8) (T := TX8) (N := 36) (ref := "OldMapModel") (ty := (.array .int)) (ws' := [(h, .inr (8, [.int 0, .ref (n7), .ref (n15), .ref (n23), .int 0, .ref (n31), .ref (n38), .ref (n46), .int 10, .int 100, .int 0, .ref (n65), .ref (n73), .null, .null, .null, .long 0, .long 0, .long 0, .long 0, .long 0, .long 0, .long 0, .long 0, .long 0, .long 0, .long 0, .long 0, .long 0, .long 0, .long 0, .long 0, .null, .null, .null, .long 0])), (n7, b_row cy 48), (n15, .inl (cy 3, 12, .inl (fun _ => 0))), (n23, .inl (cy 3, 12, .inl (fun _ => 0))), (n31, b_row cy 30), (n38, b_row cy 2), (n46, b_row cy 36), (n65, b_row cy 4), (n73, b_row cy 48)]) K hnm 0 12 rfl rfl i_X8 (by decide) (by decide +kernel) rfl tyX8 tyX8_ok nmX8 rfl rfl (by decide +kernel) rfl rfl (Nat.le_of_ble_eq_true rfl) rfl dX8_init_75 ?_
  refine z_aload_n (pc := 78) K 0 dX8_init_78 rfl rfl ?_
  refine z_bipush (pc := 79) (v := 12) K dX8_init_79 (by decide) ?_
  refine z_newaI (pc := 81) (N := 12) K (by decide +kernel) rfl (by decide) (by decide) (by decide) dX8_init_81 (fun n81 => ?_)
  refine z_ws (ws' := [(h, .inr (8, [.int 0, .ref (n7), .ref (n15), .ref (n23), .int 0, .ref (n31), .ref (n38), .ref (n46), .int 10, .int 100, .int 0, .ref (n65), .ref (n73), .null, .null, .null, .long 0, .long 0, .long 0, .long 0, .long 0, .long 0, .long 0, .long 0, .long 0, .long 0, .long 0, .long 0, .long 0, .long 0, .long 0, .long 0, .null, .null, .null, .long 0])), (n7, b_row cy 48), (n15, .inl (cy 3, 12, .inl (fun _ => 0))), (n23, .inl (cy 3, 12, .inl (fun _ => 0))), (n31, b_row cy 30), (n38, b_row cy 2), (n46, b_row cy 36), (n65, b_row cy 4), (n73, b_row cy 48), (n81, b_row cy 12)]) rfl ?_
  refine z_putF (pc := 83) (index := 42) (C := RX8) (T := TX8) (N := 36) (ref := "OldMapModel") (ty := (.array .int)) (ws' := [(h, .inr (8, [.int 0, .ref (n7), .ref (n15), .ref (n23), .int 0, .ref (n31), .ref (n38), .ref (n46), .int 10, .int 100, .int 0, .ref (n65), .ref (n73), .ref (n81), .null, .null, .long 0, .long 0, .long 0, .long 0, .long 0, .long 0, .long 0, .long 0, .long 0, .long 0, .long 0, .long 0, .long 0, .long 0, .long 0, .long 0, .null, .null, .null, .long 0])), (n7, b_row cy 48), (n15, .inl (cy 3, 12, .inl (fun _ => 0))), (n23, .inl (cy 3, 12, .inl (fun _ => 0))), (n31, b_row cy 30), (n38, b_row cy 2), (n46, b_row cy 36), (n65, b_row cy 4), (n73, b_row cy 48), (n81, b_row cy 12)]) K hnm 0 13 rfl rfl i_X8 (by decide) (by decide +kernel) rfl tyX8 tyX8_ok nmX8 rfl rfl (by decide +kernel) rfl rfl (Nat.le_of_ble_eq_true rfl) rfl dX8_init_83 ?_
  refine z_aload_n (pc := 86) K 0 dX8_init_86 rfl rfl ?_
  refine z_bipush (pc := 87) (v := 30) K dX8_init_87 (by decide) ?_
  refine z_newaI (pc := 89) (N := 30) K (by decide +kernel) rfl (by decide) (by decide) (by decide) dX8_init_89 (fun n89 => ?_)
  refine z_ws (ws' := [(h, .inr (8, [.int 0, .ref (n7), .ref (n15), .ref (n23), .int 0, .ref (n31), .ref (n38), .ref (n46), .int 10, .int 100, .int 0, .ref (n65), .ref (n73), .ref (n81), .null, .null, .long 0, .long 0, .long 0, .long 0, .long 0, .long 0, .long 0, .long 0, .long 0, .long 0, .long 0, .long 0, .long 0, .long 0, .long 0, .long 0, .null, .null, .null, .long 0])), (n7, b_row cy 48), (n15, .inl (cy 3, 12, .inl (fun _ => 0))), (n23, .inl (cy 3, 12, .inl (fun _ => 0))), (n31, b_row cy 30), (n38, b_row cy 2), (n46, b_row cy 36), (n65, b_row cy 4), (n73, b_row cy 48), (n81, b_row cy 12), (n89, b_row cy 30)]) rfl ?_
  refine z_putF (pc := 91) (index := 45) (C := RX8) (T := TX8) (N := 36) (ref := "OldMapModel") (ty := (.array .int)) (ws' := [(h, .inr (8, [.int 0, .ref (n7), .ref (n15), .ref (n23), .int 0, .ref (n31), .ref (n38), .ref (n46), .int 10, .int 100, .int 0, .ref (n65), .ref (n73), .ref (n81), .ref (n89), .null, .long 0, .long 0, .long 0, .long 0, .long 0, .long 0, .long 0, .long 0, .long 0, .long 0, .long 0, .long 0, .long 0, .long 0, .long 0, .long 0, .null, .null, .null, .long 0])), (n7, b_row cy 48), (n15, .inl (cy 3, 12, .inl (fun _ => 0))), (n23, .inl (cy 3, 12, .inl (fun _ => 0))), (n31, b_row cy 30), (n38, b_row cy 2), (n46, b_row cy 36), (n65, b_row cy 4), (n73, b_row cy 48), (n81, b_row cy 12), (n89, b_row cy 30)]) K hnm 0 14 rfl rfl i_X8 (by decide) (by decide +kernel) rfl tyX8 tyX8_ok nmX8 rfl rfl (by decide +kernel) rfl rfl (Nat.le_of_ble_eq_true rfl) rfl dX8_init_91 ?_
  refine z_aload_n (pc := 94) K 0 dX8_init_94 rfl rfl ?_
  refine z_bipush (pc := 95) (v := 36) K dX8_init_95 (by decide) ?_
  refine z_newaI (pc := 97) (N := 36) K (by decide +kernel) rfl (by decide) (by decide) (by decide) dX8_init_97 (fun n97 => ?_)
  refine z_ws (ws' := [(h, .inr (8, [.int 0, .ref (n7), .ref (n15), .ref (n23), .int 0, .ref (n31), .ref (n38), .ref (n46), .int 10, .int 100, .int 0, .ref (n65), .ref (n73), .ref (n81), .ref (n89), .null, .long 0, .long 0, .long 0, .long 0, .long 0, .long 0, .long 0, .long 0, .long 0, .long 0, .long 0, .long 0, .long 0, .long 0, .long 0, .long 0, .null, .null, .null, .long 0])), (n7, b_row cy 48), (n15, .inl (cy 3, 12, .inl (fun _ => 0))), (n23, .inl (cy 3, 12, .inl (fun _ => 0))), (n31, b_row cy 30), (n38, b_row cy 2), (n46, b_row cy 36), (n65, b_row cy 4), (n73, b_row cy 48), (n81, b_row cy 12), (n89, b_row cy 30), (n97, b_row cy 36)]) rfl ?_
  refine z_putF (pc := 99) (index := 48) (C := RX8) (T := TX8) (N := 36) (ref := "OldMapModel") (ty := (.array .int)) (ws' := [(h, .inr (8, [.int 0, .ref (n7), .ref (n15), .ref (n23), .int 0, .ref (n31), .ref (n38), .ref (n46), .int 10, .int 100, .int 0, .ref (n65), .ref (n73), .ref (n81), .ref (n89), .ref (n97), .long 0, .long 0, .long 0, .long 0, .long 0, .long 0, .long 0, .long 0, .long 0, .long 0, .long 0, .long 0, .long 0, .long 0, .long 0, .long 0, .null, .null, .null, .long 0])), (n7, b_row cy 48), (n15, .inl (cy 3, 12, .inl (fun _ => 0))), (n23, .inl (cy 3, 12, .inl (fun _ => 0))), (n31, b_row cy 30), (n38, b_row cy 2), (n46, b_row cy 36), (n65, b_row cy 4), (n73, b_row cy 48), (n81, b_row cy 12), (n89, b_row cy 30), (n97, b_row cy 36)]) K hnm 0 15 rfl rfl i_X8 (by decide) (by decide +kernel) rfl tyX8 tyX8_ok nmX8 rfl rfl (by decide +kernel) rfl rfl (Nat.le_of_ble_eq_true rfl) rfl dX8_init_99 ?_
  refine z_aload_n (pc := 102) K 0 dX8_init_102 rfl rfl ?_
  refine z_bipush (pc := 103) (v := 36) K dX8_init_103 (by decide) ?_
  refine z_newaL (pc := 105) (N := 36) K (by decide +kernel) rfl (by decide) (by decide) (by decide) dX8_init_105 (fun n105 => ?_)
  refine z_ws (ws' := [(h, .inr (8, [.int 0, .ref (n7), .ref (n15), .ref (n23), .int 0, .ref (n31), .ref (n38), .ref (n46), .int 10, .int 100, .int 0, .ref (n65), .ref (n73), .ref (n81), .ref (n89), .ref (n97), .long 0, .long 0, .long 0, .long 0, .long 0, .long 0, .long 0, .long 0, .long 0, .long 0, .long 0, .long 0, .long 0, .long 0, .long 0, .long 0, .null, .null, .null, .long 0])), (n7, b_row cy 48), (n15, .inl (cy 3, 12, .inl (fun _ => 0))), (n23, .inl (cy 3, 12, .inl (fun _ => 0))), (n31, b_row cy 30), (n38, b_row cy 2), (n46, b_row cy 36), (n65, b_row cy 4), (n73, b_row cy 48), (n81, b_row cy 12), (n89, b_row cy 30), (n97, b_row cy 36), (n105, .inl (cy 1, 36, .inr (.inl (fun _ => 0))))]) rfl ?_
  refine z_putF (pc := 107) (index := 51) (C := RX8) (T := TX8) (N := 36) (ref := "OldMapModel") (ty := (.array .long)) (ws' := [(h, .inr (8, [.int 0, .ref (n7), .ref (n15), .ref (n23), .int 0, .ref (n31), .ref (n38), .ref (n46), .int 10, .int 100, .int 0, .ref (n65), .ref (n73), .ref (n81), .ref (n89), .ref (n97), .long 0, .long 0, .long 0, .long 0, .long 0, .long 0, .long 0, .long 0, .long 0, .long 0, .long 0, .long 0, .long 0, .long 0, .long 0, .long 0, .ref (n105), .null, .null, .long 0])), (n7, b_row cy 48), (n15, .inl (cy 3, 12, .inl (fun _ => 0))), (n23, .inl (cy 3, 12, .inl (fun _ => 0))), (n31, b_row cy 30), (n38, b_row cy 2), (n46, b_row cy 36), (n65, b_row cy 4), (n73, b_row cy 48), (n81, b_row cy 12), (n89, b_row cy 30), (n97, b_row cy 36), (n105, .inl (cy 1, 36, .inr (.inl (fun _ => 0))))]) K hnm 0 32 rfl rfl i_X8 (by decide) (by decide +kernel) rfl tyX8 tyX8_ok nmX8 rfl rfl (by decide +kernel) rfl rfl (Nat.le_of_ble_eq_true rfl) rfl dX8_init_107 ?_
  refine z_aload_n (pc := 110) K 0 dX8_init_110 rfl rfl ?_
  refine z_bipush (pc := 111) (v := 6) K dX8_init_111 (by decide) ?_
  refine z_newaI (pc := 113) (N := 6) K (by decide +kernel) rfl (by decide) (by decide) (by decide) dX8_init_113 (fun n113 => ?_)
  refine z_ws (ws' := [(h, .inr (8, [.int 0, .ref (n7), .ref (n15), .ref (n23), .int 0, .ref (n31), .ref (n38), .ref (n46), .int 10, .int 100, .int 0, .ref (n65), .ref (n73), .ref (n81), .ref (n89), .ref (n97), .long 0, .long 0, .long 0, .long 0, .long 0, .long 0, .long 0, .long 0, .long 0, .long 0, .long 0, .long 0, .long 0, .long 0, .long 0, .long 0, .ref (n105), .null, .null, .long 0])), (n7, b_row cy 48), (n15, .inl (cy 3, 12, .inl (fun _ => 0))), (n23, .inl (cy 3, 12, .inl (fun _ => 0))), (n31, b_row cy 30), (n38, b_row cy 2), (n46, b_row cy 36), (n65, b_row cy 4), (n73, b_row cy 48), (n81, b_row cy 12), (n89, b_row cy 30), (n97, b_row cy 36), (n105, .inl (cy 1, 36, .inr (.inl (fun _ => 0)))), (n113, b_row cy 6)]) rfl ?_
  refine z_putF (pc := 115) (index := 55) (C := RX8) (T := TX8) (N := 36) (ref := "OldMapModel") (ty := (.array .int)) (ws' := [(h, .inr (8, [.int 0, .ref (n7), .ref (n15), .ref (n23), .int 0, .ref (n31), .ref (n38), .ref (n46), .int 10, .int 100, .int 0, .ref (n65), .ref (n73), .ref (n81), .ref (n89), .ref (n97), .long 0, .long 0, .long 0, .long 0, .long 0, .long 0, .long 0, .long 0, .long 0, .long 0, .long 0, .long 0, .long 0, .long 0, .long 0, .long 0, .ref (n105), .ref (n113), .null, .long 0])), (n7, b_row cy 48), (n15, .inl (cy 3, 12, .inl (fun _ => 0))), (n23, .inl (cy 3, 12, .inl (fun _ => 0))), (n31, b_row cy 30), (n38, b_row cy 2), (n46, b_row cy 36), (n65, b_row cy 4), (n73, b_row cy 48), (n81, b_row cy 12), (n89, b_row cy 30), (n97, b_row cy 36), (n105, .inl (cy 1, 36, .inr (.inl (fun _ => 0)))), (n113, b_row cy 6)]) K hnm 0 33 rfl rfl i_X8 (by decide) (by decide +kernel) rfl tyX8 tyX8_ok nmX8 rfl rfl (by decide +kernel) rfl rfl (Nat.le_of_ble_eq_true rfl) rfl dX8_init_115 ?_
  refine z_aload_n (pc := 118) K 0 dX8_init_118 rfl rfl ?_
  refine z_bipush (pc := 119) (v := 6) K dX8_init_119 (by decide) ?_
  refine z_newaI (pc := 121) (N := 6) K (by decide +kernel) rfl (by decide) (by decide) (by decide) dX8_init_121 (fun n121 => ?_)
  refine z_ws (ws' := [(h, .inr (8, [.int 0, .ref (n7), .ref (n15), .ref (n23), .int 0, .ref (n31), .ref (n38), .ref (n46), .int 10, .int 100, .int 0, .ref (n65), .ref (n73), .ref (n81), .ref (n89), .ref (n97), .long 0, .long 0, .long 0, .long 0, .long 0, .long 0, .long 0, .long 0, .long 0, .long 0, .long 0, .long 0, .long 0, .long 0, .long 0, .long 0, .ref (n105), .ref (n113), .null, .long 0])), (n7, b_row cy 48), (n15, .inl (cy 3, 12, .inl (fun _ => 0))), (n23, .inl (cy 3, 12, .inl (fun _ => 0))), (n31, b_row cy 30), (n38, b_row cy 2), (n46, b_row cy 36), (n65, b_row cy 4), (n73, b_row cy 48), (n81, b_row cy 12), (n89, b_row cy 30), (n97, b_row cy 36), (n105, .inl (cy 1, 36, .inr (.inl (fun _ => 0)))), (n113, b_row cy 6), (n121, b_row cy 6)]) rfl ?_
  refine z_putF (pc := 123) (index := 58) (C := RX8) (T := TX8) (N := 36) (ref := "OldMapModel") (ty := (.array .int)) (ws' := [(h, .inr (8, [.int 0, .ref (n7), .ref (n15), .ref (n23), .int 0, .ref (n31), .ref (n38), .ref (n46), .int 10, .int 100, .int 0, .ref (n65), .ref (n73), .ref (n81), .ref (n89), .ref (n97), .long 0, .long 0, .long 0, .long 0, .long 0, .long 0, .long 0, .long 0, .long 0, .long 0, .long 0, .long 0, .long 0, .long 0, .long 0, .long 0, .ref (n105), .ref (n113), .ref (n121), .long 0])), (n7, b_row cy 48), (n15, .inl (cy 3, 12, .inl (fun _ => 0))), (n23, .inl (cy 3, 12, .inl (fun _ => 0))), (n31, b_row cy 30), (n38, b_row cy 2), (n46, b_row cy 36), (n65, b_row cy 4), (n73, b_row cy 48), (n81, b_row cy 12), (n89, b_row cy 30), (n97, b_row cy 36), (n105, .inl (cy 1, 36, .inr (.inl (fun _ => 0)))), (n113, b_row cy 6), (n121, b_row cy 6)]) K hnm 0 34 rfl rfl i_X8 (by decide) (by decide +kernel) rfl tyX8 tyX8_ok nmX8 rfl rfl (by decide +kernel) rfl rfl (Nat.le_of_ble_eq_true rfl) rfl dX8_init_123 ?_
  exact ret (pc := 126) (fun i => match i with | 0 => n7 | 1 => n15 | 2 => n23 | 3 => n31 | 4 => n38 | 5 => n46 | 6 => n65 | 7 => n73 | 8 => n81 | 9 => n89 | 10 => n97 | 11 => n105 | 12 => n113 | _ => n121) dX8_init_126 (by decide) (by decide)
