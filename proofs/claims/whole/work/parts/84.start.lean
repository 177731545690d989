/-! from the law's entry: both constructors, then the loop -/
section ST
variable {Γ : hG} {D : va_G} {cy : Nat → ClassId} {l : Launch} {b L : Nat} {xs : Nat → Int32}
theorem z_astore_n {nL : Nat} {cc : ByteArray} {Ts : List Cond} {own : String} {fr lc mc ms pc : Nat} {lo lo' : List (Nat × Value)} {st : List Value} {ws : va_W} {k j : Nat} (K : b_C Γ D cy l nL cc Ts own fr lc mc ms) {k0 : Fin 4} {i : Nat} {x : Nat} (hdg : decode cc pc = .ok (.astore_n k0, 1)) (hi : (k0 : Nat) = i) (hn : i < nL) (hl : (i, Value.ref x) :: lo.filter (fun q => !(q.1 == i) && !(q.1 + 1 == i && q.2.category == 2)) = lo') (kk : b_WW Γ D (pc + 1) lo' st ws k j) : b_WW Γ D pc lo (.ref x :: st) ws k j := fun H locs ls a b c d => lv_astore_n K.1 K.2.1 hdg hi d (by rw [K.2.2.2.2.2.2.2.2.2.2.2.2.1]; exact hn) hl (fun ls2 d2 => kk H locs ls2 a b c d2)
theorem in7 : ∀ w ∈ u_ws RX7 TX7 7, w ∈ wsL_law := by decide +kernel
theorem in8 : ∀ w ∈ u_ws RX8 TX8 36, w ∈ wsL_law := by decide +kernel
theorem in_c7 : Cond.classLink RL 7 RX7 ∈ wsL_law := by decide +kernel
theorem in_i7 : Cond.instantiable RX7 7 ∈ wsL_law := by decide +kernel
theorem in_n7 : Cond.initialized RX7 ∈ wsL_law := by decide +kernel
theorem in_m7 : Cond.methodLink RL 9 yX7_init ∈ wsL_law := by decide +kernel
theorem in_q7 : Cond.instanceMethod yX7_init ∈ wsL_law := by decide +kernel
theorem in_c8 : Cond.classLink RL 10 RX8 ∈ wsL_law := by decide +kernel
theorem in_i8 : Cond.instantiable RX8 36 ∈ wsL_law := by decide +kernel
theorem in_n8 : Cond.initialized RX8 ∈ wsL_law := by decide +kernel
theorem in_m8 : Cond.methodLink RL 12 yX8_init ∈ wsL_law := by decide +kernel
theorem in_q8 : Cond.instanceMethod yX8_init ∈ wsL_law := by decide +kernel
set_option maxHeartbeats 4000000 in
set_option maxRecDepth 100000 in
theorem start_b (K : b_C Γ D cy l 4 cL_law wsL_law RL 9 380 600000 7302250) (hk : g_k Γ = 600000) (hj : g_j Γ = 7302250) (S : lw_S Γ b L xs) (hend : ∀ (G : hQ) (lo : List (Nat × Value)) (I : hI) (J : hJ), h_WW Γ G 1120 lo [] I J) : b_WW Γ D 0 [(0, .ref b)] [] [] 0 0 := by
  refine z_new (pc := 0) (ci := 7) (C := RX7) (T := TX7) (N := 7) (fs := [.null, .null, .null, .null, .int 0, .int 0, .int 0]) K in7 tyX7 tyX7_ok in_c7 in_i7 in_n7 rfl (fun j hj => by rcases (show j = 0 ∨ j = 1 ∨ j = 2 ∨ j = 3 ∨ j = 4 ∨ j = 5 ∨ j = 6 by omega) with rfl | rfl | rfl | rfl | rfl | rfl | rfl <;> rfl) (by decide) (by decide) dL_law_0 (fun n0 => ?_)
  refine z_dup (pc := 3) K dL_law_3 rfl ?_
  refine z_callI (pc := 4) (st := [.ref n0]) (n := 0) (wr := []) K (c_X7_init l D cy n0) gL_law_X7_init in_m7 in_n7 in_q7 rfl (by decide +kernel) rfl (by decide) (by decide) rfl rfl (Nat.le_of_ble_eq_true rfl) (by decide) (by decide) dL_law_4 (fun q => ?_)
  refine z_ws (ws' := wOm cy n0 q) rfl ?_
  refine z_astore_n (pc := 7) (lo' := [(1, .ref n0), (0, .ref b)]) K dL_law_7 rfl (by decide) rfl ?_
  refine z_new (pc := 8) (ci := 8) (C := RX8) (T := TX8) (N := 36) (fs := [.int 0, .null, .null, .null, .int 0, .null, .null, .null, .int 0, .int 0, .int 0, .null, .null, .null, .null, .null, .long 0, .long 0, .long 0, .long 0, .long 0, .long 0, .long 0, .long 0, .long 0, .long 0, .long 0, .long 0, .long 0, .long 0, .long 0, .long 0, .null, .null, .null, .long 0]) K in8 tyX8 tyX8_ok in_c8 in_i8 in_n8 rfl (fun j hj => by rcases (show j = 0 ∨ j = 1 ∨ j = 2 ∨ j = 3 ∨ j = 4 ∨ j = 5 ∨ j = 6 ∨ j = 7 ∨ j = 8 ∨ j = 9 ∨ j = 10 ∨ j = 11 ∨ j = 12 ∨ j = 13 ∨ j = 14 ∨ j = 15 ∨ j = 16 ∨ j = 17 ∨ j = 18 ∨ j = 19 ∨ j = 20 ∨ j = 21 ∨ j = 22 ∨ j = 23 ∨ j = 24 ∨ j = 25 ∨ j = 26 ∨ j = 27 ∨ j = 28 ∨ j = 29 ∨ j = 30 ∨ j = 31 ∨ j = 32 ∨ j = 33 ∨ j = 34 ∨ j = 35 by omega) with rfl | rfl | rfl | rfl | rfl | rfl | rfl | rfl | rfl | rfl | rfl | rfl | rfl | rfl | rfl | rfl | rfl | rfl | rfl | rfl | rfl | rfl | rfl | rfl | rfl | rfl | rfl | rfl | rfl | rfl | rfl | rfl | rfl | rfl | rfl | rfl <;> rfl) (by decide) (by decide) dL_law_8 (fun n8 => ?_)
  refine z_dup (pc := 11) K dL_law_11 rfl ?_
  refine z_callI (pc := 12) (st := [.ref n8]) (n := 0) (wr := wOm cy n0 q) K (c_X8_init l D cy n8) gL_law_X8_init in_m8 in_n8 in_q8 rfl (by decide +kernel) rfl (by decide) (by decide) rfl rfl (Nat.le_of_ble_eq_true rfl) (by decide) (by decide) dL_law_12 (fun q2 => ?_)
  refine z_astore_n (pc := 15) (lo' := [(2, .ref n8), (1, .ref n0), (0, .ref b)]) K dL_law_15 rfl (by decide) rfl ?_
  refine w_go (by rw [hk]; decide) (by rw [hj]; decide) ?_
  have KH : h_C Γ (G0 D cy n0 q n8 q2) l 4 cL_law wsL_law RL 9 380 := ⟨K.1, K.2.1, K.2.2.1, K.2.2.2.1, K.2.2.2.2.1, K.2.2.2.2.2.1, K.2.2.2.2.2.2.1, K.2.2.2.2.2.2.2.1, K.2.2.2.2.2.2.2.2.1, by rw [hk]; exact K.2.2.2.2.2.2.2.2.2.1, by rw [hj]; exact K.2.2.2.2.2.2.2.2.2.2.1, K.2.2.2.2.2.2.2.2.2.2.2.1, K.2.2.2.2.2.2.2.2.2.2.2.2.1, K.2.2.2.2.2.2.2.2.2.2.2.2.2.1⟩
  refine x_iconst (pc := 16) (v := nI 0) KH dL_law_16 (by decide) ?_
  refine x_istore_n (pc := 17) (lo' := lw_lo (G0 D cy n0 q n8 q2) b 0) KH dL_law_17 rfl (by decide) rfl ?_
  exact law_loop KH S (hend _) (L + 1) 0 (Nat.zero_le L) (by omega) I0 J0 rel0
end ST
