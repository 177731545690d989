/-! array rows by a natural index; numbers as naturals -/
theorem nI_addE {x y : Int32} {a b : Nat} (hx : x = nI a) (hy : y = nI b) : x + y = nI (a + b) := by rw [hx, hy, nI_add]
theorem nI_mul (a b : Nat) : nI a * nI b = nI (a * b) := by simp [nI, Int32.ofNat_mul]
theorem nI_mulE {x y : Int32} {a b : Nat} (hx : x = nI a) (hy : y = nI b) : x * y = nI (a * b) := by rw [hx, hy, nI_mul]
theorem nI_sub {a b : Nat} (h : b ≤ a) : nI a - nI b = nI (a - b) := by
  have e : nI a = nI (a - b) + nI b := by rw [nI_add, Nat.sub_add_cancel h]
  rw [e, Int32.add_sub_cancel]
theorem nI_subE {x y : Int32} {a b : Nat} (h : b ≤ a) (hx : x = nI a) (hy : y = nI b) : x - y = nI (a - b) := by rw [hx, hy, nI_sub h]
theorem nI_incE {x : Int32} {a : Nat} (hx : x = nI a) : x + Int32.ofInt 1 = nI (a + 1) := by rw [hx, ← nI_1]; rfl
section HL2
variable {Γ : hG} {G : hQ} {l : Launch} {nL : Nat} {cc : ByteArray} {Ts : List Cond} {own : String} {fr lc pc : Nat} {lo lo' : List (Nat × Value)} {st : List Value} {I : hI} {J : hJ}
theorem y_iald (K : h_C Γ G l nL cc Ts own fr lc) {k0 n j : Nat} {i : Int32} (hk : k0 < 91) (hs : h_sh k0 = .inr (0, n)) (hi : i = nI j) (hj : j < n) (h31 : n < 2 ^ 31) (hdg : decode cc pc = .ok (.iaload, 1)) (kk : h_WW Γ G (pc + 1) lo (.int (I k0 j) :: st) I J) : h_WW Γ G pc lo (.int i :: rr G k0 :: st) I J := by
  subst hi
  refine x_iald K hk hs (vp_in_nI hj h31) hdg ?_
  rw [nI_clamp (Nat.lt_trans hj h31)]
  exact kk
theorem y_zald (K : h_C Γ G l nL cc Ts own fr lc) {k0 n j : Nat} {i : Int32} (hk : k0 < 91) (hs : h_sh k0 = .inr (3, n)) (hi : i = nI j) (hj : j < n) (h31 : n < 2 ^ 31) (hdg : decode cc pc = .ok (.baload, 1)) (kk : h_WW Γ G (pc + 1) lo (.int (I k0 j) :: st) I J) : h_WW Γ G pc lo (.int i :: rr G k0 :: st) I J := by
  subst hi
  refine x_zald K hk hs (vp_in_nI hj h31) hdg ?_
  rw [nI_clamp (Nat.lt_trans hj h31)]
  exact kk
theorem y_lald (K : h_C Γ G l nL cc Ts own fr lc) {k0 n j : Nat} {i : Int32} (hk : k0 < 91) (hs : h_sh k0 = .inr (1, n)) (hi : i = nI j) (hj : j < n) (h31 : n < 2 ^ 31) (hdg : decode cc pc = .ok (.laload, 1)) (kk : h_WW Γ G (pc + 1) lo (.long (J k0 j) :: st) I J) : h_WW Γ G pc lo (.int i :: rr G k0 :: st) I J := by
  subst hi
  refine x_lald K hk hs (vp_in_nI hj h31) hdg ?_
  rw [nI_clamp (Nat.lt_trans hj h31)]
  exact kk
theorem y_aald (K : h_C Γ G l nL cc Ts own fr lc) {k0 n j r0 : Nat} {i : Int32} (hk : k0 < 91) (hs : h_sh k0 = .inr (2, n)) (hi : i = nI j) (hj : j < n) (h31 : n < 2 ^ 31) (hr : h_rf k0 j = r0) (hdg : decode cc pc = .ok (.aaload, 1)) (kk : h_WW Γ G (pc + 1) lo (rr G r0 :: st) I J) : h_WW Γ G pc lo (.int i :: rr G k0 :: st) I J := by
  subst hi
  exact x_aald K hk hs (vp_in_nI hj h31) (by rw [nI_clamp (Nat.lt_trans hj h31)]; exact hr) hdg kk
theorem y_iast (K : h_C Γ G l nL cc Ts own fr lc) {k0 n j : Nat} {i x : Int32} (hk : k0 < 91) (hs : h_sh k0 = .inr (0, n)) (hi : i = nI j) (hj : j < n) (h31 : n < 2 ^ 31) (hdg : decode cc pc = .ok (.iastore, 1)) (kk : h_WW Γ G (pc + 1) lo st (h_up I k0 j x) J) : h_WW Γ G pc lo (.int x :: .int i :: rr G k0 :: st) I J := by
  subst hi
  refine x_iast K hk hs (vp_in_nI hj h31) hdg ?_
  rw [nI_clamp (Nat.lt_trans hj h31)]
  exact kk
theorem y_last (K : h_C Γ G l nL cc Ts own fr lc) {k0 n j : Nat} {i : Int32} {x : Int64} (hk : k0 < 91) (hs : h_sh k0 = .inr (1, n)) (hi : i = nI j) (hj : j < n) (h31 : n < 2 ^ 31) (hdg : decode cc pc = .ok (.lastore, 1)) (kk : h_WW Γ G (pc + 1) lo st I (h_upL J k0 j x)) : h_WW Γ G pc lo (.long x :: .int i :: rr G k0 :: st) I J := by
  subst hi
  refine x_last K hk hs (vp_in_nI hj h31) hdg ?_
  rw [nI_clamp (Nat.lt_trans hj h31)]
  exact kk
theorem y_zast (K : h_C Γ G l nL cc Ts own fr lc) {k0 n j : Nat} {i x : Int32} (hk : k0 < 91) (hs : h_sh k0 = .inr (3, n)) (hi : i = nI j) (hj : j < n) (h31 : n < 2 ^ 31) (hx : vp_nar .boolean x = x) (hdg : decode cc pc = .ok (.bastore, 1)) (kk : h_WW Γ G (pc + 1) lo st (h_up I k0 j x) J) : h_WW Γ G pc lo (.int x :: .int i :: rr G k0 :: st) I J := by
  subst hi
  intro H locs ls a b c d
  refine va_zast K.1 K.2.1 K.2.2.2.2.2.1 a b c k0 3 (h_W_z hk hs) rfl (vp_in_nI hj h31) hdg (fun H1 locs1 a1 b1 c1 => ?_)
  rw [hx, nI_clamp (Nat.lt_trans hj h31), h_W_up_z hk hs] at a1 b1
  exact kk H1 locs1 ls a1 b1 c1 d
theorem bz_narv {c : Prop} [Decidable c] : vp_nar .boolean (bz c) = bz c := by unfold bz; split <;> rfl
theorem y_copy (K : h_C Γ G l nL cc Ts own fr lc) {k0 k1 n0 n1 n index : Nat} {sp dp x : Int32} (hk0 : k0 < 91) (hs0 : h_sh k0 = .inr (0, n0)) (hk1 : k1 < 91) (hs1 : h_sh k1 = .inr (0, n1)) (hsp : sp = nI 0) (hdp : dp = nI 0) (hx : x = nI n) (h0 : n ≤ n0) (h1 : n ≤ n1) (h31 : n < 2 ^ 31) (hlink : Cond.methodLink own index arraycopyName ∈ Ts) (hnat : Cond.native arraycopyName ∈ Ts) (hstat : Cond.static arraycopyName ∈ Ts) (hini : Cond.initialized "java/lang/System" ∈ Ts) (hfr : 1 ≤ fr) (hlc : (st.map fun v => v.category).sum + (nativeFrameWords "java/lang/System" "arraycopy" 5 + 11) ≤ lc) (hdg : decode cc pc = .ok (.invokestatic index, 3)) (kk : h_WW Γ G (pc + 3) lo st (h_cp I k0 k1 n) J) : h_WW Γ G pc lo (.int x :: .int dp :: rr G k1 :: .int sp :: rr G k0 :: st) I J := by
  subst hsp; subst hdp; subst hx
  intro H locs ls a b c d
  refine va_copyi (ty := .int) K.1 K.2.1 (K.2.2.1.trans d.1.symm) K.2.2.2.1 (K.2.2.2.2.1 _ hlink) (K.2.2.2.2.1 _ hnat) (K.2.2.2.2.1 _ hstat) (K.2.2.2.2.1 _ hini) K.2.2.2.2.2.1 a b c k0 k1 0 0 (h_W_i hk0 hs0) (h_W_i hk1 hs1) rfl rfl rfl (nI_pos (by decide)) (nI_pos (by decide)) (nI_pos h31) (by rw [nI_clamp (by decide), nI_clamp h31]; omega) (by rw [nI_clamp (by decide), nI_clamp h31]; omega) (fun i _ => rfl) (Nat.le_trans hfr K.2.2.2.2.2.2.2.1) (Nat.le_trans hlc K.2.2.2.2.2.2.2.2.1) hdg (fun H1 locs1 a1 b1 c1 => ?_)
  rw [nI_clamp (by decide), nI_clamp h31, h_W_cp hk1 hs1] at a1 b1
  exact kk H1 locs1 ls a1 b1 c1 d
end HL2
