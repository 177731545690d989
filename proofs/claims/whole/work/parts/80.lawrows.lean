/-! THE LAW: rows of its own -/
abbrev lw_S (Γ : hG) (b L : Nat) (xs : Nat → Int32) : Prop := va_X b L xs (g_s Γ) (g_s Γ).heap ∧ b < (g_s Γ).heap.size ∧ ¬ g_A Γ b ∧ L ≤ 3072
abbrev lw_lo (G : hQ) (b i : Nat) : List (Nat × Value) := [(3, .int (nI i)), (2, rr G 76), (1, rr G 0), (0, .ref b)]
def fl01 (v : Int32) : Int32 := if v = 0 then 0 else 1
theorem fl01_or (v : Int32) : fl01 v = 0 ∨ fl01 v = 1 := by
  unfold fl01
  by_cases q : v = 0
  · exact Or.inl (if_pos q)
  · exact Or.inr (if_neg q)
theorem and31 (x : Int32) : 0 ≤ (x &&& 31).toInt ∧ (x &&& 31).toInt ≤ 31 := by
  have h1 : (x &&& 31).toBitVec.toNat ≤ 31 := by
    rw [Int32.toBitVec_and, BitVec.toNat_and]
    exact Nat.le_trans Nat.and_le_right (by decide)
  have h2 : (x &&& 31).toInt = ((x &&& 31).toBitVec.toNat : Int) := BitVec.toInt_eq_toNat_of_lt (by omega)
  omega
section LW
variable {Γ : hG} {G : hQ} {l : Launch} {nL : Nat} {cc : ByteArray} {Ts : List Cond} {own : String} {fr lc pc : Nat} {lo lo' : List (Nat × Value)} {st : List Value} {I : hI} {J : hJ} {b L : Nat} {xs : Nat → Int32}
theorem x_sld (K : h_C Γ G l nL cc Ts own fr lc) (S : lw_S Γ b L xs) {i : Int32} (hin : vp_in i L) (hdg : decode cc pc = .ok (.iaload, 1)) (kk : h_WW Γ G (pc + 1) lo (.int (xs i.toNatClampNeg) :: st) I J) : h_WW Γ G pc lo (.int i :: .ref b :: st) I J := fun H locs ls a d c e => va_sld K.1 K.2.1 S.1 S.2.1 S.2.2.1 c hin hdg (kk H locs ls a d c e)
theorem x_slen (K : h_C Γ G l nL cc Ts own fr lc) (S : lw_S Γ b L xs) (hdg : decode cc pc = .ok (.arraylength, 1)) (kk : h_WW Γ G (pc + 1) lo (.int (nI L) :: st) I J) : h_WW Γ G pc lo (.ref b :: st) I J := fun H locs ls a d c e => va_slen K.1 K.2.1 S.1 S.2.1 S.2.2.1 c hdg (kk H locs ls a d c e)
theorem x_arg (K : h_C Γ G l nL cc Ts own fr lc) (S : lw_S Γ b L xs) {i : Nat} (jn : Nat) {n : Int} (h0 : decode cc pc = .ok (.aload_n 0, 1)) (h1 : decode cc (pc + 1) = .ok (.iload_n 3, 1)) (h2 : decode cc (pc + 2) = .ok (.iconst n, 1)) (h3 : decode cc (pc + 3) = .ok (.iadd, 1)) (h4 : decode cc (pc + 4) = .ok (.iaload, 1)) (hv : Int32.ofInt n = nI jn) (hb : i + jn < L) (kk : h_WW Γ G (pc + 5) (lw_lo G b i) (.int (xs (i + jn)) :: st) I J) : h_WW Γ G pc (lw_lo G b i) st I J := by
  have hL := S.2.2.2
  refine x_aload_n (x := b) K 3 h0 rfl rfl ?_
  refine x_iload_n (x := nI i) K 0 h1 rfl rfl ?_
  refine x_iconst (v := nI jn) K h2 hv ?_
  refine x_iadd K h3 ?_
  refine x_topie (nI (i + jn)) (nI_add i jn) ?_
  refine x_sld K S (vp_in_nI hb (by omega)) h4 ?_
  rw [nI_clamp (by omega)]
  exact kk
theorem x_flag (K : h_C Γ G l nL cc Ts own fr lc) {v : Int32} (h0 : decode cc pc = .ok (.ifCond .eq 7, 3)) (h1 : decode cc (pc + 3) = .ok (.iconst 1, 1)) (h2 : decode cc (pc + 4) = .ok (.goto 4, 3)) (h3 : decode cc (pc + 7) = .ok (.iconst 0, 1)) (kk : h_WW Γ G (pc + 8) lo (.int (fl01 v) :: st) I J) : h_WW Γ G pc lo (.int v :: st) I J := by
  refine x_if_eq (tgt := pc + 7) K h0 (by omega) (fun q => ?_) (fun q => ?_)
  · refine x_iconst (v := 0) K h3 (by decide) ?_
    have e : fl01 v = 0 := if_pos q
    rw [e] at kk; exact kk
  · refine x_iconst (v := 1) K h1 (by decide) ?_
    refine x_goto (tgt := pc + 8) K h2 (by omega) ?_
    have e : fl01 v = 1 := if_neg q
    rw [e] at kk; exact kk
end LW
