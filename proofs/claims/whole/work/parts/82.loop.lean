/-! the law's loop -/
section LC
variable {Γ : hG} {G : hQ} {l : Launch} {I : hI} {J : hJ} {b L : Nat} {xs : Nat → Int32}
set_option maxHeartbeats 2000000 in
set_option maxRecDepth 100000 in
theorem law_loop (K : h_C Γ G l 4 cL_law wsL_law RL 9 380) (S : lw_S Γ b L xs) (hend : ∀ (lo : List (Nat × Value)) (I : hI) (J : hJ), h_WW Γ G 1120 lo [] I J) : ∀ (n i : Nat), i ≤ L → L < i + n → ∀ (I : hI) (J : hJ), Rel I → h_WW Γ G 18 (lw_lo G b i) [] I J := by
  have hL := S.2.2.2
  intro n
  induction n with
  | zero => intro i h1 h2; omega
  | succ n ih =>
    intro i h1 h2 I J h
    refine x_iload_n (pc := 18) (x := nI i) K 0 dL_law_18 rfl rfl ?_
    refine x_aload_n (pc := 19) (x := b) K 3 dL_law_19 rfl rfl ?_
    refine x_slen (pc := 20) K S dL_law_20 ?_
    refine x_bipush (pc := 21) (v := 6) K dL_law_21 (by decide) ?_
    refine x_isub (pc := 23) K dL_law_23 ?_
    refine x_icmp_gt (pc := 24) (tgt := 1120) K dL_law_24 (by decide) (fun _ => hend _ _ _) (fun q => ?_)
    have h6 : i + 6 ≤ L := by
      have e : (nI L - 6).toInt = (L : Int) - 6 := by
        rw [Int32.toInt_sub, nI_toInt (by omega), show (6 : Int32).toInt = 6 from rfl]
        exact Int.bmod_eq_of_le (by omega) (by omega)
      rw [Int32.not_lt, le32, nI_toInt (by omega), e] at q
      omega
    refine x_aload_n (pc := 27) (x := b) K 3 dL_law_27 rfl rfl ?_
    refine x_iload_n (pc := 28) (x := nI i) K 0 dL_law_28 rfl rfl ?_
    refine x_sld (pc := 29) K S (vp_in_nI (show i < L by omega) (by omega)) dL_law_29 ?_
    refine x_bipush (pc := 30) (v := 31) K dL_law_30 (by decide) ?_
    refine x_iand (pc := 32) K dL_law_32 ?_
    have hz := and31 (xs (nI i).toNatClampNeg)
    generalize xs (nI i).toNatClampNeg &&& 31 = z at hz ⊢
    have kk : ∀ I' J', Rel I' → h_WW Γ G 1114 (lw_lo G b i) [] I' J' := fun I' J' h => by
      refine x_iinc (pc := 1114) (v := nI (i + 6)) (q0 := 0) (lo' := lw_lo G b (i + 6)) K dL_law_1114 rfl (by rw [show Int32.ofInt 6 = nI 6 by decide, nI_add]) (by decide) rfl ?_
      refine x_goto (pc := 1117) (tgt := 18) K dL_law_1117 (by decide) ?_
      exact ih (i + 6) h6 (by omega) I' J' h
    rcases (show z.toInt = 0 ∨ z.toInt = 1 ∨ z.toInt = 2 ∨ z.toInt = 3 ∨ z.toInt = 4 ∨ z.toInt = 5 ∨ z.toInt = 6 ∨ z.toInt = 7 ∨ z.toInt = 8 ∨ z.toInt = 9 ∨ z.toInt = 10 ∨ z.toInt = 11 ∨ z.toInt = 12 ∨ z.toInt = 13 ∨ z.toInt = 14 ∨ z.toInt = 15 ∨ z.toInt = 16 ∨ z.toInt = 17 ∨ z.toInt = 18 ∨ z.toInt = 19 ∨ z.toInt = 20 ∨ z.toInt = 21 ∨ z.toInt = 22 ∨ z.toInt = 23 ∨ z.toInt = 24 ∨ z.toInt = 25 ∨ z.toInt = 26 ∨ 26 < z.toInt by omega) with e | e | e | e | e | e | e | e | e | e | e | e | e | e | e | e | e | e | e | e | e | e | e | e | e | e | e | e
    · exact x_tableIn (pc := 33) (off := 123) (tgt := 156) K dL_law_33 (by omega) (by omega) (by rw [e]; rfl) (by decide) (lc_0 K S h6 h kk)
    · exact x_tableIn (pc := 33) (off := 176) (tgt := 209) K dL_law_33 (by omega) (by omega) (by rw [e]; rfl) (by decide) (lc_1 K S h6 h kk)
    · exact x_tableIn (pc := 33) (off := 229) (tgt := 262) K dL_law_33 (by omega) (by omega) (by rw [e]; rfl) (by decide) (lc_2 K S h6 h kk)
    · exact x_tableIn (pc := 33) (off := 278) (tgt := 311) K dL_law_33 (by omega) (by omega) (by rw [e]; rfl) (by decide) (lc_3 K S h6 h kk)
    · exact x_tableIn (pc := 33) (off := 327) (tgt := 360) K dL_law_33 (by omega) (by omega) (by rw [e]; rfl) (by decide) (lc_4 K S h6 h kk)
    · exact x_tableIn (pc := 33) (off := 360) (tgt := 393) K dL_law_33 (by omega) (by omega) (by rw [e]; rfl) (by decide) (lc_5 K S h6 h kk)
    · exact x_tableIn (pc := 33) (off := 394) (tgt := 427) K dL_law_33 (by omega) (by omega) (by rw [e]; rfl) (by decide) (lc_6 K S h6 h kk)
    · exact x_tableIn (pc := 33) (off := 448) (tgt := 481) K dL_law_33 (by omega) (by omega) (by rw [e]; rfl) (by decide) (lc_7 K S h6 h kk)
    · exact x_tableIn (pc := 33) (off := 492) (tgt := 525) K dL_law_33 (by omega) (by omega) (by rw [e]; rfl) (by decide) (lc_8 K S h6 h kk)
    · exact x_tableIn (pc := 33) (off := 526) (tgt := 559) K dL_law_33 (by omega) (by omega) (by rw [e]; rfl) (by decide) (lc_9 K S h6 h kk)
    · exact x_tableIn (pc := 33) (off := 549) (tgt := 582) K dL_law_33 (by omega) (by omega) (by rw [e]; rfl) (by decide) (lc_10 K S h6 h kk)
    · exact x_tableIn (pc := 33) (off := 572) (tgt := 605) K dL_law_33 (by omega) (by omega) (by rw [e]; rfl) (by decide) (lc_11 K S h6 h kk)
    · exact x_tableIn (pc := 33) (off := 595) (tgt := 628) K dL_law_33 (by omega) (by omega) (by rw [e]; rfl) (by decide) (lc_12 K S h6 h kk)
    · exact x_tableIn (pc := 33) (off := 628) (tgt := 661) K dL_law_33 (by omega) (by omega) (by rw [e]; rfl) (by decide) (lc_13 K S h6 h kk)
    · exact x_tableIn (pc := 33) (off := 671) (tgt := 704) K dL_law_33 (by omega) (by omega) (by rw [e]; rfl) (by decide) (lc_14 K S h6 h kk)
    · exact x_tableIn (pc := 33) (off := 694) (tgt := 727) K dL_law_33 (by omega) (by omega) (by rw [e]; rfl) (by decide) (lc_15 K S h6 h kk)
    · exact x_tableIn (pc := 33) (off := 737) (tgt := 770) K dL_law_33 (by omega) (by omega) (by rw [e]; rfl) (by decide) (lc_16 K S h6 h kk)
    · exact x_tableIn (pc := 33) (off := 801) (tgt := 834) K dL_law_33 (by omega) (by omega) (by rw [e]; rfl) (by decide) (lc_17 K S h6 h kk)
    · exact x_tableIn (pc := 33) (off := 844) (tgt := 877) K dL_law_33 (by omega) (by omega) (by rw [e]; rfl) (by decide) (lc_18 K S h6 h kk)
    · exact x_tableIn (pc := 33) (off := 877) (tgt := 910) K dL_law_33 (by omega) (by omega) (by rw [e]; rfl) (by decide) (lc_19 K S h6 h kk)
    · exact x_tableIn (pc := 33) (off := 930) (tgt := 963) K dL_law_33 (by omega) (by omega) (by rw [e]; rfl) (by decide) (lc_20 K S h6 h kk)
    · exact x_tableIn (pc := 33) (off := 953) (tgt := 986) K dL_law_33 (by omega) (by omega) (by rw [e]; rfl) (by decide) (lc_21 K S h6 h kk)
    · exact x_tableIn (pc := 33) (off := 986) (tgt := 1019) K dL_law_33 (by omega) (by omega) (by rw [e]; rfl) (by decide) (lc_22 K S h6 h kk)
    · exact x_tableIn (pc := 33) (off := 1009) (tgt := 1042) K dL_law_33 (by omega) (by omega) (by rw [e]; rfl) (by decide) (lc_23 K S h6 h kk)
    · exact x_tableIn (pc := 33) (off := 1032) (tgt := 1065) K dL_law_33 (by omega) (by omega) (by rw [e]; rfl) (by decide) (lc_24 K S h6 h kk)
    · exact x_tableIn (pc := 33) (off := 1055) (tgt := 1088) K dL_law_33 (by omega) (by omega) (by rw [e]; rfl) (by decide) (lc_25 K S h6 h kk)
    · exact x_tableIn (pc := 33) (off := 1068) (tgt := 1101) K dL_law_33 (by omega) (by omega) (by rw [e]; rfl) (by decide) (lc_26 K S h6 h kk)
    · exact x_tableOut (pc := 33) (tgt := 1114) K dL_law_33 (Or.inr e) (by decide) (kk I J h)
end LC
