/-! the reference: costs of a match -/
def rxM (I : hI) (J : hJ) (i : Nat) : Int64 := flM (2 * (J 76 16 * (I 82 (3 * i + 1)).toInt64 + J 76 17 * (I 82 (3 * i + 2)).toInt64 + J 76 18) + J 76 19) (2 * J 76 19)
def ryM (I : hI) (J : hJ) (i : Nat) : Int64 := flM (2 * (J 76 20 * (I 82 (3 * i + 1)).toInt64 + J 76 21 * (I 82 (3 * i + 2)).toInt64 + J 76 22) + J 76 23) (2 * J 76 23)
def csM (I : hI) (J : hJ) (i k : Nat) : Int64 := if I 82 (3 * i) = I 82 (18 + 3 * k) then ng64 (rxM I J i - (I 82 (18 + 3 * k + 1)).toInt64) + ng64 (ryM I J i - (I 82 (18 + 3 * k + 2)).toInt64) else -1
abbrev csV (I : hI) (J J1 : hJ) (nn i : Nat) : Prop := (∀ c, c ≠ 88 → J1 c = J c) ∧ ∀ a, a < i → ∀ k, k < nn → J1 88 (6 * a + k) = csM I J a k
theorem cs_step {I : hI} {J J1 : hJ} {nn i k : Nat} (h : csV I J J1 nn i) (hk : k < nn) (h6 : nn ≤ 6) (hj : ∀ q, q < k → J1 88 (6 * i + q) = csM I J i q) : csV I J (h_upL J1 88 (6 * i + k) (csM I J i k)) nn i ∧ ∀ q, q < k + 1 → h_upL J1 88 (6 * i + k) (csM I J i k) 88 (6 * i + q) = csM I J i q := by
  refine ⟨⟨fun c hc => by rw [h_upL_ne hc, h.1 c hc], fun a ha q hq => ?_⟩, fun q hq => ?_⟩
  · have e : ¬ 6 * a + q = 6 * i + k := by omega
    simp only [h_upL, e, and_false, if_false]
    exact h.2 a ha q hq
  · by_cases e : q = k
    · subst e; simp [h_upL]
    · have e2 : ¬ 6 * i + q = 6 * i + k := by omega
      simp only [h_upL, e2, and_false, if_false]
      exact hj q (by omega)
theorem cs_row {I : hI} {J J1 : hJ} {nn i k : Nat} (h : csV I J J1 nn i) (hk : nn ≤ k) (hj : ∀ q, q < k → J1 88 (6 * i + q) = csM I J i q) : csV I J J1 nn (i + 1) := by
  refine ⟨h.1, fun a ha q hq => ?_⟩
  by_cases e : a = i
  · subst e; exact hj q (by omega)
  · exact h.2 a (by omega) q hq
def ccS (C : Nat → Nat → Int64) (ch : Nat → Nat) (nn : Nat) (lost : Int64) : Nat → Option (Nat × Int64)
  | 0 => some (0, 0)
  | k + 1 => match ccS C ch nn lost k with
    | none => none
    | some q => if ch k = nn then some (q.1, q.2 + lost) else if C k (ch k) < 0 ∨ bitOn (nI q.1) (ch k) then none else some (orB q.1 (ch k), q.2 + C k (ch k))
def ccR (C : Nat → Nat → Int64) (ch : Nat → Nat) (nn : Nat) (lost : Int64) (no : Nat) : Int64 := match ccS C ch nn lost no with
  | none => -1
  | some q => q.2
theorem ccS_s {C : Nat → Nat → Int64} {ch : Nat → Nat} {nn k u : Nat} {lost s : Int64} (h : ccS C ch nn lost k = some (u, s)) : ccS C ch nn lost (k + 1) = if ch k = nn then some (u, s + lost) else if C k (ch k) < 0 ∨ bitOn (nI u) (ch k) then none else some (orB u (ch k), s + C k (ch k)) := by
  simp only [ccS, h]
theorem ccS_n {C : Nat → Nat → Int64} {ch : Nat → Nat} {nn : Nat} {lost : Int64} {k : Nat} (h : ccS C ch nn lost k = none) : ∀ d, ccS C ch nn lost (k + d) = none
  | 0 => h
  | d + 1 => by
    have e := ccS_n h d
    show ccS C ch nn lost ((k + d) + 1) = none
    simp only [ccS, e]
theorem ccR_n {C : Nat → Nat → Int64} {ch : Nat → Nat} {nn : Nat} {lost : Int64} {k no : Nat} (h : ccS C ch nn lost k = none) (hk : k ≤ no) : ccR C ch nn lost no = -1 := by
  obtain ⟨d, rfl⟩ : ∃ d, no = k + d := ⟨no - k, by omega⟩
  simp only [ccR, ccS_n h d]
theorem ccR_s {C : Nat → Nat → Int64} {ch : Nat → Nat} {nn no u : Nat} {lost s : Int64} (h : ccS C ch nn lost no = some (u, s)) : ccR C ch nn lost no = s := by simp only [ccR, h]
set_option maxHeartbeats 1000000 in
set_option maxRecDepth 100000 in
theorem c_X8_findCosts (l : Launch) (G : hQ) (I : hI) (J : hJ) (no : Nat) (ho : I 81 0 = nI no) (h60 : no ≤ 6) (nn : Nat) (hnn : I 81 1 = nI nn) (h6 : nn ≤ 6) (hz1 : ¬ 2 * J 76 19 = 0) (hz2 : ¬ 2 * J 76 23 = 0) : h_Mv l yX8_findCosts wsX8_findCosts 2 48 G [rr G 76] I J (fun I' J' => I = I' ∧ (∀ c, c ≠ 88 → J' c = J c) ∧ ∀ i, i < no → ∀ k, k < nn → J' 88 (6 * i + k) = csM I J i k) := by
  refine h_Mv.of (cc := cX8_findCosts) (maxL := 15) [(0, rr G 76)] (by decide +kernel) rfl (Nat.le_of_ble_eq_true rfl) rfl ?_
  intro Γ K ret
  have i_X8 : ∀ w ∈ u_ws RX8 TX8 36, w ∈ wsX8_findCosts := by decide +kernel
  have outer : ∀ i, i ≤ no → ∀ J1 : hJ, csV I J J1 nn i → h_WW Γ G 2 [(1, .int (nI i)), (0, rr G 76)] [] I J1 := by
    refine loopU no (fun i hi ihO => ?_)
    intro J1 h
    refine x_iload_n (pc := 2) K 0 dX8_findCosts_2 rfl rfl ?_
    refine x_aload_n (pc := 3) K 1 dX8_findCosts_3 rfl rfl ?_
    refine x_getr (r0 := 81) (pc := 4) (index := 23) (C := RX8) (T := TX8) (N := 36) (j0 := 6) (ref := "OldMapModel") K (by decide) sh_76 rfl i_X8 (by decide) (by decide +kernel) rfl rfl rf_76_6 dX8_findCosts_4 ?_
    refine x_iconst (pc := 7) (v := 0) K dX8_findCosts_7 (by decide) ?_
    refine y_iald (j := 0) (pc := 8) K (by decide) sh_81 rfl (by omega) (by decide) dX8_findCosts_8 ?_
    refine x_topie (nI no) ho ?_
    refine x_icmp_ge (pc := 9) (tgt := 231) K dX8_findCosts_9 (by decide) (fun c_9 => ?_) (fun c_9 => ?_)
    · replace c_9 := cI_le (a := no) (b := i) rfl rfl (by omega) (by omega) c_9
      exact ret (pc := 231) dX8_findCosts_231 (⟨rfl, h.1, fun a ha q hq => h.2 a (by omega) q hq⟩)
    · replace c_9 := cI_nle (a := no) (b := i) rfl rfl (by omega) (by omega) c_9
      have inner : ∀ k, k ≤ nn → ∀ (J1 : hJ), (csV I J J1 nn i) → ((∀ q, q < k → J1 88 (6 * i + q) = csM I J i q)) → h_WW Γ G 96 [(10, .int (nI k)), (8, .long (ryM I J i)), (6, .long (rxM I J i)), (0, rr G 76), (1, .int (nI i))] [] I J1 := by
        refine loopU nn (fun k hk ih => ?_)
        intro J1 h hj
        refine x_iload (pc := 96) K 0 dX8_findCosts_96 rfl ?_
        refine x_aload_n (pc := 98) K 3 dX8_findCosts_98 rfl rfl ?_
        refine x_getr (r0 := 81) (pc := 99) (index := 23) (C := RX8) (T := TX8) (N := 36) (j0 := 6) (ref := "OldMapModel") K (by decide) sh_76 rfl i_X8 (by decide) (by decide +kernel) rfl rfl rf_76_6 dX8_findCosts_99 ?_
        refine x_iconst (pc := 102) (v := 1) K dX8_findCosts_102 (by decide) ?_
        refine y_iald (j := 1) (pc := 103) K (by decide) sh_81 rfl (by omega) (by decide) dX8_findCosts_103 ?_
        refine x_topie (nI nn) hnn ?_
        refine x_icmp_ge (pc := 104) (tgt := 225) K dX8_findCosts_104 (by decide) (fun c_104 => ?_) (fun c_104 => ?_)
        · replace c_104 := cI_le (a := nn) (b := k) rfl rfl (by omega) (by omega) c_104
          refine x_iinc (pc := 225) (q0 := 4) (v := nI (i + 1)) (lo' := [(1, _), (10, _), (8, _), (6, _), (0, _)]) K dX8_findCosts_225 rfl (nI_incE rfl) (by decide) rfl ?_
          refine x_goto (pc := 228) (tgt := 2) K dX8_findCosts_228 (by decide) ?_
          refine x_lo (lo' := [(1, _), (0, _)]) [0, 4] rfl ?_
          exact ihO (by omega) J1 (cs_row h (by omega) hj)
        · replace c_104 := cI_nle (a := nn) (b := k) rfl rfl (by omega) (by omega) c_104
          refine x_lload (pc := 107) K 2 dX8_findCosts_107 rfl ?_
          refine x_aload_n (pc := 109) K 3 dX8_findCosts_109 rfl rfl ?_
          refine x_getr (r0 := 82) (pc := 110) (index := 26) (C := RX8) (T := TX8) (N := 36) (j0 := 7) (ref := "OldMapModel") K (by decide) sh_76 rfl i_X8 (by decide) (by decide +kernel) rfl rfl rf_76_7 dX8_findCosts_110 ?_
          refine x_bipush (pc := 113) (v := 18) K dX8_findCosts_113 (by decide) ?_
          refine x_iconst (pc := 115) (v := 3) K dX8_findCosts_115 (by decide) ?_
          refine x_iload (pc := 116) K 0 dX8_findCosts_116 rfl ?_
          refine x_imul (pc := 118) K dX8_findCosts_118 ?_
          refine x_iadd (pc := 119) K dX8_findCosts_119 ?_
          refine x_iconst (pc := 120) (v := 1) K dX8_findCosts_120 (by decide) ?_
          refine x_iadd (pc := 121) K dX8_findCosts_121 ?_
          refine y_iald (j := ((18 + (3 * k)) + 1)) (pc := 122) K (by decide) sh_82 (nI_addE (nI_addE rfl (nI_mulE rfl rfl)) rfl) (by omega) (by decide) dX8_findCosts_122 ?_
          refine x_i2l (pc := 123) K dX8_findCosts_123 ?_
          refine x_lsub (pc := 124) K dX8_findCosts_124 ?_
          refine x_lstore (pc := 125) (lo' := [(11, _), (10, _), (8, _), (6, _), (0, _), (1, _)]) K dX8_findCosts_125 (by decide) rfl ?_
          refine x_lload (pc := 127) K 2 dX8_findCosts_127 rfl ?_
          refine x_aload_n (pc := 129) K 4 dX8_findCosts_129 rfl rfl ?_
          refine x_getr (r0 := 82) (pc := 130) (index := 26) (C := RX8) (T := TX8) (N := 36) (j0 := 7) (ref := "OldMapModel") K (by decide) sh_76 rfl i_X8 (by decide) (by decide +kernel) rfl rfl rf_76_7 dX8_findCosts_130 ?_
          refine x_bipush (pc := 133) (v := 18) K dX8_findCosts_133 (by decide) ?_
          refine x_iconst (pc := 135) (v := 3) K dX8_findCosts_135 (by decide) ?_
          refine x_iload (pc := 136) K 1 dX8_findCosts_136 rfl ?_
          refine x_imul (pc := 138) K dX8_findCosts_138 ?_
          refine x_iadd (pc := 139) K dX8_findCosts_139 ?_
          refine x_iconst (pc := 140) (v := 2) K dX8_findCosts_140 (by decide) ?_
          refine x_iadd (pc := 141) K dX8_findCosts_141 ?_
          refine y_iald (j := ((18 + (3 * k)) + 2)) (pc := 142) K (by decide) sh_82 (nI_addE (nI_addE rfl (nI_mulE rfl rfl)) rfl) (by omega) (by decide) dX8_findCosts_142 ?_
          refine x_i2l (pc := 143) K dX8_findCosts_143 ?_
          refine x_lsub (pc := 144) K dX8_findCosts_144 ?_
          refine x_lstore (pc := 145) (lo' := [(13, _), (11, _), (10, _), (8, _), (6, _), (0, _), (1, _)]) K dX8_findCosts_145 (by decide) rfl ?_
          refine x_aload_n (pc := 147) K 5 dX8_findCosts_147 rfl rfl ?_
          refine x_getr (r0 := 88) (pc := 148) (index := 51) (C := RX8) (T := TX8) (N := 36) (j0 := 32) (ref := "OldMapModel") K (by decide) sh_76 rfl i_X8 (by decide) (by decide +kernel) rfl rfl rf_76_32 dX8_findCosts_148 ?_
          refine x_bipush (pc := 151) (v := 6) K dX8_findCosts_151 (by decide) ?_
          refine x_iload_n (pc := 153) K 6 dX8_findCosts_153 rfl rfl ?_
          refine x_imul (pc := 154) K dX8_findCosts_154 ?_
          refine x_iload (pc := 155) K 2 dX8_findCosts_155 rfl ?_
          refine x_iadd (pc := 157) K dX8_findCosts_157 ?_
          refine x_aload_n (pc := 158) K 5 dX8_findCosts_158 rfl rfl ?_
          refine x_getr (r0 := 82) (pc := 159) (index := 26) (C := RX8) (T := TX8) (N := 36) (j0 := 7) (ref := "OldMapModel") K (by decide) sh_76 rfl i_X8 (by decide) (by decide +kernel) rfl rfl rf_76_7 dX8_findCosts_159 ?_
          refine x_iconst (pc := 162) (v := 3) K dX8_findCosts_162 (by decide) ?_
          refine x_iload_n (pc := 163) K 6 dX8_findCosts_163 rfl rfl ?_
          refine x_imul (pc := 164) K dX8_findCosts_164 ?_
          refine y_iald (j := (3 * i)) (pc := 165) K (by decide) sh_82 (nI_mulE rfl rfl) (by omega) (by decide) dX8_findCosts_165 ?_
          refine x_aload_n (pc := 166) K 5 dX8_findCosts_166 rfl rfl ?_
          refine x_getr (r0 := 82) (pc := 167) (index := 26) (C := RX8) (T := TX8) (N := 36) (j0 := 7) (ref := "OldMapModel") K (by decide) sh_76 rfl i_X8 (by decide) (by decide +kernel) rfl rfl rf_76_7 dX8_findCosts_167 ?_
          refine x_bipush (pc := 170) (v := 18) K dX8_findCosts_170 (by decide) ?_
          refine x_iconst (pc := 172) (v := 3) K dX8_findCosts_172 (by decide) ?_
          refine x_iload (pc := 173) K 2 dX8_findCosts_173 rfl ?_
          refine x_imul (pc := 175) K dX8_findCosts_175 ?_
          refine x_iadd (pc := 176) K dX8_findCosts_176 ?_
          refine y_iald (j := (18 + (3 * k))) (pc := 177) K (by decide) sh_82 (nI_addE rfl (nI_mulE rfl rfl)) (by omega) (by decide) dX8_findCosts_177 ?_
          refine x_icmp_ne (pc := 178) (tgt := 215) K dX8_findCosts_178 (by decide) (fun c_178 => ?_) (fun c_178 => ?_)
          · refine x_ldc2_w (pc := 215) (v := (-1)) K (by decide +kernel) dX8_findCosts_215 ?_
            refine x_tople (csM I J i k) (by rw [csM, if_neg c_178]) ?_
            refine y_last (j := ((6 * i) + k)) (pc := 218) K (by decide) sh_88 (nI_addE (nI_mulE rfl rfl) rfl) (by omega) (by decide) dX8_findCosts_218 ?_
            refine x_iinc (pc := 219) (q0 := 2) (v := nI (k + 1)) (lo' := [(10, _), (13, _), (11, _), (8, _), (6, _), (0, _), (1, _)]) K dX8_findCosts_219 rfl (nI_incE rfl) (by decide) rfl ?_
            refine x_goto (pc := 222) (tgt := 96) K dX8_findCosts_222 (by decide) ?_
            refine x_lo (lo' := [(10, _), (8, _), (6, _), (0, _), (1, _)]) [0, 3, 4, 5, 6] rfl ?_
            exact x_loe (by rfl) (ih (by omega) _ (cs_step h (by omega) h6 hj).1 (cs_step h (by omega) h6 hj).2)
          · refine x_lload (pc := 181) K 1 dX8_findCosts_181 rfl ?_
            refine x_lconst (pc := 183) (v := 0) K dX8_findCosts_183 (by decide) ?_
            refine x_lcmp (pc := 184) K dX8_findCosts_184 ?_
            refine x_if_ge (pc := 185) (tgt := 194) K dX8_findCosts_185 (by decide) (fun c_185 => ?_) (fun c_185 => ?_)
            · replace c_185 := (lg_cmp_ge _ _).mp c_185
              refine x_lload (pc := 194) K 1 dX8_findCosts_194 rfl ?_
              refine x_tople (ng64 (rxM I J i - (I 82 (18 + 3 * k + 1)).toInt64)) (by rw [ng64, if_pos c_185]) ?_
              refine x_lload (pc := 196) K 0 dX8_findCosts_196 rfl ?_
              refine x_lconst (pc := 198) (v := 0) K dX8_findCosts_198 (by decide) ?_
              refine x_lcmp (pc := 199) K dX8_findCosts_199 ?_
              refine x_if_ge (pc := 200) (tgt := 209) K dX8_findCosts_200 (by decide) (fun c_200 => ?_) (fun c_200 => ?_)
              · replace c_200 := (lg_cmp_ge _ _).mp c_200
                refine x_lload (pc := 209) K 0 dX8_findCosts_209 rfl ?_
                refine x_tople (ng64 (ryM I J i - (I 82 (18 + 3 * k + 2)).toInt64)) (by rw [ng64, if_pos c_200]) ?_
                refine x_ladd (pc := 211) K dX8_findCosts_211 ?_
                refine x_goto (pc := 212) (tgt := 218) K dX8_findCosts_212 (by decide) ?_
                refine x_tople (csM I J i k) (by rw [csM, if_pos c_178]) ?_
                refine y_last (j := ((6 * i) + k)) (pc := 218) K (by decide) sh_88 (nI_addE (nI_mulE rfl rfl) rfl) (by omega) (by decide) dX8_findCosts_218 ?_
                refine x_iinc (pc := 219) (q0 := 2) (v := nI (k + 1)) (lo' := [(10, _), (13, _), (11, _), (8, _), (6, _), (0, _), (1, _)]) K dX8_findCosts_219 rfl (nI_incE rfl) (by decide) rfl ?_
                refine x_goto (pc := 222) (tgt := 96) K dX8_findCosts_222 (by decide) ?_
                refine x_lo (lo' := [(10, _), (8, _), (6, _), (0, _), (1, _)]) [0, 3, 4, 5, 6] rfl ?_
                exact x_loe (by rfl) (ih (by omega) _ (cs_step h (by omega) h6 hj).1 (cs_step h (by omega) h6 hj).2)
              · replace c_200 := mt (lg_cmp_ge _ _).mpr c_200
                refine x_lload (pc := 203) K 0 dX8_findCosts_203 rfl ?_
                refine x_lneg (pc := 205) K dX8_findCosts_205 ?_
                refine x_goto (pc := 206) (tgt := 211) K dX8_findCosts_206 (by decide) ?_
                refine x_tople (ng64 (ryM I J i - (I 82 (18 + 3 * k + 2)).toInt64)) (by rw [ng64, if_neg c_200]) ?_
                refine x_ladd (pc := 211) K dX8_findCosts_211 ?_
                refine x_goto (pc := 212) (tgt := 218) K dX8_findCosts_212 (by decide) ?_
                refine x_tople (csM I J i k) (by rw [csM, if_pos c_178]) ?_
                refine y_last (j := ((6 * i) + k)) (pc := 218) K (by decide) sh_88 (nI_addE (nI_mulE rfl rfl) rfl) (by omega) (by decide) dX8_findCosts_218 ?_
                refine x_iinc (pc := 219) (q0 := 2) (v := nI (k + 1)) (lo' := [(10, _), (13, _), (11, _), (8, _), (6, _), (0, _), (1, _)]) K dX8_findCosts_219 rfl (nI_incE rfl) (by decide) rfl ?_
                refine x_goto (pc := 222) (tgt := 96) K dX8_findCosts_222 (by decide) ?_
                refine x_lo (lo' := [(10, _), (8, _), (6, _), (0, _), (1, _)]) [0, 3, 4, 5, 6] rfl ?_
                exact x_loe (by rfl) (ih (by omega) _ (cs_step h (by omega) h6 hj).1 (cs_step h (by omega) h6 hj).2)
            · replace c_185 := mt (lg_cmp_ge _ _).mpr c_185
              refine x_lload (pc := 188) K 1 dX8_findCosts_188 rfl ?_
              refine x_lneg (pc := 190) K dX8_findCosts_190 ?_
              refine x_goto (pc := 191) (tgt := 196) K dX8_findCosts_191 (by decide) ?_
              refine x_tople (ng64 (rxM I J i - (I 82 (18 + 3 * k + 1)).toInt64)) (by rw [ng64, if_neg c_185]) ?_
              refine x_lload (pc := 196) K 0 dX8_findCosts_196 rfl ?_
              refine x_lconst (pc := 198) (v := 0) K dX8_findCosts_198 (by decide) ?_
              refine x_lcmp (pc := 199) K dX8_findCosts_199 ?_
              refine x_if_ge (pc := 200) (tgt := 209) K dX8_findCosts_200 (by decide) (fun c_200 => ?_) (fun c_200 => ?_)
              · replace c_200 := (lg_cmp_ge _ _).mp c_200
                refine x_lload (pc := 209) K 0 dX8_findCosts_209 rfl ?_
                refine x_tople (ng64 (ryM I J i - (I 82 (18 + 3 * k + 2)).toInt64)) (by rw [ng64, if_pos c_200]) ?_
                refine x_ladd (pc := 211) K dX8_findCosts_211 ?_
                refine x_goto (pc := 212) (tgt := 218) K dX8_findCosts_212 (by decide) ?_
                refine x_tople (csM I J i k) (by rw [csM, if_pos c_178]) ?_
                refine y_last (j := ((6 * i) + k)) (pc := 218) K (by decide) sh_88 (nI_addE (nI_mulE rfl rfl) rfl) (by omega) (by decide) dX8_findCosts_218 ?_
                refine x_iinc (pc := 219) (q0 := 2) (v := nI (k + 1)) (lo' := [(10, _), (13, _), (11, _), (8, _), (6, _), (0, _), (1, _)]) K dX8_findCosts_219 rfl (nI_incE rfl) (by decide) rfl ?_
                refine x_goto (pc := 222) (tgt := 96) K dX8_findCosts_222 (by decide) ?_
                refine x_lo (lo' := [(10, _), (8, _), (6, _), (0, _), (1, _)]) [0, 3, 4, 5, 6] rfl ?_
                exact x_loe (by rfl) (ih (by omega) _ (cs_step h (by omega) h6 hj).1 (cs_step h (by omega) h6 hj).2)
              · replace c_200 := mt (lg_cmp_ge _ _).mpr c_200
                refine x_lload (pc := 203) K 0 dX8_findCosts_203 rfl ?_
                refine x_lneg (pc := 205) K dX8_findCosts_205 ?_
                refine x_goto (pc := 206) (tgt := 211) K dX8_findCosts_206 (by decide) ?_
                refine x_tople (ng64 (ryM I J i - (I 82 (18 + 3 * k + 2)).toInt64)) (by rw [ng64, if_neg c_200]) ?_
                refine x_ladd (pc := 211) K dX8_findCosts_211 ?_
                refine x_goto (pc := 212) (tgt := 218) K dX8_findCosts_212 (by decide) ?_
                refine x_tople (csM I J i k) (by rw [csM, if_pos c_178]) ?_
                refine y_last (j := ((6 * i) + k)) (pc := 218) K (by decide) sh_88 (nI_addE (nI_mulE rfl rfl) rfl) (by omega) (by decide) dX8_findCosts_218 ?_
                refine x_iinc (pc := 219) (q0 := 2) (v := nI (k + 1)) (lo' := [(10, _), (13, _), (11, _), (8, _), (6, _), (0, _), (1, _)]) K dX8_findCosts_219 rfl (nI_incE rfl) (by decide) rfl ?_
                refine x_goto (pc := 222) (tgt := 96) K dX8_findCosts_222 (by decide) ?_
                refine x_lo (lo' := [(10, _), (8, _), (6, _), (0, _), (1, _)]) [0, 3, 4, 5, 6] rfl ?_
                exact x_loe (by rfl) (ih (by omega) _ (cs_step h (by omega) h6 hj).1 (cs_step h (by omega) h6 hj).2)
      refine x_aload_n (pc := 12) K 1 dX8_findCosts_12 rfl rfl ?_
      refine x_getr (r0 := 82) (pc := 13) (index := 26) (C := RX8) (T := TX8) (N := 36) (j0 := 7) (ref := "OldMapModel") K (by decide) sh_76 rfl i_X8 (by decide) (by decide +kernel) rfl rfl rf_76_7 dX8_findCosts_13 ?_
      refine x_iconst (pc := 16) (v := 3) K dX8_findCosts_16 (by decide) ?_
      refine x_iload_n (pc := 17) K 0 dX8_findCosts_17 rfl rfl ?_
      refine x_imul (pc := 18) K dX8_findCosts_18 ?_
      refine x_iconst (pc := 19) (v := 1) K dX8_findCosts_19 (by decide) ?_
      refine x_iadd (pc := 20) K dX8_findCosts_20 ?_
      refine y_iald (j := ((3 * i) + 1)) (pc := 21) K (by decide) sh_82 (nI_addE (nI_mulE rfl rfl) rfl) (by omega) (by decide) dX8_findCosts_21 ?_
      refine x_i2l (pc := 22) K dX8_findCosts_22 ?_
      refine x_lstore_n (pc := 23) (lo' := [(2, _), (1, _), (0, _)]) K dX8_findCosts_23 rfl (by decide) rfl ?_
      refine x_aload_n (pc := 24) K 2 dX8_findCosts_24 rfl rfl ?_
      refine x_getr (r0 := 82) (pc := 25) (index := 26) (C := RX8) (T := TX8) (N := 36) (j0 := 7) (ref := "OldMapModel") K (by decide) sh_76 rfl i_X8 (by decide) (by decide +kernel) rfl rfl rf_76_7 dX8_findCosts_25 ?_
      refine x_iconst (pc := 28) (v := 3) K dX8_findCosts_28 (by decide) ?_
      refine x_iload_n (pc := 29) K 1 dX8_findCosts_29 rfl rfl ?_
      refine x_imul (pc := 30) K dX8_findCosts_30 ?_
      refine x_iconst (pc := 31) (v := 2) K dX8_findCosts_31 (by decide) ?_
      refine x_iadd (pc := 32) K dX8_findCosts_32 ?_
      refine y_iald (j := ((3 * i) + 2)) (pc := 33) K (by decide) sh_82 (nI_addE (nI_mulE rfl rfl) rfl) (by omega) (by decide) dX8_findCosts_33 ?_
      refine x_i2l (pc := 34) K dX8_findCosts_34 ?_
      refine x_lstore (pc := 35) (lo' := [(4, _), (2, _), (1, _), (0, _)]) K dX8_findCosts_35 (by decide) rfl ?_
      refine x_aload_n (pc := 37) K 3 dX8_findCosts_37 rfl rfl ?_
      refine x_getl (pc := 38) (index := 83) (C := RX8) (T := TX8) (N := 36) (j0 := 16) (ref := "OldMapModel") K (by decide) sh_76 rfl i_X8 (by decide) (by decide +kernel) rfl rfl dX8_findCosts_38 ?_
      refine x_tople (J 76 16) (congrFun (h.1 76 (by decide)) 16) ?_
      refine x_lload_n (pc := 41) K 1 dX8_findCosts_41 rfl rfl ?_
      refine x_lmul (pc := 42) K dX8_findCosts_42 ?_
      refine x_aload_n (pc := 43) K 3 dX8_findCosts_43 rfl rfl ?_
      refine x_getl (pc := 44) (index := 87) (C := RX8) (T := TX8) (N := 36) (j0 := 17) (ref := "OldMapModel") K (by decide) sh_76 rfl i_X8 (by decide) (by decide +kernel) rfl rfl dX8_findCosts_44 ?_
      refine x_tople (J 76 17) (congrFun (h.1 76 (by decide)) 17) ?_
      refine x_lload (pc := 47) K 0 dX8_findCosts_47 rfl ?_
      refine x_lmul (pc := 49) K dX8_findCosts_49 ?_
      refine x_ladd (pc := 50) K dX8_findCosts_50 ?_
      refine x_aload_n (pc := 51) K 3 dX8_findCosts_51 rfl rfl ?_
      refine x_getl (pc := 52) (index := 90) (C := RX8) (T := TX8) (N := 36) (j0 := 18) (ref := "OldMapModel") K (by decide) sh_76 rfl i_X8 (by decide) (by decide +kernel) rfl rfl dX8_findCosts_52 ?_
      refine x_tople (J 76 18) (congrFun (h.1 76 (by decide)) 18) ?_
      refine x_ladd (pc := 55) K dX8_findCosts_55 ?_
      refine x_aload_n (pc := 56) K 3 dX8_findCosts_56 rfl rfl ?_
      refine x_getl (pc := 57) (index := 93) (C := RX8) (T := TX8) (N := 36) (j0 := 19) (ref := "OldMapModel") K (by decide) sh_76 rfl i_X8 (by decide) (by decide +kernel) rfl rfl dX8_findCosts_57 ?_
      refine x_tople (J 76 19) (congrFun (h.1 76 (by decide)) 19) ?_
      refine x_calllS (pc := 60) (st := []) (n := 2) K (c_X8_rounded l G _ _ _ _ hz1) gX8_findCosts_X8_rounded (by decide +kernel) rfl (by decide) (by decide) rfl rfl (Nat.le_of_ble_eq_true rfl) dX8_findCosts_60 (fun r_60 I_60 J_60 hp_60 => ?_)
      obtain ⟨rfl, rfl, rfl⟩ := hp_60
      refine x_tople (rxM I J i) rfl ?_
      refine x_lstore (pc := 63) (lo' := [(6, _), (4, _), (2, _), (1, _), (0, _)]) K dX8_findCosts_63 (by decide) rfl ?_
      refine x_aload_n (pc := 65) K 4 dX8_findCosts_65 rfl rfl ?_
      refine x_getl (pc := 66) (index := 96) (C := RX8) (T := TX8) (N := 36) (j0 := 20) (ref := "OldMapModel") K (by decide) sh_76 rfl i_X8 (by decide) (by decide +kernel) rfl rfl dX8_findCosts_66 ?_
      refine x_tople (J 76 20) (congrFun (h.1 76 (by decide)) 20) ?_
      refine x_lload_n (pc := 69) K 2 dX8_findCosts_69 rfl rfl ?_
      refine x_lmul (pc := 70) K dX8_findCosts_70 ?_
      refine x_aload_n (pc := 71) K 4 dX8_findCosts_71 rfl rfl ?_
      refine x_getl (pc := 72) (index := 99) (C := RX8) (T := TX8) (N := 36) (j0 := 21) (ref := "OldMapModel") K (by decide) sh_76 rfl i_X8 (by decide) (by decide +kernel) rfl rfl dX8_findCosts_72 ?_
      refine x_tople (J 76 21) (congrFun (h.1 76 (by decide)) 21) ?_
      refine x_lload (pc := 75) K 1 dX8_findCosts_75 rfl ?_
      refine x_lmul (pc := 77) K dX8_findCosts_77 ?_
      refine x_ladd (pc := 78) K dX8_findCosts_78 ?_
      refine x_aload_n (pc := 79) K 4 dX8_findCosts_79 rfl rfl ?_
      refine x_getl (pc := 80) (index := 102) (C := RX8) (T := TX8) (N := 36) (j0 := 22) (ref := "OldMapModel") K (by decide) sh_76 rfl i_X8 (by decide) (by decide +kernel) rfl rfl dX8_findCosts_80 ?_
      refine x_tople (J 76 22) (congrFun (h.1 76 (by decide)) 22) ?_
      refine x_ladd (pc := 83) K dX8_findCosts_83 ?_
      refine x_aload_n (pc := 84) K 4 dX8_findCosts_84 rfl rfl ?_
      refine x_getl (pc := 85) (index := 105) (C := RX8) (T := TX8) (N := 36) (j0 := 23) (ref := "OldMapModel") K (by decide) sh_76 rfl i_X8 (by decide) (by decide +kernel) rfl rfl dX8_findCosts_85 ?_
      refine x_tople (J 76 23) (congrFun (h.1 76 (by decide)) 23) ?_
      refine x_calllS (pc := 88) (st := []) (n := 2) K (c_X8_rounded l G _ _ _ _ hz2) gX8_findCosts_X8_rounded (by decide +kernel) rfl (by decide) (by decide) rfl rfl (Nat.le_of_ble_eq_true rfl) dX8_findCosts_88 (fun r_88 I_88 J_88 hp_88 => ?_)
      obtain ⟨rfl, rfl, rfl⟩ := hp_88
      refine x_tople (ryM I J i) rfl ?_
      refine x_lstore (pc := 91) (lo' := [(8, _), (6, _), (4, _), (2, _), (1, _), (0, _)]) K dX8_findCosts_91 (by decide) rfl ?_
      refine x_iconst (pc := 93) (v := 0) K dX8_findCosts_93 (by decide) ?_
      refine x_istore (pc := 94) (lo' := [(10, _), (8, _), (6, _), (4, _), (2, _), (1, _), (0, _)]) K dX8_findCosts_94 (by decide) rfl ?_
      refine x_lo (lo' := [(10, _), (8, _), (6, _), (0, _), (1, _)]) [0, 1, 2, 6, 5] rfl ?_
      exact x_loe (by rfl) (inner 0 (Nat.zero_le _) J1 h (fun q hq => absurd hq (by omega)))
  refine x_iconst (pc := 0) (v := 0) K dX8_findCosts_0 (by decide) ?_
  refine x_istore_n (pc := 1) (lo' := [(1, _), (0, _)]) K dX8_findCosts_1 rfl (by decide) rfl ?_
  refine x_lo (lo' := [(1, _), (0, _)]) [0, 1] rfl ?_
  exact x_loe (by rfl) (outer 0 (Nat.zero_le _) J ⟨fun _ _ => rfl, fun a h => absurd h (by omega)⟩)

set_option maxHeartbeats 1000000 in
set_option maxRecDepth 100000 in
theorem c_X8_costOfChoice (l : Launch) (G : hQ) (I : hI) (J : hJ) (no : Nat) (ho : I 81 0 = nI no) (h60 : no ≤ 6) (nn : Nat) (hnn : I 81 1 = nI nn) (h6 : nn ≤ 6) (ch : Nat → Nat) (hch : ∀ i, i < no → I 89 i = nI (ch i)) (hle : ∀ i, i < no → ch i ≤ nn) : h_Ml l yX8_costOfChoice wsX8_costOfChoice 0 0 G [rr G 76] I J (fun ρ I' J' => ccR (fun i k => J 88 (6 * i + k)) ch nn (I 76 9).toInt64 no = ρ ∧ I = I' ∧ J = J') := by
  refine h_Ml.of (cc := cX8_costOfChoice) (maxL := 6) [(0, rr G 76)] (by decide +kernel) rfl (Nat.le_of_ble_eq_true rfl) rfl ?_
  intro Γ K ret
  have i_X8 : ∀ w ∈ u_ws RX8 TX8 36, w ∈ wsX8_costOfChoice := by decide +kernel
  have loop : ∀ k, k ≤ no → ∀ (u : Nat) (s : Int64), (ccS (fun i k => J 88 (6 * i + k)) ch nn (I 76 9).toInt64 k = some (u, s)) → (u < 64) → h_WW Γ G 7 [(4, .int (nI k)), (3, .int (nI u)), (1, .long s), (0, rr G 76)] [] I J := by
    refine loopU no (fun k hk ih => ?_)
    intro u s hi hu
    have hlk := hle k
    refine x_iload (pc := 7) K 0 dX8_costOfChoice_7 rfl ?_
    refine x_aload_n (pc := 9) K 3 dX8_costOfChoice_9 rfl rfl ?_
    refine x_getr (r0 := 81) (pc := 10) (index := 23) (C := RX8) (T := TX8) (N := 36) (j0 := 6) (ref := "OldMapModel") K (by decide) sh_76 rfl i_X8 (by decide) (by decide +kernel) rfl rfl rf_76_6 dX8_costOfChoice_10 ?_
    refine x_iconst (pc := 13) (v := 0) K dX8_costOfChoice_13 (by decide) ?_
    refine y_iald (j := 0) (pc := 14) K (by decide) sh_81 rfl (by omega) (by decide) dX8_costOfChoice_14 ?_
    refine x_topie (nI no) ho ?_
    refine x_icmp_ge (pc := 15) (tgt := 110) K dX8_costOfChoice_15 (by decide) (fun c_15 => ?_) (fun c_15 => ?_)
    · replace c_15 := cI_le (a := no) (b := k) rfl rfl (by omega) (by omega) c_15
      refine x_lload_n (pc := 110) K 2 dX8_costOfChoice_110 rfl rfl ?_
      exact ret (pc := 111) dX8_costOfChoice_111 (⟨by rw [show no = k by omega]; exact ccR_s hi, rfl, rfl⟩)
    · replace c_15 := cI_nle (a := no) (b := k) rfl rfl (by omega) (by omega) c_15
      refine x_aload_n (pc := 18) K 3 dX8_costOfChoice_18 rfl rfl ?_
      refine x_getr (r0 := 89) (pc := 19) (index := 55) (C := RX8) (T := TX8) (N := 36) (j0 := 33) (ref := "OldMapModel") K (by decide) sh_76 rfl i_X8 (by decide) (by decide +kernel) rfl rfl rf_76_33 dX8_costOfChoice_19 ?_
      refine x_iload (pc := 22) K 0 dX8_costOfChoice_22 rfl ?_
      refine y_iald (j := k) (pc := 24) K (by decide) sh_89 rfl (by omega) (by decide) dX8_costOfChoice_24 ?_
      refine x_topie (nI (ch k)) (hch k (by omega)) ?_
      refine x_istore (pc := 25) (lo' := [(5, _), (4, _), (3, _), (1, _), (0, _)]) K dX8_costOfChoice_25 (by decide) rfl ?_
      refine x_iload (pc := 27) K 0 dX8_costOfChoice_27 rfl ?_
      refine x_aload_n (pc := 29) K 4 dX8_costOfChoice_29 rfl rfl ?_
      refine x_getr (r0 := 81) (pc := 30) (index := 23) (C := RX8) (T := TX8) (N := 36) (j0 := 6) (ref := "OldMapModel") K (by decide) sh_76 rfl i_X8 (by decide) (by decide +kernel) rfl rfl rf_76_6 dX8_costOfChoice_30 ?_
      refine x_iconst (pc := 33) (v := 1) K dX8_costOfChoice_33 (by decide) ?_
      refine y_iald (j := 1) (pc := 34) K (by decide) sh_81 rfl (by omega) (by decide) dX8_costOfChoice_34 ?_
      refine x_topie (nI nn) hnn ?_
      refine x_icmp_ne (pc := 35) (tgt := 49) K dX8_costOfChoice_35 (by decide) (fun c_35 => ?_) (fun c_35 => ?_)
      · replace c_35 := cI_ne (a := (ch k)) (b := nn) rfl rfl (by omega) (by omega) c_35
        refine x_aload_n (pc := 49) K 4 dX8_costOfChoice_49 rfl rfl ?_
        refine x_getr (r0 := 88) (pc := 50) (index := 51) (C := RX8) (T := TX8) (N := 36) (j0 := 32) (ref := "OldMapModel") K (by decide) sh_76 rfl i_X8 (by decide) (by decide +kernel) rfl rfl rf_76_32 dX8_costOfChoice_50 ?_
        refine x_bipush (pc := 53) (v := 6) K dX8_costOfChoice_53 (by decide) ?_
        refine x_iload (pc := 55) K 1 dX8_costOfChoice_55 rfl ?_
        refine x_imul (pc := 57) K dX8_costOfChoice_57 ?_
        refine x_iload (pc := 58) K 0 dX8_costOfChoice_58 rfl ?_
        refine x_iadd (pc := 60) K dX8_costOfChoice_60 ?_
        refine y_lald (j := ((6 * k) + (ch k))) (pc := 61) K (by decide) sh_88 (nI_addE (nI_mulE rfl rfl) rfl) (by omega) (by decide) dX8_costOfChoice_61 ?_
        refine x_lconst (pc := 62) (v := 0) K dX8_costOfChoice_62 (by decide) ?_
        refine x_lcmp (pc := 63) K dX8_costOfChoice_63 ?_
        refine x_if_lt (pc := 64) (tgt := 77) K dX8_costOfChoice_64 (by decide) (fun c_64 => ?_) (fun c_64 => ?_)
        · replace c_64 := (lg_cmp_lt _ _).mp c_64
          refine x_ldc2_w (pc := 77) (v := (-1)) K (by decide +kernel) dX8_costOfChoice_77 ?_
          exact ret (pc := 80) dX8_costOfChoice_80 (⟨ccR_n (k := k + 1) (by rw [ccS_s hi, if_neg c_35, if_pos (Or.inl c_64)]) (by omega), rfl, rfl⟩)
        · replace c_64 := mt (lg_cmp_lt _ _).mpr c_64
          refine x_iload_n (pc := 67) K 2 dX8_costOfChoice_67 rfl rfl ?_
          refine x_iload (pc := 68) K 0 dX8_costOfChoice_68 rfl ?_
          refine x_ishr (pc := 70) K dX8_costOfChoice_70 ?_
          refine x_iconst (pc := 71) (v := 1) K dX8_costOfChoice_71 (by decide) ?_
          refine x_iand (pc := 72) K dX8_costOfChoice_72 ?_
          refine x_iconst (pc := 73) (v := 1) K dX8_costOfChoice_73 (by decide) ?_
          refine x_icmp_ne (pc := 74) (tgt := 81) K dX8_costOfChoice_74 (by decide) (fun c_74 => ?_) (fun c_74 => ?_)
          · refine x_iload_n (pc := 81) K 2 dX8_costOfChoice_81 rfl rfl ?_
            refine x_iconst (pc := 82) (v := 1) K dX8_costOfChoice_82 (by decide) ?_
            refine x_iload (pc := 83) K 0 dX8_costOfChoice_83 rfl ?_
            refine x_ishl (pc := 85) K dX8_costOfChoice_85 ?_
            refine x_ior (pc := 86) K dX8_costOfChoice_86 ?_
            have hor := orB_ok u hu (ch k) (by omega)
            refine x_topie (nI (orB u (ch k))) hor.1 ?_
            refine x_istore_n (pc := 87) (lo' := [(3, _), (5, _), (4, _), (1, _), (0, _)]) K dX8_costOfChoice_87 rfl (by decide) rfl ?_
            refine x_lload_n (pc := 88) K 3 dX8_costOfChoice_88 rfl rfl ?_
            refine x_aload_n (pc := 89) K 4 dX8_costOfChoice_89 rfl rfl ?_
            refine x_getr (r0 := 88) (pc := 90) (index := 51) (C := RX8) (T := TX8) (N := 36) (j0 := 32) (ref := "OldMapModel") K (by decide) sh_76 rfl i_X8 (by decide) (by decide +kernel) rfl rfl rf_76_32 dX8_costOfChoice_90 ?_
            refine x_bipush (pc := 93) (v := 6) K dX8_costOfChoice_93 (by decide) ?_
            refine x_iload (pc := 95) K 2 dX8_costOfChoice_95 rfl ?_
            refine x_imul (pc := 97) K dX8_costOfChoice_97 ?_
            refine x_iload (pc := 98) K 1 dX8_costOfChoice_98 rfl ?_
            refine x_iadd (pc := 100) K dX8_costOfChoice_100 ?_
            refine y_lald (j := ((6 * k) + (ch k))) (pc := 101) K (by decide) sh_88 (nI_addE (nI_mulE rfl rfl) rfl) (by omega) (by decide) dX8_costOfChoice_101 ?_
            refine x_ladd (pc := 102) K dX8_costOfChoice_102 ?_
            refine x_lstore_n (pc := 103) (lo' := [(1, _), (3, _), (5, _), (4, _), (0, _)]) K dX8_costOfChoice_103 rfl (by decide) rfl ?_
            refine x_iinc (pc := 104) (q0 := 3) (v := nI (k + 1)) (lo' := [(4, _), (1, _), (3, _), (5, _), (0, _)]) K dX8_costOfChoice_104 rfl (nI_incE rfl) (by decide) rfl ?_
            refine x_goto (pc := 107) (tgt := 7) K dX8_costOfChoice_107 (by decide) ?_
            refine x_lo (lo' := [(4, _), (3, _), (1, _), (0, _)]) [0, 2, 1, 4] rfl ?_
            exact x_loe (by rfl) (ih (by omega) _ _ (by rw [ccS_s hi, if_neg c_35, if_neg (not_or.mpr ⟨c_64, c_74⟩)]) hor.2)
          · refine x_ldc2_w (pc := 77) (v := (-1)) K (by decide +kernel) dX8_costOfChoice_77 ?_
            exact ret (pc := 80) dX8_costOfChoice_80 (⟨ccR_n (k := k + 1) (by rw [ccS_s hi, if_neg c_35, if_pos (Or.inr c_74)]) (by omega), rfl, rfl⟩)
      · replace c_35 := cI_eq (a := (ch k)) (b := nn) rfl rfl (by omega) (by omega) c_35
        refine x_lload_n (pc := 38) K 3 dX8_costOfChoice_38 rfl rfl ?_
        refine x_aload_n (pc := 39) K 4 dX8_costOfChoice_39 rfl rfl ?_
        refine x_geti (pc := 40) (index := 33) (C := RX8) (T := TX8) (N := 36) (j0 := 9) (ref := "OldMapModel") K (by decide) sh_76 rfl i_X8 (by decide) (by decide +kernel) rfl rfl dX8_costOfChoice_40 ?_
        refine x_i2l (pc := 43) K dX8_costOfChoice_43 ?_
        refine x_ladd (pc := 44) K dX8_costOfChoice_44 ?_
        refine x_lstore_n (pc := 45) (lo' := [(1, _), (5, _), (4, _), (3, _), (0, _)]) K dX8_costOfChoice_45 rfl (by decide) rfl ?_
        refine x_goto (pc := 46) (tgt := 104) K dX8_costOfChoice_46 (by decide) ?_
        refine x_iinc (pc := 104) (q0 := 2) (v := nI (k + 1)) (lo' := [(4, _), (1, _), (5, _), (3, _), (0, _)]) K dX8_costOfChoice_104 rfl (nI_incE rfl) (by decide) rfl ?_
        refine x_goto (pc := 107) (tgt := 7) K dX8_costOfChoice_107 (by decide) ?_
        refine x_lo (lo' := [(4, _), (3, _), (1, _), (0, _)]) [0, 3, 1, 4] rfl ?_
        exact x_loe (by rfl) (ih (by omega) _ _ (by rw [ccS_s hi, if_pos c_35]) hu)
  refine x_lconst (pc := 0) (v := 0) K dX8_costOfChoice_0 (by decide) ?_
  refine x_lstore_n (pc := 1) (lo' := [(1, _), (0, _)]) K dX8_costOfChoice_1 rfl (by decide) rfl ?_
  refine x_iconst (pc := 2) (v := 0) K dX8_costOfChoice_2 (by decide) ?_
  refine x_istore_n (pc := 3) (lo' := [(3, _), (1, _), (0, _)]) K dX8_costOfChoice_3 rfl (by decide) rfl ?_
  refine x_iconst (pc := 4) (v := 0) K dX8_costOfChoice_4 (by decide) ?_
  refine x_istore (pc := 5) (lo' := [(4, _), (3, _), (1, _), (0, _)]) K dX8_costOfChoice_5 (by decide) rfl ?_
  refine x_lo (lo' := [(4, _), (3, _), (1, _), (0, _)]) [0, 1, 2, 3] rfl ?_
  exact x_loe (by rfl) (loop 0 (Nat.zero_le _) 0 0 rfl (by decide))

