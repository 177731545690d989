/-! the reference: the search for THE MATCH -/
def costH (I : hI) (J2 : hJ) (no nn v : Nat) : Int64 := ccR (fun i k => J2 88 (6 * i + k)) (dg (nn + 1) no v) nn (I 76 9).toInt64 no
abbrev fmA (I I1 : hI) : Prop := ∀ c, c ≠ 89 → c ≠ 90 → I1 c = I c
abbrev fmB (J2 J1 : hJ) (bc : Int64) : Prop := (∀ c, c ≠ 76 → J1 c = J2 c) ∧ J1 76 35 = bc
abbrev fmC (I1 : hI) (nn no v : Nat) : Prop := ∀ i, i < no → I1 89 i = nI (dg (nn + 1) no v i)
abbrev fmD (I1 : hI) (nn no : Nat) (b : Int64 × Nat) : Prop := 0 ≤ b.1 → ∀ i, i < no → I1 90 i = nI (dg (nn + 1) no b.2 i)
def cpB (I : hI) : hI := h_up (h_up (h_up (h_up (h_up (h_up I 90 0 (I 89 0)) 90 1 (I 89 1)) 90 2 (I 89 2)) 90 3 (I 89 3)) 90 4 (I 89 4)) 90 5 (I 89 5)
def zeC (I : hI) : hI := h_up (h_up (h_up (h_up (h_up (h_up I 89 0 0) 89 1 0) 89 2 0) 89 3 0) 89 4 0) 89 5 0
theorem cpB_ne {I : hI} {c : Nat} (h : c ≠ 90) : cpB I c = I c := by unfold cpB; rw [h_up_ne h, h_up_ne h, h_up_ne h, h_up_ne h, h_up_ne h, h_up_ne h]
theorem cpB_in {I : hI} {i : Nat} (h : i < 6) : cpB I 90 i = I 89 i := by
  rcases (show i = 0 ∨ i = 1 ∨ i = 2 ∨ i = 3 ∨ i = 4 ∨ i = 5 by omega) with rfl | rfl | rfl | rfl | rfl | rfl <;> simp [cpB, h_up]
theorem zeC_ne {I : hI} {c : Nat} (h : c ≠ 89) : zeC I c = I c := by unfold zeC; rw [h_up_ne h, h_up_ne h, h_up_ne h, h_up_ne h, h_up_ne h, h_up_ne h]
theorem zeC_in {I : hI} {i : Nat} (h : i < 6) : zeC I 89 i = 0 := by
  rcases (show i = 0 ∨ i = 1 ∨ i = 2 ∨ i = 3 ∨ i = 4 ∨ i = 5 by omega) with rfl | rfl | rfl | rfl | rfl | rfl <;> simp [zeC, h_up]
def rxW (I : hI) (n kd : Nat) (b : Int32) (i : Nat) : Int64 := flM (2 * (MW I n kd b 16 * (I 82 (3 * i + 1)).toInt64 + MW I n kd b 17 * (I 82 (3 * i + 2)).toInt64 + MW I n kd b 18) + MW I n kd b 19) (2 * MW I n kd b 19)
def ryW (I : hI) (n kd : Nat) (b : Int32) (i : Nat) : Int64 := flM (2 * (MW I n kd b 20 * (I 82 (3 * i + 1)).toInt64 + MW I n kd b 21 * (I 82 (3 * i + 2)).toInt64 + MW I n kd b 22) + MW I n kd b 23) (2 * MW I n kd b 23)
def csW (I : hI) (n kd : Nat) (b : Int32) (i k : Nat) : Int64 := if I 82 (3 * i) = I 82 (18 + 3 * k) then ng64 (rxW I n kd b i - (I 82 (18 + 3 * k + 1)).toInt64) + ng64 (ryW I n kd b i - (I 82 (18 + 3 * k + 2)).toInt64) else -1
theorem fitM_cs {I : hI} {J : hJ} {n kd i k : Nat} {b : Int32} (h : FitM I J n kd b) : csM I J i k = csW I n kd b i k := by
  unfold csM csW rxM rxW ryM ryW
  rw [h.1 16 (by decide) (by decide), h.1 17 (by decide) (by decide), h.1 18 (by decide) (by decide), h.1 19 (by decide) (by decide), h.1 20 (by decide) (by decide), h.1 21 (by decide) (by decide), h.1 22 (by decide) (by decide), h.1 23 (by decide) (by decide)]
theorem ccS_c {C C' : Nat → Nat → Int64} {ch : Nat → Nat} {nn no : Nat} {lost : Int64} (hc : ∀ i, i < no → ∀ k, k < nn → C i k = C' i k) (hl : ∀ i, i < no → ch i ≤ nn) : ∀ k, k ≤ no → ccS C ch nn lost k = ccS C' ch nn lost k
  | 0, _ => rfl
  | k + 1, hk => by
    have ih := ccS_c (lost := lost) hc hl k (by omega)
    simp only [ccS, ih]
    cases ccS C' ch nn lost k with
    | none => rfl
    | some q =>
      by_cases e : ch k = nn
      · simp only [e, if_true]
      · have h1 := hl k (by omega)
        rw [hc k (by omega) (ch k) (by omega)]
def costW (I : hI) (n kd : Nat) (b : Int32) (no nn v : Nat) : Int64 := ccR (csW I n kd b) (dg (nn + 1) no v) nn (I 76 9).toInt64 no
theorem costH_W {I : hI} {J J2 : hJ} {n kd no nn : Nat} {b : Int32} (hF : FitM I J n kd b) (hc : ∀ i, i < no → ∀ k, k < nn → J2 88 (6 * i + k) = csM I J i k) (v : Nat) : costH I J2 no nn v = costW I n kd b no nn v := by
  unfold costH costW ccR
  rw [ccS_c (fun i hi k hk => (hc i hi k hk).trans (fitM_cs hF)) (fun i _ => Nat.le_of_lt_succ (dg_lt (by omega))) no (Nat.le_refl no)]
theorem bf_n {cost : Nat → Int64} {v : Nat} (h : ¬ (0 ≤ cost v ∧ ((bfold cost v).1 < 0 ∨ cost v < (bfold cost v).1))) : bfold cost (v + 1) = bfold cost v := if_neg h
theorem bf_y {cost : Nat → Int64} {v : Nat} (h : 0 ≤ cost v ∧ ((bfold cost v).1 < 0 ∨ cost v < (bfold cost v).1)) : bfold cost (v + 1) = (cost v, v) := if_pos h
theorem bf_c {f g : Nat → Int64} (h : ∀ v, f v = g v) : ∀ v, bfold f v = bfold g v
  | 0 => rfl
  | v + 1 => by simp only [bfold, bf_c h v, h v]
/-- the carry: the places from a on were full and are 0 now -/
abbrev fmE (I2 I3 : hI) (nn no v a : Nat) : Prop := (∀ c, c ≠ 89 → I3 c = I2 c) ∧ (∀ i, i < a → i < no → I3 89 i = nI (dg (nn + 1) no v i)) ∧ ∀ i, a ≤ i → i < no → I3 89 i = nI 0 ∧ dg (nn + 1) no v i = nn
theorem fmE_s {I2 I3 : hI} {nn no v e : Nat} (h : fmE I2 I3 nn no v (e + 1)) (hd : dg (nn + 1) no v e = nn) : fmE I2 (h_up I3 89 e 0) nn no v e := by
  refine ⟨fun c hc => by rw [h_up_ne hc, h.1 c hc], fun i h1 h2 => ?_, fun i h1 h2 => ?_⟩
  · have q : ¬ i = e := by omega
    simp only [h_up, q, and_false, if_false]; exact h.2.1 i (by omega) h2
  · by_cases q : i = e
    · subst q; exact ⟨by simp [h_up, nI_0], hd⟩
    · have q2 : h_up I3 89 e 0 89 i = I3 89 i := by simp [h_up, q]
      rw [q2]; exact h.2.2 i (by omega) h2
theorem fmE_f {I2 I3 : hI} {nn no v e : Nat} (h : fmE I2 I3 nn no v (e + 1)) (he : e < no) (hd : dg (nn + 1) no v e ≠ nn) : fmC (h_up I3 89 e (nI (dg (nn + 1) no v e) + 1)) nn no (v + 1) := by
  intro i hi
  rw [dg_succ (by omega) he (fun i h1 h2 => (h.2.2 i h1 h2).2) hd i hi]
  by_cases h1 : i < e
  · have q : ¬ i = e := by omega
    rw [if_pos h1]
    simp only [h_up, q, and_false, if_false]; exact h.2.1 i (by omega) hi
  · rw [if_neg h1]
    by_cases h2 : i = e
    · subst h2; rw [if_pos rfl, ← nI_1]; simp [h_up]
    · rw [if_neg h2]
      have q2 : ∀ z, h_up I3 89 e z 89 i = I3 89 i := by intro z; simp [h_up, h2]
      rw [q2]; exact (h.2.2 i (by omega) hi).1
theorem finM {I2 I3 : hI} {J2 J3 : hJ} {f g : Nat → Int64} {nn no v V : Nat} (h : ∀ v, f v = g v) (hV : v + 1 = V) (hB : fmB J3 J2 (bfold f (v + 1)).1) (hD : fmD I2 nn no (bfold f (v + 1))) (hE : fmE I2 I3 nn no v 0) : J2 76 35 = (bfold g V).1 ∧ (0 ≤ (bfold g V).1 → ∀ i, i < no → I3 90 i = nI (dg (nn + 1) no (bfold g V).2 i)) := by
  subst hV
  rw [← bf_c h (v + 1)]
  exact ⟨hB.2, fun h0 i hi => by rw [hE.1 90 (by decide)]; exact hD h0 i hi⟩
set_option maxHeartbeats 1000000 in
set_option maxRecDepth 100000 in
theorem c_X8_findMatch (l : Launch) (G : hQ) (I : hI) (J : hJ) (kd : Nat) (hk : kd < 3) (n : Nat) (hn : I 76 0 = nI n) (h12 : n ≤ 12) (no : Nat) (ho : I 81 0 = nI no) (h60 : no ≤ 6) (nn : Nat) (hnn : I 81 1 = nI nn) (h6 : nn ≤ 6) (hz : okM I n kd (cM I n) → ¬ 2 * MW I n kd (cM I n) 19 = 0 ∧ ¬ 2 * MW I n kd (cM I n) 23 = 0) : h_Mi l yX8_findMatch wsX8_findMatch 4 100 G [rr G 76, .int (nI kd)] I J (fun ρ I' J' => bz (okM I n kd (cM I n)) = ρ ∧ (∀ c, c ≠ 89 → c ≠ 90 → I' c = I c) ∧ (∀ c, c ≠ 76 → c ≠ 88 → J' c = J c) ∧ (okM I n kd (cM I n) → J' 76 35 = (bfold (costW I n kd (cM I n) no nn) ((nn + 1) ^ no)).1 ∧ (0 ≤ (bfold (costW I n kd (cM I n) no nn) ((nn + 1) ^ no)).1 → ∀ i, i < no → I' 90 i = nI (dg (nn + 1) no (bfold (costW I n kd (cM I n) no nn) ((nn + 1) ^ no)).2 i)))) := by
  refine h_Mi.of (ty := .boolean) (cc := cX8_findMatch) (maxL := 6) [(0, rr G 76), (1, .int (nI kd))] (by decide +kernel) rfl (Nat.le_of_ble_eq_true rfl) rfl ?_
  intro Γ K ret
  have i_X8 : ∀ w ∈ u_ws RX8 TX8 36, w ∈ wsX8_findMatch := by decide +kernel
  refine x_aload_n (pc := 0) K 0 dX8_findMatch_0 rfl rfl ?_
  refine x_iload_n (pc := 1) K 1 dX8_findMatch_1 rfl rfl ?_
  refine x_aload_n (pc := 2) K 0 dX8_findMatch_2 rfl rfl ?_
  refine x_calliV (pc := 3) (st := [_, _]) (n := 0) K (by decide) sh_76 rfl (c_X8_counting l G _ _ n hn h12) gX8_findMatch_X8_counting (by decide +kernel) rfl (by decide) (by decide) rfl rfl (Nat.le_of_ble_eq_true rfl) dX8_findMatch_3 (fun r_3 I_3 J_3 hp_3 => ?_)
  obtain ⟨rfl, rfl, rfl⟩ := hp_3
  refine x_calliV (pc := 6) (st := []) (n := 2) K (by decide) sh_76 rfl (c_X8_fit l G _ _ kd _ (by omega) n hn h12) gX8_findMatch_X8_fit (by decide +kernel) rfl (by decide) (by decide) rfl rfl (Nat.le_of_ble_eq_true rfl) dX8_findMatch_6 (fun r_6 I_6 J_6 hp_6 => ?_)
  obtain ⟨rfl, rfl, hJ_6, hW_6⟩ := hp_6
  refine x_if_ne (pc := 9) (tgt := 14) K dX8_findMatch_9 (by decide) (fun c_9 => ?_) (fun c_9 => ?_)
  · replace c_9 := bz_n0.mp c_9
    refine x_aload_n (pc := 14) K 0 dX8_findMatch_14 rfl rfl ?_
    refine x_callvV (pc := 15) (st := []) (n := 0) K (by decide) sh_76 rfl (c_X8_findCosts l G _ _ no ho h60 nn hnn h6 (by rw [hW_6.1 19 (by decide) (by decide)]; exact (hz c_9).1) (by rw [hW_6.1 23 (by decide) (by decide)]; exact (hz c_9).2)) gX8_findMatch_X8_findCosts (by decide +kernel) rfl (by decide) (by decide) rfl rfl (Nat.le_of_ble_eq_true rfl) dX8_findMatch_15 (fun I_15 J_15 hp_15 => ?_)
    obtain ⟨rfl, hK1, hK2⟩ := hp_15
    have hB0 : 0 < nn + 1 := by omega
    have hV : 0 < (nn + 1) ^ no := Nat.pow_pos hB0
    have main : ∀ v, v ≤ (nn + 1) ^ no - 1 → ∀ (I1 : hI) (J1 : hJ), fmA I I1 → fmB J_15 J1 (bfold (costH I J_15 no nn) v).1 → fmC I1 nn no v → fmD I1 nn no (bfold (costH I J_15 no nn) v) → h_WW Γ G 48 [(2, .int 1), (0, rr G 76), (1, .int (nI kd))] [] I1 J1 := by
      refine loopU ((nn + 1) ^ no - 1) (fun v hv ihM => ?_)
      intro I1 J1 hA hB hC hD
      have hdl : ∀ i, dg (nn + 1) no v i < nn + 1 := fun i => dg_lt hB0
      have cont : ∀ (I2 : hI) (J2 : hJ), fmA I I2 → fmB J_15 J2 (bfold (costH I J_15 no nn) (v + 1)).1 → fmC I2 nn no v → fmD I2 nn no (bfold (costH I J_15 no nn) (v + 1)) → h_WW Γ G 116 [(0, rr G 76), (1, .int (nI kd))] [] I2 J2 := by
        intro I2 J2 hA2 hB2 hC2 hD2
        have carry : ∀ a, a ≤ no → ∀ I3 : hI, fmE I2 I3 nn no v a → h_WW Γ G 126 [(5, .int (nI a - 1)), (0, rr G 76), (1, .int (nI kd))] [] I3 J2 := by
          intro a
          induction a with
          | zero =>
            intro ha I3 hE
            refine x_iload (pc := 126) K 0 dX8_findMatch_126 rfl ?_
            refine x_if_lt (pc := 128) (tgt := 161) K dX8_findMatch_128 (by decide) (fun c_128 => ?_) (fun c_128 => ?_)
            · refine x_iload (pc := 161) K 0 dX8_findMatch_161 rfl ?_
              refine x_if_lt (pc := 163) (tgt := 170) K dX8_findMatch_163 (by decide) (fun c_163 => ?_) (fun c_163 => ?_)
              · refine x_iconst (pc := 170) (v := 0) K dX8_findMatch_170 (by decide) ?_
                refine x_istore_n (pc := 171) (lo' := [(2, _), (5, _), (0, _), (1, _)]) K dX8_findMatch_171 rfl (by decide) rfl ?_
                refine x_iload_n (pc := 172) K 0 dX8_findMatch_172 rfl rfl ?_
                refine x_if_eq (pc := 173) (tgt := 187) K dX8_findMatch_173 (by decide) (fun c_173 => ?_) (fun c_173 => ?_)
                · replace c_173 := cI_eq (a := 0) (b := 0) rfl rfl (by omega) (by omega) c_173
                  refine x_goto (pc := 187) (tgt := 48) K dX8_findMatch_187 (by decide) ?_
                  refine x_iload_n (pc := 48) K 0 dX8_findMatch_48 rfl rfl ?_
                  refine x_if_eq (pc := 49) (tgt := 190) K dX8_findMatch_49 (by decide) (fun c_49 => ?_) (fun c_49 => ?_)
                  · replace c_49 := cI_eq (a := 0) (b := 0) rfl rfl (by omega) (by omega) c_49
                    refine x_iconst (pc := 190) (v := 1) K dX8_findMatch_190 (by decide) ?_
                    exact ret (pc := 191) dX8_findMatch_191 (⟨bz_1.mpr c_9, fun c h1 h2 => (hE.1 c h1).trans (hA2 c h1 h2), fun c h1 h2 => (hB2.1 c h1).trans ((hK1 c h2).trans (hJ_6 c h1)), fun _ => finM (fun v => costH_W hW_6 hK2 v) (dg_all hB0 (by omega) (fun i hi => (hE.2.2 i (Nat.zero_le i) hi).2)) hB2 hD2 hE⟩) rfl
                  · replace c_49 := cI_ne (a := 0) (b := 0) rfl rfl (by omega) (by omega) c_49
                    omega
                · replace c_173 := cI_ne (a := 0) (b := 0) rfl rfl (by omega) (by omega) c_173
                  omega
              · exact absurd (show (nI 0 - 1 : Int32) < 0 by decide) c_163
            · exact absurd (show (nI 0 - 1 : Int32) < 0 by decide) c_128
          | succ e ihC =>
            intro ha I3 hE
            refine x_loe (lo' := [(5, .int (nI e)), (0, rr G 76), (1, .int (nI kd))]) (by rw [nI_pred]) ?_
            have hde := hdl e
            refine x_iload (pc := 126) K 0 dX8_findMatch_126 rfl ?_
            refine x_if_lt (pc := 128) (tgt := 161) K dX8_findMatch_128 (by decide) (fun c_128 => ?_) (fun c_128 => ?_)
            · replace c_128 := cI_lt (a := e) (b := 0) rfl rfl (by omega) (by omega) c_128
              exfalso; omega
            · replace c_128 := cI_nlt (a := e) (b := 0) rfl rfl (by omega) (by omega) c_128
              refine x_aload_n (pc := 131) K 1 dX8_findMatch_131 rfl rfl ?_
              refine x_getr (r0 := 89) (pc := 132) (index := 55) (C := RX8) (T := TX8) (N := 36) (j0 := 33) (ref := "OldMapModel") K (by decide) sh_76 rfl i_X8 (by decide) (by decide +kernel) rfl rfl rf_76_33 dX8_findMatch_132 ?_
              refine x_iload (pc := 135) K 0 dX8_findMatch_135 rfl ?_
              refine y_iald (j := e) (pc := 137) K (by decide) sh_89 rfl (by omega) (by decide) dX8_findMatch_137 ?_
              refine x_topie (nI (dg (nn + 1) no v e)) (hE.2.1 e (by omega) (by omega)) ?_
              refine x_aload_n (pc := 138) K 1 dX8_findMatch_138 rfl rfl ?_
              refine x_getr (r0 := 81) (pc := 139) (index := 23) (C := RX8) (T := TX8) (N := 36) (j0 := 6) (ref := "OldMapModel") K (by decide) sh_76 rfl i_X8 (by decide) (by decide +kernel) rfl rfl rf_76_6 dX8_findMatch_139 ?_
              refine x_iconst (pc := 142) (v := 1) K dX8_findMatch_142 (by decide) ?_
              refine y_iald (j := 1) (pc := 143) K (by decide) sh_81 rfl (by omega) (by decide) dX8_findMatch_143 ?_
              refine x_topie (nI nn) ((congrFun ((fun c h1 h2 => (hE.1 c h1).trans (hA2 c h1 h2)) 81 (by decide) (by decide)) 1).trans hnn) ?_
              refine x_icmp_ne (pc := 144) (tgt := 161) K dX8_findMatch_144 (by decide) (fun c_144 => ?_) (fun c_144 => ?_)
              · replace c_144 := cI_ne (a := (dg (nn + 1) no v e)) (b := nn) rfl rfl (by omega) (by omega) c_144
                have hless := dg_less hB0 (show e < no by omega) (show v < (nn + 1) ^ no by omega) (fun i h1 h2 => (hE.2.2 i h1 h2).2) c_144
                refine x_iload (pc := 161) K 0 dX8_findMatch_161 rfl ?_
                refine x_if_lt (pc := 163) (tgt := 170) K dX8_findMatch_163 (by decide) (fun c_163 => ?_) (fun c_163 => ?_)
                · replace c_163 := cI_lt (a := e) (b := 0) rfl rfl (by omega) (by omega) c_163
                  exfalso; omega
                · replace c_163 := cI_nlt (a := e) (b := 0) rfl rfl (by omega) (by omega) c_163
                  refine x_iconst (pc := 166) (v := 1) K dX8_findMatch_166 (by decide) ?_
                  refine x_goto (pc := 167) (tgt := 171) K dX8_findMatch_167 (by decide) ?_
                  refine x_istore_n (pc := 171) (lo' := [(2, _), (5, _), (0, _), (1, _)]) K dX8_findMatch_171 rfl (by decide) rfl ?_
                  refine x_iload_n (pc := 172) K 0 dX8_findMatch_172 rfl rfl ?_
                  refine x_if_eq (pc := 173) (tgt := 187) K dX8_findMatch_173 (by decide) (fun c_173 => ?_) (fun c_173 => ?_)
                  · replace c_173 := cI_eq (a := 1) (b := 0) rfl rfl (by omega) (by omega) c_173
                    omega
                  · replace c_173 := cI_ne (a := 1) (b := 0) rfl rfl (by omega) (by omega) c_173
                    refine x_aload_n (pc := 176) K 2 dX8_findMatch_176 rfl rfl ?_
                    refine x_getr (r0 := 89) (pc := 177) (index := 55) (C := RX8) (T := TX8) (N := 36) (j0 := 33) (ref := "OldMapModel") K (by decide) sh_76 rfl i_X8 (by decide) (by decide +kernel) rfl rfl rf_76_33 dX8_findMatch_177 ?_
                    refine x_iload (pc := 180) K 1 dX8_findMatch_180 rfl ?_
                    refine x_dup2 (pc := 182) K dX8_findMatch_182 rfl rfl ?_
                    refine y_iald (j := e) (pc := 183) K (by decide) sh_89 rfl (by omega) (by decide) dX8_findMatch_183 ?_
                    refine x_topie (nI (dg (nn + 1) no v e)) (hE.2.1 e (by omega) (by omega)) ?_
                    refine x_iconst (pc := 184) (v := 1) K dX8_findMatch_184 (by decide) ?_
                    refine x_iadd (pc := 185) K dX8_findMatch_185 ?_
                    refine y_iast (j := e) (pc := 186) K (by decide) sh_89 rfl (by omega) (by decide) dX8_findMatch_186 ?_
                    refine x_goto (pc := 187) (tgt := 48) K dX8_findMatch_187 (by decide) ?_
                    refine x_lo (lo' := [(2, _), (0, _), (1, _)]) [0, 2, 3] rfl ?_
                    exact ihM (by omega) _ _ (fun c h1 h2 => by rw [h_up_ne h1]; exact (hE.1 c h1).trans (hA2 c h1 h2)) hB2 (fmE_f hE (by omega) c_144) (fun h0 i hi => by rw [h_up_ne (by decide), hE.1 90 (by decide)]; exact hD2 h0 i hi)
              · replace c_144 := cI_eq (a := (dg (nn + 1) no v e)) (b := nn) rfl rfl (by omega) (by omega) c_144
                refine x_aload_n (pc := 147) K 1 dX8_findMatch_147 rfl rfl ?_
                refine x_getr (r0 := 89) (pc := 148) (index := 55) (C := RX8) (T := TX8) (N := 36) (j0 := 33) (ref := "OldMapModel") K (by decide) sh_76 rfl i_X8 (by decide) (by decide +kernel) rfl rfl rf_76_33 dX8_findMatch_148 ?_
                refine x_iload (pc := 151) K 0 dX8_findMatch_151 rfl ?_
                refine x_iconst (pc := 153) (v := 0) K dX8_findMatch_153 (by decide) ?_
                refine y_iast (j := e) (pc := 154) K (by decide) sh_89 rfl (by omega) (by decide) dX8_findMatch_154 ?_
                refine x_iinc (pc := 155) (q0 := 0) (lo' := [(5, _), (0, _), (1, _)]) K dX8_findMatch_155 rfl rfl (by decide) rfl ?_
                refine x_goto (pc := 158) (tgt := 126) K dX8_findMatch_158 (by decide) ?_
                refine x_lo (lo' := [(5, _), (0, _), (1, _)]) [0, 1, 2] rfl ?_
                exact x_loe (by rw [dec_e]) (ihC (by omega) _ (fmE_s hE c_144))
        refine x_aload_n (pc := 116) K 0 dX8_findMatch_116 rfl rfl ?_
        refine x_getr (r0 := 81) (pc := 117) (index := 23) (C := RX8) (T := TX8) (N := 36) (j0 := 6) (ref := "OldMapModel") K (by decide) sh_76 rfl i_X8 (by decide) (by decide +kernel) rfl rfl rf_76_6 dX8_findMatch_117 ?_
        refine x_iconst (pc := 120) (v := 0) K dX8_findMatch_120 (by decide) ?_
        refine y_iald (j := 0) (pc := 121) K (by decide) sh_81 rfl (by omega) (by decide) dX8_findMatch_121 ?_
        refine x_topie (nI no) ((congrFun (hA2 81 (by decide) (by decide)) 0).trans ho) ?_
        refine x_iconst (pc := 122) (v := 1) K dX8_findMatch_122 (by decide) ?_
        refine x_isub (pc := 123) K dX8_findMatch_123 ?_
        refine x_istore (pc := 124) (lo' := [(5, _), (0, _), (1, _)]) K dX8_findMatch_124 (by decide) rfl ?_
        refine x_lo (lo' := [(5, _), (0, _), (1, _)]) [0, 1, 2] rfl ?_
        exact carry no (Nat.le_refl _) I2 ⟨fun _ _ => rfl, fun i h1 _ => hC2 i h1, fun i h1 h2 => absurd h1 (by omega)⟩
      refine x_iload_n (pc := 48) K 0 dX8_findMatch_48 rfl rfl ?_
      refine x_if_eq (pc := 49) (tgt := 190) K dX8_findMatch_49 (by decide) (fun c_49 => ?_) (fun c_49 => ?_)
      · replace c_49 := cI_eq (a := 1) (b := 0) rfl rfl (by omega) (by omega) c_49
        omega
      · replace c_49 := cI_ne (a := 1) (b := 0) rfl rfl (by omega) (by omega) c_49
        refine x_aload_n (pc := 52) K 1 dX8_findMatch_52 rfl rfl ?_
        refine x_calllV (pc := 53) (st := []) (n := 0) K (by decide) sh_76 rfl (c_X8_costOfChoice l G _ _ no ((congrFun (hA 81 (by decide) (by decide)) 0).trans ho) h60 nn ((congrFun (hA 81 (by decide) (by decide)) 1).trans hnn) h6 (dg (nn + 1) no v) hC (fun i _ => Nat.le_of_lt_succ (hdl i))) gX8_findMatch_X8_costOfChoice (by decide +kernel) rfl (by decide) (by decide) rfl rfl (Nat.le_of_ble_eq_true rfl) dX8_findMatch_53 (fun r_53 I_53 J_53 hp_53 => ?_)
        obtain ⟨rfl, rfl, rfl⟩ := hp_53
        refine x_tople (costH I J_15 no nn v) (by rw [hB.1 88 (by decide), hA 76 (by decide) (by decide)]; rfl) ?_
        refine x_lstore_n (pc := 56) (lo' := [(3, _), (2, _), (0, _), (1, _)]) K dX8_findMatch_56 rfl (by decide) rfl ?_
        refine x_lload_n (pc := 57) K 0 dX8_findMatch_57 rfl rfl ?_
        refine x_lconst (pc := 58) (v := 0) K dX8_findMatch_58 (by decide) ?_
        refine x_lcmp (pc := 59) K dX8_findMatch_59 ?_
        refine x_if_lt (pc := 60) (tgt := 116) K dX8_findMatch_60 (by decide) (fun c_60 => ?_) (fun c_60 => ?_)
        · replace c_60 := (lg_cmp_lt _ _).mp c_60
          refine x_lo (lo' := [(0, _), (1, _)]) [2, 3] rfl ?_
          have hbf : bfold (costH I J_15 no nn) (v + 1) = bfold (costH I J_15 no nn) v := bf_n (fun h => absurd h.1 (Int64.not_le.mpr c_60))
          exact cont _ _ hA (by rw [hbf]; exact hB) hC (by rw [hbf]; exact hD)
        · replace c_60 := mt (lg_cmp_lt _ _).mpr c_60
          refine x_aload_n (pc := 63) K 2 dX8_findMatch_63 rfl rfl ?_
          refine x_getl (pc := 64) (index := 232) (C := RX8) (T := TX8) (N := 36) (j0 := 35) (ref := "OldMapModel") K (by decide) sh_76 rfl i_X8 (by decide) (by decide +kernel) rfl rfl dX8_findMatch_64 ?_
          refine x_tople ((bfold (costH I J_15 no nn) v).1) (hB.2) ?_
          refine x_lconst (pc := 67) (v := 0) K dX8_findMatch_67 (by decide) ?_
          refine x_lcmp (pc := 68) K dX8_findMatch_68 ?_
          refine x_if_lt (pc := 69) (tgt := 81) K dX8_findMatch_69 (by decide) (fun c_69 => ?_) (fun c_69 => ?_)
          · replace c_69 := (lg_cmp_lt _ _).mp c_69
            refine x_aload_n (pc := 81) K 2 dX8_findMatch_81 rfl rfl ?_
            refine x_lload_n (pc := 82) K 0 dX8_findMatch_82 rfl rfl ?_
            refine x_putl (ty := .long) (pc := 83) (index := 232) (C := RX8) (T := TX8) (N := 36) (j0 := 35) (ref := "OldMapModel") K (by decide) sh_76 rfl i_X8 (by decide) (by decide +kernel) rfl tyX8 tyX8_ok nmX8 rfl (by decide +kernel) rfl rfl rfl dX8_findMatch_83 ?_
            refine x_iconst (pc := 86) (v := 0) K dX8_findMatch_86 (by decide) ?_
            refine x_istore (pc := 87) (lo' := [(5, _), (3, _), (2, _), (0, _), (1, _)]) K dX8_findMatch_87 (by decide) rfl ?_
            refine x_iload (pc := 89) K 0 dX8_findMatch_89 rfl ?_
            refine x_bipush (pc := 91) (v := 6) K dX8_findMatch_91 (by decide) ?_
            refine x_icmp_ge (pc := 93) (tgt := 116) K dX8_findMatch_93 (by decide) (fun c_93 => ?_) (fun c_93 => ?_)
            · replace c_93 := cI_le (a := 6) (b := 0) rfl rfl (by omega) (by omega) c_93
              omega
            · replace c_93 := cI_nle (a := 6) (b := 0) rfl rfl (by omega) (by omega) c_93
              refine x_aload_n (pc := 96) K 3 dX8_findMatch_96 rfl rfl ?_
              refine x_getr (r0 := 90) (pc := 97) (index := 58) (C := RX8) (T := TX8) (N := 36) (j0 := 34) (ref := "OldMapModel") K (by decide) sh_76 rfl i_X8 (by decide) (by decide +kernel) rfl rfl rf_76_34 dX8_findMatch_97 ?_
              refine x_iload (pc := 100) K 0 dX8_findMatch_100 rfl ?_
              refine x_aload_n (pc := 102) K 3 dX8_findMatch_102 rfl rfl ?_
              refine x_getr (r0 := 89) (pc := 103) (index := 55) (C := RX8) (T := TX8) (N := 36) (j0 := 33) (ref := "OldMapModel") K (by decide) sh_76 rfl i_X8 (by decide) (by decide +kernel) rfl rfl rf_76_33 dX8_findMatch_103 ?_
              refine x_iload (pc := 106) K 0 dX8_findMatch_106 rfl ?_
              refine y_iald (j := 0) (pc := 108) K (by decide) sh_89 rfl (by omega) (by decide) dX8_findMatch_108 ?_
              refine x_topie (I1 89 0) (by simp [h_up]) ?_
              refine y_iast (j := 0) (pc := 109) K (by decide) sh_90 rfl (by omega) (by decide) dX8_findMatch_109 ?_
              refine x_iinc (pc := 110) (q0 := 0) (v := nI (0 + 1)) (lo' := [(5, _), (3, _), (2, _), (0, _), (1, _)]) K dX8_findMatch_110 rfl (nI_incE rfl) (by decide) rfl ?_
              refine x_goto (pc := 113) (tgt := 89) K dX8_findMatch_113 (by decide) ?_
              refine x_iload (pc := 89) K 0 dX8_findMatch_89 rfl ?_
              refine x_bipush (pc := 91) (v := 6) K dX8_findMatch_91 (by decide) ?_
              refine x_icmp_ge (pc := 93) (tgt := 116) K dX8_findMatch_93 (by decide) (fun c_93_1 => ?_) (fun c_93_1 => ?_)
              · replace c_93_1 := cI_le (a := 6) (b := (0 + 1)) rfl rfl (by omega) (by omega) c_93_1
                omega
              · replace c_93_1 := cI_nle (a := 6) (b := (0 + 1)) rfl rfl (by omega) (by omega) c_93_1
                refine x_aload_n (pc := 96) K 3 dX8_findMatch_96 rfl rfl ?_
                refine x_getr (r0 := 90) (pc := 97) (index := 58) (C := RX8) (T := TX8) (N := 36) (j0 := 34) (ref := "OldMapModel") K (by decide) sh_76 rfl i_X8 (by decide) (by decide +kernel) rfl rfl rf_76_34 dX8_findMatch_97 ?_
                refine x_iload (pc := 100) K 0 dX8_findMatch_100 rfl ?_
                refine x_aload_n (pc := 102) K 3 dX8_findMatch_102 rfl rfl ?_
                refine x_getr (r0 := 89) (pc := 103) (index := 55) (C := RX8) (T := TX8) (N := 36) (j0 := 33) (ref := "OldMapModel") K (by decide) sh_76 rfl i_X8 (by decide) (by decide +kernel) rfl rfl rf_76_33 dX8_findMatch_103 ?_
                refine x_iload (pc := 106) K 0 dX8_findMatch_106 rfl ?_
                refine y_iald (j := (0 + 1)) (pc := 108) K (by decide) sh_89 rfl (by omega) (by decide) dX8_findMatch_108 ?_
                refine x_topie (I1 89 (0 + 1)) (by simp [h_up]) ?_
                refine y_iast (j := (0 + 1)) (pc := 109) K (by decide) sh_90 rfl (by omega) (by decide) dX8_findMatch_109 ?_
                refine x_iinc (pc := 110) (q0 := 0) (v := nI ((0 + 1) + 1)) (lo' := [(5, _), (3, _), (2, _), (0, _), (1, _)]) K dX8_findMatch_110 rfl (nI_incE rfl) (by decide) rfl ?_
                refine x_goto (pc := 113) (tgt := 89) K dX8_findMatch_113 (by decide) ?_
                refine x_iload (pc := 89) K 0 dX8_findMatch_89 rfl ?_
                refine x_bipush (pc := 91) (v := 6) K dX8_findMatch_91 (by decide) ?_
                refine x_icmp_ge (pc := 93) (tgt := 116) K dX8_findMatch_93 (by decide) (fun c_93_2 => ?_) (fun c_93_2 => ?_)
                · replace c_93_2 := cI_le (a := 6) (b := ((0 + 1) + 1)) rfl rfl (by omega) (by omega) c_93_2
                  omega
                · replace c_93_2 := cI_nle (a := 6) (b := ((0 + 1) + 1)) rfl rfl (by omega) (by omega) c_93_2
                  refine x_aload_n (pc := 96) K 3 dX8_findMatch_96 rfl rfl ?_
                  refine x_getr (r0 := 90) (pc := 97) (index := 58) (C := RX8) (T := TX8) (N := 36) (j0 := 34) (ref := "OldMapModel") K (by decide) sh_76 rfl i_X8 (by decide) (by decide +kernel) rfl rfl rf_76_34 dX8_findMatch_97 ?_
                  refine x_iload (pc := 100) K 0 dX8_findMatch_100 rfl ?_
                  refine x_aload_n (pc := 102) K 3 dX8_findMatch_102 rfl rfl ?_
                  refine x_getr (r0 := 89) (pc := 103) (index := 55) (C := RX8) (T := TX8) (N := 36) (j0 := 33) (ref := "OldMapModel") K (by decide) sh_76 rfl i_X8 (by decide) (by decide +kernel) rfl rfl rf_76_33 dX8_findMatch_103 ?_
                  refine x_iload (pc := 106) K 0 dX8_findMatch_106 rfl ?_
                  refine y_iald (j := ((0 + 1) + 1)) (pc := 108) K (by decide) sh_89 rfl (by omega) (by decide) dX8_findMatch_108 ?_
                  refine x_topie (I1 89 ((0 + 1) + 1)) (by simp [h_up]) ?_
                  refine y_iast (j := ((0 + 1) + 1)) (pc := 109) K (by decide) sh_90 rfl (by omega) (by decide) dX8_findMatch_109 ?_
                  refine x_iinc (pc := 110) (q0 := 0) (v := nI (((0 + 1) + 1) + 1)) (lo' := [(5, _), (3, _), (2, _), (0, _), (1, _)]) K dX8_findMatch_110 rfl (nI_incE rfl) (by decide) rfl ?_
                  refine x_goto (pc := 113) (tgt := 89) K dX8_findMatch_113 (by decide) ?_
                  refine x_iload (pc := 89) K 0 dX8_findMatch_89 rfl ?_
                  refine x_bipush (pc := 91) (v := 6) K dX8_findMatch_91 (by decide) ?_
                  refine x_icmp_ge (pc := 93) (tgt := 116) K dX8_findMatch_93 (by decide) (fun c_93_3 => ?_) (fun c_93_3 => ?_)
                  · replace c_93_3 := cI_le (a := 6) (b := (((0 + 1) + 1) + 1)) rfl rfl (by omega) (by omega) c_93_3
                    omega
                  · replace c_93_3 := cI_nle (a := 6) (b := (((0 + 1) + 1) + 1)) rfl rfl (by omega) (by omega) c_93_3
                    refine x_aload_n (pc := 96) K 3 dX8_findMatch_96 rfl rfl ?_
                    refine x_getr (r0 := 90) (pc := 97) (index := 58) (C := RX8) (T := TX8) (N := 36) (j0 := 34) (ref := "OldMapModel") K (by decide) sh_76 rfl i_X8 (by decide) (by decide +kernel) rfl rfl rf_76_34 dX8_findMatch_97 ?_
                    refine x_iload (pc := 100) K 0 dX8_findMatch_100 rfl ?_
                    refine x_aload_n (pc := 102) K 3 dX8_findMatch_102 rfl rfl ?_
                    refine x_getr (r0 := 89) (pc := 103) (index := 55) (C := RX8) (T := TX8) (N := 36) (j0 := 33) (ref := "OldMapModel") K (by decide) sh_76 rfl i_X8 (by decide) (by decide +kernel) rfl rfl rf_76_33 dX8_findMatch_103 ?_
                    refine x_iload (pc := 106) K 0 dX8_findMatch_106 rfl ?_
                    refine y_iald (j := (((0 + 1) + 1) + 1)) (pc := 108) K (by decide) sh_89 rfl (by omega) (by decide) dX8_findMatch_108 ?_
                    refine x_topie (I1 89 (((0 + 1) + 1) + 1)) (by simp [h_up]) ?_
                    refine y_iast (j := (((0 + 1) + 1) + 1)) (pc := 109) K (by decide) sh_90 rfl (by omega) (by decide) dX8_findMatch_109 ?_
                    refine x_iinc (pc := 110) (q0 := 0) (v := nI ((((0 + 1) + 1) + 1) + 1)) (lo' := [(5, _), (3, _), (2, _), (0, _), (1, _)]) K dX8_findMatch_110 rfl (nI_incE rfl) (by decide) rfl ?_
                    refine x_goto (pc := 113) (tgt := 89) K dX8_findMatch_113 (by decide) ?_
                    refine x_iload (pc := 89) K 0 dX8_findMatch_89 rfl ?_
                    refine x_bipush (pc := 91) (v := 6) K dX8_findMatch_91 (by decide) ?_
                    refine x_icmp_ge (pc := 93) (tgt := 116) K dX8_findMatch_93 (by decide) (fun c_93_4 => ?_) (fun c_93_4 => ?_)
                    · replace c_93_4 := cI_le (a := 6) (b := ((((0 + 1) + 1) + 1) + 1)) rfl rfl (by omega) (by omega) c_93_4
                      omega
                    · replace c_93_4 := cI_nle (a := 6) (b := ((((0 + 1) + 1) + 1) + 1)) rfl rfl (by omega) (by omega) c_93_4
                      refine x_aload_n (pc := 96) K 3 dX8_findMatch_96 rfl rfl ?_
                      refine x_getr (r0 := 90) (pc := 97) (index := 58) (C := RX8) (T := TX8) (N := 36) (j0 := 34) (ref := "OldMapModel") K (by decide) sh_76 rfl i_X8 (by decide) (by decide +kernel) rfl rfl rf_76_34 dX8_findMatch_97 ?_
                      refine x_iload (pc := 100) K 0 dX8_findMatch_100 rfl ?_
                      refine x_aload_n (pc := 102) K 3 dX8_findMatch_102 rfl rfl ?_
                      refine x_getr (r0 := 89) (pc := 103) (index := 55) (C := RX8) (T := TX8) (N := 36) (j0 := 33) (ref := "OldMapModel") K (by decide) sh_76 rfl i_X8 (by decide) (by decide +kernel) rfl rfl rf_76_33 dX8_findMatch_103 ?_
                      refine x_iload (pc := 106) K 0 dX8_findMatch_106 rfl ?_
                      refine y_iald (j := ((((0 + 1) + 1) + 1) + 1)) (pc := 108) K (by decide) sh_89 rfl (by omega) (by decide) dX8_findMatch_108 ?_
                      refine x_topie (I1 89 ((((0 + 1) + 1) + 1) + 1)) (by simp [h_up]) ?_
                      refine y_iast (j := ((((0 + 1) + 1) + 1) + 1)) (pc := 109) K (by decide) sh_90 rfl (by omega) (by decide) dX8_findMatch_109 ?_
                      refine x_iinc (pc := 110) (q0 := 0) (v := nI (((((0 + 1) + 1) + 1) + 1) + 1)) (lo' := [(5, _), (3, _), (2, _), (0, _), (1, _)]) K dX8_findMatch_110 rfl (nI_incE rfl) (by decide) rfl ?_
                      refine x_goto (pc := 113) (tgt := 89) K dX8_findMatch_113 (by decide) ?_
                      refine x_iload (pc := 89) K 0 dX8_findMatch_89 rfl ?_
                      refine x_bipush (pc := 91) (v := 6) K dX8_findMatch_91 (by decide) ?_
                      refine x_icmp_ge (pc := 93) (tgt := 116) K dX8_findMatch_93 (by decide) (fun c_93_5 => ?_) (fun c_93_5 => ?_)
                      · replace c_93_5 := cI_le (a := 6) (b := (((((0 + 1) + 1) + 1) + 1) + 1)) rfl rfl (by omega) (by omega) c_93_5
                        omega
                      · replace c_93_5 := cI_nle (a := 6) (b := (((((0 + 1) + 1) + 1) + 1) + 1)) rfl rfl (by omega) (by omega) c_93_5
                        refine x_aload_n (pc := 96) K 3 dX8_findMatch_96 rfl rfl ?_
                        refine x_getr (r0 := 90) (pc := 97) (index := 58) (C := RX8) (T := TX8) (N := 36) (j0 := 34) (ref := "OldMapModel") K (by decide) sh_76 rfl i_X8 (by decide) (by decide +kernel) rfl rfl rf_76_34 dX8_findMatch_97 ?_
                        refine x_iload (pc := 100) K 0 dX8_findMatch_100 rfl ?_
                        refine x_aload_n (pc := 102) K 3 dX8_findMatch_102 rfl rfl ?_
                        refine x_getr (r0 := 89) (pc := 103) (index := 55) (C := RX8) (T := TX8) (N := 36) (j0 := 33) (ref := "OldMapModel") K (by decide) sh_76 rfl i_X8 (by decide) (by decide +kernel) rfl rfl rf_76_33 dX8_findMatch_103 ?_
                        refine x_iload (pc := 106) K 0 dX8_findMatch_106 rfl ?_
                        refine y_iald (j := (((((0 + 1) + 1) + 1) + 1) + 1)) (pc := 108) K (by decide) sh_89 rfl (by omega) (by decide) dX8_findMatch_108 ?_
                        refine x_topie (I1 89 (((((0 + 1) + 1) + 1) + 1) + 1)) (by simp [h_up]) ?_
                        refine y_iast (j := (((((0 + 1) + 1) + 1) + 1) + 1)) (pc := 109) K (by decide) sh_90 rfl (by omega) (by decide) dX8_findMatch_109 ?_
                        refine x_iinc (pc := 110) (q0 := 0) (v := nI ((((((0 + 1) + 1) + 1) + 1) + 1) + 1)) (lo' := [(5, _), (3, _), (2, _), (0, _), (1, _)]) K dX8_findMatch_110 rfl (nI_incE rfl) (by decide) rfl ?_
                        refine x_goto (pc := 113) (tgt := 89) K dX8_findMatch_113 (by decide) ?_
                        refine x_iload (pc := 89) K 0 dX8_findMatch_89 rfl ?_
                        refine x_bipush (pc := 91) (v := 6) K dX8_findMatch_91 (by decide) ?_
                        refine x_icmp_ge (pc := 93) (tgt := 116) K dX8_findMatch_93 (by decide) (fun c_93_6 => ?_) (fun c_93_6 => ?_)
                        · replace c_93_6 := cI_le (a := 6) (b := ((((((0 + 1) + 1) + 1) + 1) + 1) + 1)) rfl rfl (by omega) (by omega) c_93_6
                          refine x_lo (lo' := [(0, _), (1, _)]) [3, 4] rfl ?_
                          have hbf : bfold (costH I J_15 no nn) (v + 1) = (costH I J_15 no nn v, v) := bf_y ⟨Int64.not_lt.mp c_60, Or.inl c_69⟩
                          refine x_eqI (I' := cpB I1) (J' := h_upL J1 76 35 (costH I J_15 no nn v)) rfl rfl ?_
                          exact cont _ _ (fun c h1 h2 => by rw [cpB_ne h2]; exact hA c h1 h2) (by rw [hbf]; exact ⟨fun c hc => by rw [h_upL_ne hc]; exact hB.1 c hc, by simp [h_upL]⟩) (fun i hi => by rw [cpB_ne (by decide)]; exact hC i hi) (by rw [hbf]; exact fun _ i hi => by rw [cpB_in (by omega)]; exact hC i hi)
                        · replace c_93_6 := cI_nle (a := 6) (b := ((((((0 + 1) + 1) + 1) + 1) + 1) + 1)) rfl rfl (by omega) (by omega) c_93_6
                          omega
          · replace c_69 := mt (lg_cmp_lt _ _).mpr c_69
            refine x_lload_n (pc := 72) K 0 dX8_findMatch_72 rfl rfl ?_
            refine x_aload_n (pc := 73) K 2 dX8_findMatch_73 rfl rfl ?_
            refine x_getl (pc := 74) (index := 232) (C := RX8) (T := TX8) (N := 36) (j0 := 35) (ref := "OldMapModel") K (by decide) sh_76 rfl i_X8 (by decide) (by decide +kernel) rfl rfl dX8_findMatch_74 ?_
            refine x_tople ((bfold (costH I J_15 no nn) v).1) (hB.2) ?_
            refine x_lcmp (pc := 77) K dX8_findMatch_77 ?_
            refine x_if_ge (pc := 78) (tgt := 116) K dX8_findMatch_78 (by decide) (fun c_78 => ?_) (fun c_78 => ?_)
            · replace c_78 := (lg_cmp_ge _ _).mp c_78
              refine x_lo (lo' := [(0, _), (1, _)]) [2, 3] rfl ?_
              have hbf : bfold (costH I J_15 no nn) (v + 1) = bfold (costH I J_15 no nn) v := bf_n (fun h => h.2.elim (fun q => c_69 q) (fun q => absurd q (Int64.not_lt.mpr c_78)))
              exact cont _ _ hA (by rw [hbf]; exact hB) hC (by rw [hbf]; exact hD)
            · replace c_78 := mt (lg_cmp_ge _ _).mpr c_78
              refine x_aload_n (pc := 81) K 2 dX8_findMatch_81 rfl rfl ?_
              refine x_lload_n (pc := 82) K 0 dX8_findMatch_82 rfl rfl ?_
              refine x_putl (ty := .long) (pc := 83) (index := 232) (C := RX8) (T := TX8) (N := 36) (j0 := 35) (ref := "OldMapModel") K (by decide) sh_76 rfl i_X8 (by decide) (by decide +kernel) rfl tyX8 tyX8_ok nmX8 rfl (by decide +kernel) rfl rfl rfl dX8_findMatch_83 ?_
              refine x_iconst (pc := 86) (v := 0) K dX8_findMatch_86 (by decide) ?_
              refine x_istore (pc := 87) (lo' := [(5, _), (3, _), (2, _), (0, _), (1, _)]) K dX8_findMatch_87 (by decide) rfl ?_
              refine x_iload (pc := 89) K 0 dX8_findMatch_89 rfl ?_
              refine x_bipush (pc := 91) (v := 6) K dX8_findMatch_91 (by decide) ?_
              refine x_icmp_ge (pc := 93) (tgt := 116) K dX8_findMatch_93 (by decide) (fun c_93 => ?_) (fun c_93 => ?_)
              · replace c_93 := cI_le (a := 6) (b := 0) rfl rfl (by omega) (by omega) c_93
                omega
              · replace c_93 := cI_nle (a := 6) (b := 0) rfl rfl (by omega) (by omega) c_93
                refine x_aload_n (pc := 96) K 3 dX8_findMatch_96 rfl rfl ?_
                refine x_getr (r0 := 90) (pc := 97) (index := 58) (C := RX8) (T := TX8) (N := 36) (j0 := 34) (ref := "OldMapModel") K (by decide) sh_76 rfl i_X8 (by decide) (by decide +kernel) rfl rfl rf_76_34 dX8_findMatch_97 ?_
                refine x_iload (pc := 100) K 0 dX8_findMatch_100 rfl ?_
                refine x_aload_n (pc := 102) K 3 dX8_findMatch_102 rfl rfl ?_
                refine x_getr (r0 := 89) (pc := 103) (index := 55) (C := RX8) (T := TX8) (N := 36) (j0 := 33) (ref := "OldMapModel") K (by decide) sh_76 rfl i_X8 (by decide) (by decide +kernel) rfl rfl rf_76_33 dX8_findMatch_103 ?_
                refine x_iload (pc := 106) K 0 dX8_findMatch_106 rfl ?_
                refine y_iald (j := 0) (pc := 108) K (by decide) sh_89 rfl (by omega) (by decide) dX8_findMatch_108 ?_
                refine x_topie (I1 89 0) (by simp [h_up]) ?_
                refine y_iast (j := 0) (pc := 109) K (by decide) sh_90 rfl (by omega) (by decide) dX8_findMatch_109 ?_
                refine x_iinc (pc := 110) (q0 := 0) (v := nI (0 + 1)) (lo' := [(5, _), (3, _), (2, _), (0, _), (1, _)]) K dX8_findMatch_110 rfl (nI_incE rfl) (by decide) rfl ?_
                refine x_goto (pc := 113) (tgt := 89) K dX8_findMatch_113 (by decide) ?_
                refine x_iload (pc := 89) K 0 dX8_findMatch_89 rfl ?_
                refine x_bipush (pc := 91) (v := 6) K dX8_findMatch_91 (by decide) ?_
                refine x_icmp_ge (pc := 93) (tgt := 116) K dX8_findMatch_93 (by decide) (fun c_93_1 => ?_) (fun c_93_1 => ?_)
                · replace c_93_1 := cI_le (a := 6) (b := (0 + 1)) rfl rfl (by omega) (by omega) c_93_1
                  omega
                · replace c_93_1 := cI_nle (a := 6) (b := (0 + 1)) rfl rfl (by omega) (by omega) c_93_1
                  refine x_aload_n (pc := 96) K 3 dX8_findMatch_96 rfl rfl ?_
                  refine x_getr (r0 := 90) (pc := 97) (index := 58) (C := RX8) (T := TX8) (N := 36) (j0 := 34) (ref := "OldMapModel") K (by decide) sh_76 rfl i_X8 (by decide) (by decide +kernel) rfl rfl rf_76_34 dX8_findMatch_97 ?_
                  refine x_iload (pc := 100) K 0 dX8_findMatch_100 rfl ?_
                  refine x_aload_n (pc := 102) K 3 dX8_findMatch_102 rfl rfl ?_
                  refine x_getr (r0 := 89) (pc := 103) (index := 55) (C := RX8) (T := TX8) (N := 36) (j0 := 33) (ref := "OldMapModel") K (by decide) sh_76 rfl i_X8 (by decide) (by decide +kernel) rfl rfl rf_76_33 dX8_findMatch_103 ?_
                  refine x_iload (pc := 106) K 0 dX8_findMatch_106 rfl ?_
                  refine y_iald (j := (0 + 1)) (pc := 108) K (by decide) sh_89 rfl (by omega) (by decide) dX8_findMatch_108 ?_
                  refine x_topie (I1 89 (0 + 1)) (by simp [h_up]) ?_
                  refine y_iast (j := (0 + 1)) (pc := 109) K (by decide) sh_90 rfl (by omega) (by decide) dX8_findMatch_109 ?_
                  refine x_iinc (pc := 110) (q0 := 0) (v := nI ((0 + 1) + 1)) (lo' := [(5, _), (3, _), (2, _), (0, _), (1, _)]) K dX8_findMatch_110 rfl (nI_incE rfl) (by decide) rfl ?_
                  refine x_goto (pc := 113) (tgt := 89) K dX8_findMatch_113 (by decide) ?_
                  refine x_iload (pc := 89) K 0 dX8_findMatch_89 rfl ?_
                  refine x_bipush (pc := 91) (v := 6) K dX8_findMatch_91 (by decide) ?_
                  refine x_icmp_ge (pc := 93) (tgt := 116) K dX8_findMatch_93 (by decide) (fun c_93_2 => ?_) (fun c_93_2 => ?_)
                  · replace c_93_2 := cI_le (a := 6) (b := ((0 + 1) + 1)) rfl rfl (by omega) (by omega) c_93_2
                    omega
                  · replace c_93_2 := cI_nle (a := 6) (b := ((0 + 1) + 1)) rfl rfl (by omega) (by omega) c_93_2
                    refine x_aload_n (pc := 96) K 3 dX8_findMatch_96 rfl rfl ?_
                    refine x_getr (r0 := 90) (pc := 97) (index := 58) (C := RX8) (T := TX8) (N := 36) (j0 := 34) (ref := "OldMapModel") K (by decide) sh_76 rfl i_X8 (by decide) (by decide +kernel) rfl rfl rf_76_34 dX8_findMatch_97 ?_
                    refine x_iload (pc := 100) K 0 dX8_findMatch_100 rfl ?_
                    refine x_aload_n (pc := 102) K 3 dX8_findMatch_102 rfl rfl ?_
                    refine x_getr (r0 := 89) (pc := 103) (index := 55) (C := RX8) (T := TX8) (N := 36) (j0 := 33) (ref := "OldMapModel") K (by decide) sh_76 rfl i_X8 (by decide) (by decide +kernel) rfl rfl rf_76_33 dX8_findMatch_103 ?_
                    refine x_iload (pc := 106) K 0 dX8_findMatch_106 rfl ?_
                    refine y_iald (j := ((0 + 1) + 1)) (pc := 108) K (by decide) sh_89 rfl (by omega) (by decide) dX8_findMatch_108 ?_
                    refine x_topie (I1 89 ((0 + 1) + 1)) (by simp [h_up]) ?_
                    refine y_iast (j := ((0 + 1) + 1)) (pc := 109) K (by decide) sh_90 rfl (by omega) (by decide) dX8_findMatch_109 ?_
                    refine x_iinc (pc := 110) (q0 := 0) (v := nI (((0 + 1) + 1) + 1)) (lo' := [(5, _), (3, _), (2, _), (0, _), (1, _)]) K dX8_findMatch_110 rfl (nI_incE rfl) (by decide) rfl ?_
                    refine x_goto (pc := 113) (tgt := 89) K dX8_findMatch_113 (by decide) ?_
                    refine x_iload (pc := 89) K 0 dX8_findMatch_89 rfl ?_
                    refine x_bipush (pc := 91) (v := 6) K dX8_findMatch_91 (by decide) ?_
                    refine x_icmp_ge (pc := 93) (tgt := 116) K dX8_findMatch_93 (by decide) (fun c_93_3 => ?_) (fun c_93_3 => ?_)
                    · replace c_93_3 := cI_le (a := 6) (b := (((0 + 1) + 1) + 1)) rfl rfl (by omega) (by omega) c_93_3
                      omega
                    · replace c_93_3 := cI_nle (a := 6) (b := (((0 + 1) + 1) + 1)) rfl rfl (by omega) (by omega) c_93_3
                      refine x_aload_n (pc := 96) K 3 dX8_findMatch_96 rfl rfl ?_
                      refine x_getr (r0 := 90) (pc := 97) (index := 58) (C := RX8) (T := TX8) (N := 36) (j0 := 34) (ref := "OldMapModel") K (by decide) sh_76 rfl i_X8 (by decide) (by decide +kernel) rfl rfl rf_76_34 dX8_findMatch_97 ?_
                      refine x_iload (pc := 100) K 0 dX8_findMatch_100 rfl ?_
                      refine x_aload_n (pc := 102) K 3 dX8_findMatch_102 rfl rfl ?_
                      refine x_getr (r0 := 89) (pc := 103) (index := 55) (C := RX8) (T := TX8) (N := 36) (j0 := 33) (ref := "OldMapModel") K (by decide) sh_76 rfl i_X8 (by decide) (by decide +kernel) rfl rfl rf_76_33 dX8_findMatch_103 ?_
                      refine x_iload (pc := 106) K 0 dX8_findMatch_106 rfl ?_
                      refine y_iald (j := (((0 + 1) + 1) + 1)) (pc := 108) K (by decide) sh_89 rfl (by omega) (by decide) dX8_findMatch_108 ?_
                      refine x_topie (I1 89 (((0 + 1) + 1) + 1)) (by simp [h_up]) ?_
                      refine y_iast (j := (((0 + 1) + 1) + 1)) (pc := 109) K (by decide) sh_90 rfl (by omega) (by decide) dX8_findMatch_109 ?_
                      refine x_iinc (pc := 110) (q0 := 0) (v := nI ((((0 + 1) + 1) + 1) + 1)) (lo' := [(5, _), (3, _), (2, _), (0, _), (1, _)]) K dX8_findMatch_110 rfl (nI_incE rfl) (by decide) rfl ?_
                      refine x_goto (pc := 113) (tgt := 89) K dX8_findMatch_113 (by decide) ?_
                      refine x_iload (pc := 89) K 0 dX8_findMatch_89 rfl ?_
                      refine x_bipush (pc := 91) (v := 6) K dX8_findMatch_91 (by decide) ?_
                      refine x_icmp_ge (pc := 93) (tgt := 116) K dX8_findMatch_93 (by decide) (fun c_93_4 => ?_) (fun c_93_4 => ?_)
                      · replace c_93_4 := cI_le (a := 6) (b := ((((0 + 1) + 1) + 1) + 1)) rfl rfl (by omega) (by omega) c_93_4
                        omega
                      · replace c_93_4 := cI_nle (a := 6) (b := ((((0 + 1) + 1) + 1) + 1)) rfl rfl (by omega) (by omega) c_93_4
                        refine x_aload_n (pc := 96) K 3 dX8_findMatch_96 rfl rfl ?_
                        refine x_getr (r0 := 90) (pc := 97) (index := 58) (C := RX8) (T := TX8) (N := 36) (j0 := 34) (ref := "OldMapModel") K (by decide) sh_76 rfl i_X8 (by decide) (by decide +kernel) rfl rfl rf_76_34 dX8_findMatch_97 ?_
                        refine x_iload (pc := 100) K 0 dX8_findMatch_100 rfl ?_
                        refine x_aload_n (pc := 102) K 3 dX8_findMatch_102 rfl rfl ?_
                        refine x_getr (r0 := 89) (pc := 103) (index := 55) (C := RX8) (T := TX8) (N := 36) (j0 := 33) (ref := "OldMapModel") K (by decide) sh_76 rfl i_X8 (by decide) (by decide +kernel) rfl rfl rf_76_33 dX8_findMatch_103 ?_
                        refine x_iload (pc := 106) K 0 dX8_findMatch_106 rfl ?_
                        refine y_iald (j := ((((0 + 1) + 1) + 1) + 1)) (pc := 108) K (by decide) sh_89 rfl (by omega) (by decide) dX8_findMatch_108 ?_
                        refine x_topie (I1 89 ((((0 + 1) + 1) + 1) + 1)) (by simp [h_up]) ?_
                        refine y_iast (j := ((((0 + 1) + 1) + 1) + 1)) (pc := 109) K (by decide) sh_90 rfl (by omega) (by decide) dX8_findMatch_109 ?_
                        refine x_iinc (pc := 110) (q0 := 0) (v := nI (((((0 + 1) + 1) + 1) + 1) + 1)) (lo' := [(5, _), (3, _), (2, _), (0, _), (1, _)]) K dX8_findMatch_110 rfl (nI_incE rfl) (by decide) rfl ?_
                        refine x_goto (pc := 113) (tgt := 89) K dX8_findMatch_113 (by decide) ?_
                        refine x_iload (pc := 89) K 0 dX8_findMatch_89 rfl ?_
                        refine x_bipush (pc := 91) (v := 6) K dX8_findMatch_91 (by decide) ?_
                        refine x_icmp_ge (pc := 93) (tgt := 116) K dX8_findMatch_93 (by decide) (fun c_93_5 => ?_) (fun c_93_5 => ?_)
                        · replace c_93_5 := cI_le (a := 6) (b := (((((0 + 1) + 1) + 1) + 1) + 1)) rfl rfl (by omega) (by omega) c_93_5
                          omega
                        · replace c_93_5 := cI_nle (a := 6) (b := (((((0 + 1) + 1) + 1) + 1) + 1)) rfl rfl (by omega) (by omega) c_93_5
                          refine x_aload_n (pc := 96) K 3 dX8_findMatch_96 rfl rfl ?_
                          refine x_getr (r0 := 90) (pc := 97) (index := 58) (C := RX8) (T := TX8) (N := 36) (j0 := 34) (ref := "OldMapModel") K (by decide) sh_76 rfl i_X8 (by decide) (by decide +kernel) rfl rfl rf_76_34 dX8_findMatch_97 ?_
                          refine x_iload (pc := 100) K 0 dX8_findMatch_100 rfl ?_
                          refine x_aload_n (pc := 102) K 3 dX8_findMatch_102 rfl rfl ?_
                          refine x_getr (r0 := 89) (pc := 103) (index := 55) (C := RX8) (T := TX8) (N := 36) (j0 := 33) (ref := "OldMapModel") K (by decide) sh_76 rfl i_X8 (by decide) (by decide +kernel) rfl rfl rf_76_33 dX8_findMatch_103 ?_
                          refine x_iload (pc := 106) K 0 dX8_findMatch_106 rfl ?_
                          refine y_iald (j := (((((0 + 1) + 1) + 1) + 1) + 1)) (pc := 108) K (by decide) sh_89 rfl (by omega) (by decide) dX8_findMatch_108 ?_
                          refine x_topie (I1 89 (((((0 + 1) + 1) + 1) + 1) + 1)) (by simp [h_up]) ?_
                          refine y_iast (j := (((((0 + 1) + 1) + 1) + 1) + 1)) (pc := 109) K (by decide) sh_90 rfl (by omega) (by decide) dX8_findMatch_109 ?_
                          refine x_iinc (pc := 110) (q0 := 0) (v := nI ((((((0 + 1) + 1) + 1) + 1) + 1) + 1)) (lo' := [(5, _), (3, _), (2, _), (0, _), (1, _)]) K dX8_findMatch_110 rfl (nI_incE rfl) (by decide) rfl ?_
                          refine x_goto (pc := 113) (tgt := 89) K dX8_findMatch_113 (by decide) ?_
                          refine x_iload (pc := 89) K 0 dX8_findMatch_89 rfl ?_
                          refine x_bipush (pc := 91) (v := 6) K dX8_findMatch_91 (by decide) ?_
                          refine x_icmp_ge (pc := 93) (tgt := 116) K dX8_findMatch_93 (by decide) (fun c_93_6 => ?_) (fun c_93_6 => ?_)
                          · replace c_93_6 := cI_le (a := 6) (b := ((((((0 + 1) + 1) + 1) + 1) + 1) + 1)) rfl rfl (by omega) (by omega) c_93_6
                            refine x_lo (lo' := [(0, _), (1, _)]) [3, 4] rfl ?_
                            have hbf : bfold (costH I J_15 no nn) (v + 1) = (costH I J_15 no nn v, v) := bf_y ⟨Int64.not_lt.mp c_60, Or.inr (Int64.not_le.mp c_78)⟩
                            refine x_eqI (I' := cpB I1) (J' := h_upL J1 76 35 (costH I J_15 no nn v)) rfl rfl ?_
                            exact cont _ _ (fun c h1 h2 => by rw [cpB_ne h2]; exact hA c h1 h2) (by rw [hbf]; exact ⟨fun c hc => by rw [h_upL_ne hc]; exact hB.1 c hc, by simp [h_upL]⟩) (fun i hi => by rw [cpB_ne (by decide)]; exact hC i hi) (by rw [hbf]; exact fun _ i hi => by rw [cpB_in (by omega)]; exact hC i hi)
                          · replace c_93_6 := cI_nle (a := 6) (b := ((((((0 + 1) + 1) + 1) + 1) + 1) + 1)) rfl rfl (by omega) (by omega) c_93_6
                            omega
    refine x_iconst (pc := 18) (v := 0) K dX8_findMatch_18 (by decide) ?_
    refine x_istore_n (pc := 19) (lo' := [(2, _), (0, _), (1, _)]) K dX8_findMatch_19 rfl (by decide) rfl ?_
    refine x_iload_n (pc := 20) K 0 dX8_findMatch_20 rfl rfl ?_
    refine x_bipush (pc := 21) (v := 6) K dX8_findMatch_21 (by decide) ?_
    refine x_icmp_ge (pc := 23) (tgt := 39) K dX8_findMatch_23 (by decide) (fun c_23 => ?_) (fun c_23 => ?_)
    · replace c_23 := cI_le (a := 6) (b := 0) rfl rfl (by omega) (by omega) c_23
      omega
    · replace c_23 := cI_nle (a := 6) (b := 0) rfl rfl (by omega) (by omega) c_23
      refine x_aload_n (pc := 26) K 1 dX8_findMatch_26 rfl rfl ?_
      refine x_getr (r0 := 89) (pc := 27) (index := 55) (C := RX8) (T := TX8) (N := 36) (j0 := 33) (ref := "OldMapModel") K (by decide) sh_76 rfl i_X8 (by decide) (by decide +kernel) rfl rfl rf_76_33 dX8_findMatch_27 ?_
      refine x_iload_n (pc := 30) K 0 dX8_findMatch_30 rfl rfl ?_
      refine x_iconst (pc := 31) (v := 0) K dX8_findMatch_31 (by decide) ?_
      refine y_iast (j := 0) (pc := 32) K (by decide) sh_89 rfl (by omega) (by decide) dX8_findMatch_32 ?_
      refine x_iinc (pc := 33) (q0 := 0) (v := nI (0 + 1)) (lo' := [(2, _), (0, _), (1, _)]) K dX8_findMatch_33 rfl (nI_incE rfl) (by decide) rfl ?_
      refine x_goto (pc := 36) (tgt := 20) K dX8_findMatch_36 (by decide) ?_
      refine x_iload_n (pc := 20) K 0 dX8_findMatch_20 rfl rfl ?_
      refine x_bipush (pc := 21) (v := 6) K dX8_findMatch_21 (by decide) ?_
      refine x_icmp_ge (pc := 23) (tgt := 39) K dX8_findMatch_23 (by decide) (fun c_23_1 => ?_) (fun c_23_1 => ?_)
      · replace c_23_1 := cI_le (a := 6) (b := (0 + 1)) rfl rfl (by omega) (by omega) c_23_1
        omega
      · replace c_23_1 := cI_nle (a := 6) (b := (0 + 1)) rfl rfl (by omega) (by omega) c_23_1
        refine x_aload_n (pc := 26) K 1 dX8_findMatch_26 rfl rfl ?_
        refine x_getr (r0 := 89) (pc := 27) (index := 55) (C := RX8) (T := TX8) (N := 36) (j0 := 33) (ref := "OldMapModel") K (by decide) sh_76 rfl i_X8 (by decide) (by decide +kernel) rfl rfl rf_76_33 dX8_findMatch_27 ?_
        refine x_iload_n (pc := 30) K 0 dX8_findMatch_30 rfl rfl ?_
        refine x_iconst (pc := 31) (v := 0) K dX8_findMatch_31 (by decide) ?_
        refine y_iast (j := (0 + 1)) (pc := 32) K (by decide) sh_89 rfl (by omega) (by decide) dX8_findMatch_32 ?_
        refine x_iinc (pc := 33) (q0 := 0) (v := nI ((0 + 1) + 1)) (lo' := [(2, _), (0, _), (1, _)]) K dX8_findMatch_33 rfl (nI_incE rfl) (by decide) rfl ?_
        refine x_goto (pc := 36) (tgt := 20) K dX8_findMatch_36 (by decide) ?_
        refine x_iload_n (pc := 20) K 0 dX8_findMatch_20 rfl rfl ?_
        refine x_bipush (pc := 21) (v := 6) K dX8_findMatch_21 (by decide) ?_
        refine x_icmp_ge (pc := 23) (tgt := 39) K dX8_findMatch_23 (by decide) (fun c_23_2 => ?_) (fun c_23_2 => ?_)
        · replace c_23_2 := cI_le (a := 6) (b := ((0 + 1) + 1)) rfl rfl (by omega) (by omega) c_23_2
          omega
        · replace c_23_2 := cI_nle (a := 6) (b := ((0 + 1) + 1)) rfl rfl (by omega) (by omega) c_23_2
          refine x_aload_n (pc := 26) K 1 dX8_findMatch_26 rfl rfl ?_
          refine x_getr (r0 := 89) (pc := 27) (index := 55) (C := RX8) (T := TX8) (N := 36) (j0 := 33) (ref := "OldMapModel") K (by decide) sh_76 rfl i_X8 (by decide) (by decide +kernel) rfl rfl rf_76_33 dX8_findMatch_27 ?_
          refine x_iload_n (pc := 30) K 0 dX8_findMatch_30 rfl rfl ?_
          refine x_iconst (pc := 31) (v := 0) K dX8_findMatch_31 (by decide) ?_
          refine y_iast (j := ((0 + 1) + 1)) (pc := 32) K (by decide) sh_89 rfl (by omega) (by decide) dX8_findMatch_32 ?_
          refine x_iinc (pc := 33) (q0 := 0) (v := nI (((0 + 1) + 1) + 1)) (lo' := [(2, _), (0, _), (1, _)]) K dX8_findMatch_33 rfl (nI_incE rfl) (by decide) rfl ?_
          refine x_goto (pc := 36) (tgt := 20) K dX8_findMatch_36 (by decide) ?_
          refine x_iload_n (pc := 20) K 0 dX8_findMatch_20 rfl rfl ?_
          refine x_bipush (pc := 21) (v := 6) K dX8_findMatch_21 (by decide) ?_
          refine x_icmp_ge (pc := 23) (tgt := 39) K dX8_findMatch_23 (by decide) (fun c_23_3 => ?_) (fun c_23_3 => ?_)
          · replace c_23_3 := cI_le (a := 6) (b := (((0 + 1) + 1) + 1)) rfl rfl (by omega) (by omega) c_23_3
            omega
          · replace c_23_3 := cI_nle (a := 6) (b := (((0 + 1) + 1) + 1)) rfl rfl (by omega) (by omega) c_23_3
            refine x_aload_n (pc := 26) K 1 dX8_findMatch_26 rfl rfl ?_
            refine x_getr (r0 := 89) (pc := 27) (index := 55) (C := RX8) (T := TX8) (N := 36) (j0 := 33) (ref := "OldMapModel") K (by decide) sh_76 rfl i_X8 (by decide) (by decide +kernel) rfl rfl rf_76_33 dX8_findMatch_27 ?_
            refine x_iload_n (pc := 30) K 0 dX8_findMatch_30 rfl rfl ?_
            refine x_iconst (pc := 31) (v := 0) K dX8_findMatch_31 (by decide) ?_
            refine y_iast (j := (((0 + 1) + 1) + 1)) (pc := 32) K (by decide) sh_89 rfl (by omega) (by decide) dX8_findMatch_32 ?_
            refine x_iinc (pc := 33) (q0 := 0) (v := nI ((((0 + 1) + 1) + 1) + 1)) (lo' := [(2, _), (0, _), (1, _)]) K dX8_findMatch_33 rfl (nI_incE rfl) (by decide) rfl ?_
            refine x_goto (pc := 36) (tgt := 20) K dX8_findMatch_36 (by decide) ?_
            refine x_iload_n (pc := 20) K 0 dX8_findMatch_20 rfl rfl ?_
            refine x_bipush (pc := 21) (v := 6) K dX8_findMatch_21 (by decide) ?_
            refine x_icmp_ge (pc := 23) (tgt := 39) K dX8_findMatch_23 (by decide) (fun c_23_4 => ?_) (fun c_23_4 => ?_)
            · replace c_23_4 := cI_le (a := 6) (b := ((((0 + 1) + 1) + 1) + 1)) rfl rfl (by omega) (by omega) c_23_4
              omega
            · replace c_23_4 := cI_nle (a := 6) (b := ((((0 + 1) + 1) + 1) + 1)) rfl rfl (by omega) (by omega) c_23_4
              refine x_aload_n (pc := 26) K 1 dX8_findMatch_26 rfl rfl ?_
              refine x_getr (r0 := 89) (pc := 27) (index := 55) (C := RX8) (T := TX8) (N := 36) (j0 := 33) (ref := "OldMapModel") K (by decide) sh_76 rfl i_X8 (by decide) (by decide +kernel) rfl rfl rf_76_33 dX8_findMatch_27 ?_
              refine x_iload_n (pc := 30) K 0 dX8_findMatch_30 rfl rfl ?_
              refine x_iconst (pc := 31) (v := 0) K dX8_findMatch_31 (by decide) ?_
              refine y_iast (j := ((((0 + 1) + 1) + 1) + 1)) (pc := 32) K (by decide) sh_89 rfl (by omega) (by decide) dX8_findMatch_32 ?_
              refine x_iinc (pc := 33) (q0 := 0) (v := nI (((((0 + 1) + 1) + 1) + 1) + 1)) (lo' := [(2, _), (0, _), (1, _)]) K dX8_findMatch_33 rfl (nI_incE rfl) (by decide) rfl ?_
              refine x_goto (pc := 36) (tgt := 20) K dX8_findMatch_36 (by decide) ?_
              refine x_iload_n (pc := 20) K 0 dX8_findMatch_20 rfl rfl ?_
              refine x_bipush (pc := 21) (v := 6) K dX8_findMatch_21 (by decide) ?_
              refine x_icmp_ge (pc := 23) (tgt := 39) K dX8_findMatch_23 (by decide) (fun c_23_5 => ?_) (fun c_23_5 => ?_)
              · replace c_23_5 := cI_le (a := 6) (b := (((((0 + 1) + 1) + 1) + 1) + 1)) rfl rfl (by omega) (by omega) c_23_5
                omega
              · replace c_23_5 := cI_nle (a := 6) (b := (((((0 + 1) + 1) + 1) + 1) + 1)) rfl rfl (by omega) (by omega) c_23_5
                refine x_aload_n (pc := 26) K 1 dX8_findMatch_26 rfl rfl ?_
                refine x_getr (r0 := 89) (pc := 27) (index := 55) (C := RX8) (T := TX8) (N := 36) (j0 := 33) (ref := "OldMapModel") K (by decide) sh_76 rfl i_X8 (by decide) (by decide +kernel) rfl rfl rf_76_33 dX8_findMatch_27 ?_
                refine x_iload_n (pc := 30) K 0 dX8_findMatch_30 rfl rfl ?_
                refine x_iconst (pc := 31) (v := 0) K dX8_findMatch_31 (by decide) ?_
                refine y_iast (j := (((((0 + 1) + 1) + 1) + 1) + 1)) (pc := 32) K (by decide) sh_89 rfl (by omega) (by decide) dX8_findMatch_32 ?_
                refine x_iinc (pc := 33) (q0 := 0) (v := nI ((((((0 + 1) + 1) + 1) + 1) + 1) + 1)) (lo' := [(2, _), (0, _), (1, _)]) K dX8_findMatch_33 rfl (nI_incE rfl) (by decide) rfl ?_
                refine x_goto (pc := 36) (tgt := 20) K dX8_findMatch_36 (by decide) ?_
                refine x_iload_n (pc := 20) K 0 dX8_findMatch_20 rfl rfl ?_
                refine x_bipush (pc := 21) (v := 6) K dX8_findMatch_21 (by decide) ?_
                refine x_icmp_ge (pc := 23) (tgt := 39) K dX8_findMatch_23 (by decide) (fun c_23_6 => ?_) (fun c_23_6 => ?_)
                · replace c_23_6 := cI_le (a := 6) (b := ((((((0 + 1) + 1) + 1) + 1) + 1) + 1)) rfl rfl (by omega) (by omega) c_23_6
                  refine x_aload_n (pc := 39) K 1 dX8_findMatch_39 rfl rfl ?_
                  refine x_ldc2_w (pc := 40) (v := (-1)) K (by decide +kernel) dX8_findMatch_40 ?_
                  refine x_putl (ty := .long) (pc := 43) (index := 232) (C := RX8) (T := TX8) (N := 36) (j0 := 35) (ref := "OldMapModel") K (by decide) sh_76 rfl i_X8 (by decide) (by decide +kernel) rfl tyX8 tyX8_ok nmX8 rfl (by decide +kernel) rfl rfl rfl dX8_findMatch_43 ?_
                  refine x_iconst (pc := 46) (v := 1) K dX8_findMatch_46 (by decide) ?_
                  refine x_istore_n (pc := 47) (lo' := [(2, _), (0, _), (1, _)]) K dX8_findMatch_47 rfl (by decide) rfl ?_
                  refine x_lo (lo' := [(2, _), (0, _), (1, _)]) [0, 1, 2] rfl ?_
                  refine x_eqI (I' := zeC I) (J' := h_upL J_15 76 35 (-1)) rfl rfl ?_
                  exact main 0 (Nat.zero_le _) _ _ (fun c h1 _ => zeC_ne h1) ⟨fun c hc => h_upL_ne hc, by simp [h_upL, bfold]⟩ (fun i hi => by rw [zeC_in (by omega), dg_0, nI_0]) (fun h0 => absurd h0 (by simp only [bfold]; decide))
                · replace c_23_6 := cI_nle (a := 6) (b := ((((((0 + 1) + 1) + 1) + 1) + 1) + 1)) rfl rfl (by omega) (by omega) c_23_6
                  omega
  · replace c_9 := bz_0.mp c_9
    refine x_iconst (pc := 12) (v := 0) K dX8_findMatch_12 (by decide) ?_
    exact ret (pc := 13) dX8_findMatch_13 (⟨bz_0.mpr c_9, fun _ _ _ => rfl, fun c h1 _ => hJ_6 c h1, fun h => absurd h c_9⟩) rfl

