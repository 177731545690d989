/-! the reference's face: beyond, lying, drop, rule, points -/
abbrev PMl (I : hI) (n kd s m out : Nat) : Prop := nI out &&& (nI s ^^^ -1) = 0 ∧ mof (nI out) = nI m ∧ okM I n kd (nI s &&& (nI out ^^^ -1)) ∧ ¬ 0 ≤ fbW I n kd (nI s &&& (nI out ^^^ -1))
def FMl (I : hI) (n kd s m : Nat) : Int32 := fstI (PMl I n kd s m) 0 (s + 1)
def lyF (F : Nat → Int32) : Nat → Nat → Int32
  | 0, _ => -5
  | d + 1, m => if F m = -5 then lyF F d (m + 1) else F m
def lyM (I : hI) (n s : Nat) (k : Int32) : Int32 := if isKd k then (if okM I n (tn k) (nI s) then lyF (FMl I n (tn k) s) 4 0 else -3) else -1
set_option maxHeartbeats 1000000 in
set_option maxRecDepth 100000 in
theorem c_X8_beyond (l : Launch) (G : hQ) (I : hI) (J : hJ) (k : Int32) (n : Nat) (hn : I 76 0 = nI n) (h12 : n ≤ 12) : h_Mi l yX8_beyond wsX8_beyond 4 100 G [rr G 76, .int k] I J (fun ρ I' J' => (if isKd k then (if okM I n (tn k) (cM I n) then fbW I n (tn k) (cM I n) else -3) else -1) = ρ ∧ I = I' ∧ ∀ c, c ≠ 76 → J' c = J c) := by
  refine h_Mi.of (ty := .int) (cc := cX8_beyond) (maxL := 3) [(0, rr G 76), (1, .int k)] (by decide +kernel) rfl (Nat.le_of_ble_eq_true rfl) rfl ?_
  intro Γ K ret
  refine x_iload_n (pc := 0) K 1 dX8_beyond_0 rfl rfl ?_
  refine x_calliS (pc := 1) (st := []) (n := 1) K (c_X8_isKind l G _ _ _) gX8_beyond_X8_isKind (by decide +kernel) rfl (by decide) (by decide) rfl rfl (Nat.le_of_ble_eq_true rfl) dX8_beyond_1 (fun r_1 I_1 J_1 hp_1 => ?_)
  obtain ⟨rfl, rfl, rfl⟩ := hp_1
  refine x_if_ne (pc := 4) (tgt := 9) K dX8_beyond_4 (by decide) (fun c_4 => ?_) (fun c_4 => ?_)
  · replace c_4 := bz_n0.mp c_4
    obtain ⟨kd, hkd, rfl⟩ := kd_of c_4
    refine x_aload_n (pc := 9) K 0 dX8_beyond_9 rfl rfl ?_
    refine x_calliV (pc := 10) (st := []) (n := 0) K (by decide) sh_76 rfl (c_X8_counting l G _ _ n hn h12) gX8_beyond_X8_counting (by decide +kernel) rfl (by decide) (by decide) rfl rfl (Nat.le_of_ble_eq_true rfl) dX8_beyond_10 (fun r_10 I_10 J_10 hp_10 => ?_)
    obtain ⟨rfl, rfl, rfl⟩ := hp_10
    refine x_istore_n (pc := 13) (lo' := [(2, _), (0, _), (1, _)]) K dX8_beyond_13 rfl (by decide) rfl ?_
    refine x_aload_n (pc := 14) K 1 dX8_beyond_14 rfl rfl ?_
    refine x_iload_n (pc := 15) K 2 dX8_beyond_15 rfl rfl ?_
    refine x_iload_n (pc := 16) K 0 dX8_beyond_16 rfl rfl ?_
    refine x_calliV (pc := 17) (st := []) (n := 2) K (by decide) sh_76 rfl (c_X8_fit l G _ _ kd _ (by omega) n hn h12) gX8_beyond_X8_fit (by decide +kernel) rfl (by decide) (by decide) rfl rfl (Nat.le_of_ble_eq_true rfl) dX8_beyond_17 (fun r_17 I_17 J_17 hp_17 => ?_)
    obtain ⟨rfl, rfl, hJ_17, hW_17⟩ := hp_17
    refine x_if_eq (pc := 20) (tgt := 31) K dX8_beyond_20 (by decide) (fun c_20 => ?_) (fun c_20 => ?_)
    · replace c_20 := bz_0.mp c_20
      refine x_bipush (pc := 31) (v := -3) K dX8_beyond_31 (by decide) ?_
      exact ret (pc := 33) dX8_beyond_33 (⟨by rw [if_pos c_4, tn_n (by omega), if_neg c_20], rfl, hJ_17⟩) rfl
    · replace c_20 := bz_n0.mp c_20
      refine x_aload_n (pc := 23) K 1 dX8_beyond_23 rfl rfl ?_
      refine x_iload_n (pc := 24) K 0 dX8_beyond_24 rfl rfl ?_
      refine x_calliV (pc := 25) (st := []) (n := 1) K (by decide) sh_76 rfl (c_X8_firstBeyond l G _ _ _ n hn h12) gX8_beyond_X8_firstBeyond (by decide +kernel) rfl (by decide) (by decide) rfl rfl (Nat.le_of_ble_eq_true rfl) dX8_beyond_25 (fun r_25 I_25 J_25 hp_25 => ?_)
      obtain ⟨rfl, rfl, rfl⟩ := hp_25
      refine x_goto (pc := 28) (tgt := 33) K dX8_beyond_28 (by decide) ?_
      exact ret (pc := 33) dX8_beyond_33 (⟨by rw [if_pos c_4, tn_n (by omega), if_pos c_20, fitM_fb hW_17], rfl, hJ_17⟩) rfl
  · replace c_4 := bz_0.mp c_4
    refine x_iconst (pc := 7) (v := -1) K dX8_beyond_7 (by decide) ?_
    exact ret (pc := 8) dX8_beyond_8 (⟨if_neg c_4, rfl, fun _ _ => rfl⟩) rfl

theorem nI_ne5 {q : Nat} (h : q < 2 ^ 31) : ¬ nI q = -5 := by
  intro e
  have h1 := nI_pos' h
  rw [e] at h1
  revert h1
  decide
set_option maxHeartbeats 1000000 in
set_option maxRecDepth 100000 in
theorem c_X8_lying (l : Launch) (G : hQ) (I : hI) (J : hJ) (k : Int32) (n : Nat) (hn : I 76 0 = nI n) (h12 : n ≤ 12) (s : Nat) (hs : cM I n = nI s) (h4 : s < 4096) : h_Mi l yX8_lying wsX8_lying 4 100 G [rr G 76, .int k] I J (fun ρ I' J' => lyM I n s k = ρ ∧ I = I' ∧ ∀ c, c ≠ 76 → J' c = J c) := by
  refine h_Mi.of (ty := .int) (cc := cX8_lying) (maxL := 5) [(0, rr G 76), (1, .int k)] (by decide +kernel) rfl (Nat.le_of_ble_eq_true rfl) rfl ?_
  intro Γ K ret
  refine x_iload_n (pc := 0) K 1 dX8_lying_0 rfl rfl ?_
  refine x_calliS (pc := 1) (st := []) (n := 1) K (c_X8_isKind l G _ _ _) gX8_lying_X8_isKind (by decide +kernel) rfl (by decide) (by decide) rfl rfl (Nat.le_of_ble_eq_true rfl) dX8_lying_1 (fun r_1 I_1 J_1 hp_1 => ?_)
  obtain ⟨rfl, rfl, rfl⟩ := hp_1
  refine x_if_ne (pc := 4) (tgt := 9) K dX8_lying_4 (by decide) (fun c_4 => ?_) (fun c_4 => ?_)
  · replace c_4 := bz_n0.mp c_4
    obtain ⟨kd, hkd, rfl⟩ := kd_of c_4
    refine x_aload_n (pc := 9) K 0 dX8_lying_9 rfl rfl ?_
    refine x_calliV (pc := 10) (st := []) (n := 0) K (by decide) sh_76 rfl (c_X8_counting l G _ _ n hn h12) gX8_lying_X8_counting (by decide +kernel) rfl (by decide) (by decide) rfl rfl (Nat.le_of_ble_eq_true rfl) dX8_lying_10 (fun r_10 I_10 J_10 hp_10 => ?_)
    obtain ⟨rfl, rfl, rfl⟩ := hp_10
    refine x_topie (nI s) hs ?_
    refine x_istore_n (pc := 13) (lo' := [(2, _), (0, _), (1, _)]) K dX8_lying_13 rfl (by decide) rfl ?_
    refine x_aload_n (pc := 14) K 1 dX8_lying_14 rfl rfl ?_
    refine x_iload_n (pc := 15) K 2 dX8_lying_15 rfl rfl ?_
    refine x_iload_n (pc := 16) K 0 dX8_lying_16 rfl rfl ?_
    refine x_calliV (pc := 17) (st := []) (n := 2) K (by decide) sh_76 rfl (c_X8_fit l G _ _ kd _ (by omega) n hn h12) gX8_lying_X8_fit (by decide +kernel) rfl (by decide) (by decide) rfl rfl (Nat.le_of_ble_eq_true rfl) dX8_lying_17 (fun r_17 I_17 J_17 hp_17 => ?_)
    obtain ⟨rfl, rfl, hJ_17, hW_17⟩ := hp_17
    refine x_if_ne (pc := 20) (tgt := 26) K dX8_lying_20 (by decide) (fun c_20 => ?_) (fun c_20 => ?_)
    · replace c_20 := bz_n0.mp c_20
      have outer : ∀ m, m ≤ 4 → ∀ J0 : hJ, (∀ c, c ≠ 76 → J0 c = J c) → lyF (FMl I n kd s) 4 0 = lyF (FMl I n kd s) (4 - m) m → h_WW Γ G 28 [(3, .int (nI m)), (0, rr G 76), (1, .int (nI kd)), (2, .int (nI s))] [] I J0 := by
        refine loopU 4 (fun m hm ihO => ?_)
        intro J0 hJ0 hiO
        refine x_iload_n (pc := 28) K 0 dX8_lying_28 rfl rfl ?_
        refine x_iconst (pc := 29) (v := 4) K dX8_lying_29 (by decide) ?_
        refine x_icmp_ge (pc := 30) (tgt := 102) K dX8_lying_30 (by decide) (fun c_30 => ?_) (fun c_30 => ?_)
        · replace c_30 := cI_le (a := 4) (b := m) rfl rfl (by omega) (by omega) c_30
          refine x_bipush (pc := 102) (v := -5) K dX8_lying_102 (by decide) ?_
          exact ret (pc := 104) dX8_lying_104 (⟨by rw [lyM, if_pos c_4, tn_n (by omega), if_pos c_20, hiO, show 4 - m = 0 by omega]; rfl, rfl, hJ0⟩) rfl
        · replace c_30 := cI_nle (a := 4) (b := m) rfl rfl (by omega) (by omega) c_30
          have inner : ∀ q, q ≤ (s + 1) → ∀ (J1 : hJ), ((∀ c, c ≠ 76 → J1 c = J c)) → (FMl I n kd s m = fstI (PMl I n kd s m) q (s + 1 - q)) → h_WW Γ G 36 [(4, .int (nI q)), (3, .int (nI m)), (0, rr G 76), (1, .int (nI kd)), (2, .int (nI s))] [] I J1 := by
            refine loopU (s + 1) (fun q hk ih => ?_)
            intro J1 hJ1 hi
            refine x_iload (pc := 36) K 0 dX8_lying_36 rfl ?_
            refine x_iload_n (pc := 38) K 4 dX8_lying_38 rfl rfl ?_
            refine x_icmp_gt (pc := 39) (tgt := 96) K dX8_lying_39 (by decide) (fun c_39 => ?_) (fun c_39 => ?_)
            · replace c_39 := cI_lt (a := s) (b := q) rfl rfl (by omega) (by omega) c_39
              refine x_iinc (pc := 96) (q0 := 1) (v := nI (m + 1)) (lo' := [(3, _), (4, _), (0, _), (1, _), (2, _)]) K dX8_lying_96 rfl (nI_incE rfl) (by decide) rfl ?_
              refine x_goto (pc := 99) (tgt := 28) K dX8_lying_99 (by decide) ?_
              refine x_lo (lo' := [(3, _), (0, _), (1, _), (2, _)]) [0, 2, 3, 4] rfl ?_
              exact ihO (by omega) J1 hJ1 (by rw [hiO, show 4 - m = (4 - (m + 1)) + 1 by omega, lyF, hi, fstI_e (show s + 1 ≤ q by omega), if_pos rfl])
            · replace c_39 := cI_nlt (a := s) (b := q) rfl rfl (by omega) (by omega) c_39
              refine x_iload (pc := 42) K 0 dX8_lying_42 rfl ?_
              refine x_iload_n (pc := 44) K 4 dX8_lying_44 rfl rfl ?_
              refine x_iconst (pc := 45) (v := -1) K dX8_lying_45 (by decide) ?_
              refine x_ixor (pc := 46) K dX8_lying_46 ?_
              refine x_iand (pc := 47) K dX8_lying_47 ?_
              refine x_if_ne (pc := 48) (tgt := 90) K dX8_lying_48 (by decide) (fun c_48 => ?_) (fun c_48 => ?_)
              · refine x_iinc (pc := 90) (q0 := 0) (v := nI (q + 1)) (lo' := [(4, _), (3, _), (0, _), (1, _), (2, _)]) K dX8_lying_90 rfl (nI_incE rfl) (by decide) rfl ?_
                refine x_goto (pc := 93) (tgt := 36) K dX8_lying_93 (by decide) ?_
                refine x_lo (lo' := [(4, _), (3, _), (0, _), (1, _), (2, _)]) [0, 1, 2, 3, 4] rfl ?_
                exact x_loe (by rfl) (ih (by omega) _ hJ1 (by rw [hi, fstI_f (show q < s + 1 by omega) (fun h => c_48 h.1)]))
              · refine x_iload (pc := 51) K 0 dX8_lying_51 rfl ?_
                refine x_calliS (pc := 53) (st := []) (n := 1) K (c_X8_manyOf l G _ _ _) gX8_lying_X8_manyOf (by decide +kernel) rfl (by decide) (by decide) rfl rfl (Nat.le_of_ble_eq_true rfl) dX8_lying_53 (fun r_53 I_53 J_53 hp_53 => ?_)
                obtain ⟨rfl, rfl, rfl⟩ := hp_53
                refine x_iload_n (pc := 56) K 1 dX8_lying_56 rfl rfl ?_
                refine x_icmp_ne (pc := 57) (tgt := 90) K dX8_lying_57 (by decide) (fun c_57 => ?_) (fun c_57 => ?_)
                · refine x_iinc (pc := 90) (q0 := 0) (v := nI (q + 1)) (lo' := [(4, _), (3, _), (0, _), (1, _), (2, _)]) K dX8_lying_90 rfl (nI_incE rfl) (by decide) rfl ?_
                  refine x_goto (pc := 93) (tgt := 36) K dX8_lying_93 (by decide) ?_
                  refine x_lo (lo' := [(4, _), (3, _), (0, _), (1, _), (2, _)]) [0, 1, 2, 3, 4] rfl ?_
                  exact x_loe (by rfl) (ih (by omega) _ hJ1 (by rw [hi, fstI_f (show q < s + 1 by omega) (fun h => c_57 h.2.1)]))
                · refine x_aload_n (pc := 60) K 2 dX8_lying_60 rfl rfl ?_
                  refine x_iload_n (pc := 61) K 3 dX8_lying_61 rfl rfl ?_
                  refine x_iload_n (pc := 62) K 4 dX8_lying_62 rfl rfl ?_
                  refine x_iload (pc := 63) K 0 dX8_lying_63 rfl ?_
                  refine x_iconst (pc := 65) (v := -1) K dX8_lying_65 (by decide) ?_
                  refine x_ixor (pc := 66) K dX8_lying_66 ?_
                  refine x_iand (pc := 67) K dX8_lying_67 ?_
                  refine x_calliV (pc := 68) (st := []) (n := 2) K (by decide) sh_76 rfl (c_X8_fit l G _ _ kd _ (by omega) n hn h12) gX8_lying_X8_fit (by decide +kernel) rfl (by decide) (by decide) rfl rfl (Nat.le_of_ble_eq_true rfl) dX8_lying_68 (fun r_68 I_68 J_68 hp_68 => ?_)
                  obtain ⟨rfl, rfl, hJ_68, hW_68⟩ := hp_68
                  refine x_if_eq (pc := 71) (tgt := 90) K dX8_lying_71 (by decide) (fun c_71 => ?_) (fun c_71 => ?_)
                  · replace c_71 := bz_0.mp c_71
                    refine x_iinc (pc := 90) (q0 := 0) (v := nI (q + 1)) (lo' := [(4, _), (3, _), (0, _), (1, _), (2, _)]) K dX8_lying_90 rfl (nI_incE rfl) (by decide) rfl ?_
                    refine x_goto (pc := 93) (tgt := 36) K dX8_lying_93 (by decide) ?_
                    refine x_lo (lo' := [(4, _), (3, _), (0, _), (1, _), (2, _)]) [0, 1, 2, 3, 4] rfl ?_
                    exact x_loe (by rfl) (ih (by omega) _ (fun c hc => (hJ_68 c hc).trans (hJ1 c hc)) (by rw [hi, fstI_f (show q < s + 1 by omega) (fun h => c_71 h.2.2.1)]))
                  · replace c_71 := bz_n0.mp c_71
                    refine x_aload_n (pc := 74) K 2 dX8_lying_74 rfl rfl ?_
                    refine x_iload_n (pc := 75) K 4 dX8_lying_75 rfl rfl ?_
                    refine x_iload (pc := 76) K 0 dX8_lying_76 rfl ?_
                    refine x_iconst (pc := 78) (v := -1) K dX8_lying_78 (by decide) ?_
                    refine x_ixor (pc := 79) K dX8_lying_79 ?_
                    refine x_iand (pc := 80) K dX8_lying_80 ?_
                    refine x_calliV (pc := 81) (st := []) (n := 1) K (by decide) sh_76 rfl (c_X8_firstBeyond l G _ _ _ n hn h12) gX8_lying_X8_firstBeyond (by decide +kernel) rfl (by decide) (by decide) rfl rfl (Nat.le_of_ble_eq_true rfl) dX8_lying_81 (fun r_81 I_81 J_81 hp_81 => ?_)
                    obtain ⟨rfl, rfl, rfl⟩ := hp_81
                    refine x_if_ge (pc := 84) (tgt := 90) K dX8_lying_84 (by decide) (fun c_84 => ?_) (fun c_84 => ?_)
                    · refine x_iinc (pc := 90) (q0 := 0) (v := nI (q + 1)) (lo' := [(4, _), (3, _), (0, _), (1, _), (2, _)]) K dX8_lying_90 rfl (nI_incE rfl) (by decide) rfl ?_
                      refine x_goto (pc := 93) (tgt := 36) K dX8_lying_93 (by decide) ?_
                      refine x_lo (lo' := [(4, _), (3, _), (0, _), (1, _), (2, _)]) [0, 1, 2, 3, 4] rfl ?_
                      exact x_loe (by rfl) (ih (by omega) _ (fun c hc => (hJ_68 c hc).trans (hJ1 c hc)) (by rw [hi, fstI_f (show q < s + 1 by omega) (fun h => h.2.2.2 (by rw [← fitM_fb hW_68]; exact c_84))]))
                    · refine x_iload (pc := 87) K 0 dX8_lying_87 rfl ?_
                      exact ret (pc := 89) dX8_lying_89 (⟨by rw [lyM, if_pos c_4, tn_n (by omega), if_pos c_20, hiO, show 4 - m = (4 - (m + 1)) + 1 by omega, lyF, hi, fstI_t (show q < s + 1 by omega) (And.intro c_48 (And.intro c_57 (And.intro c_71 (by rw [← fitM_fb hW_68]; exact c_84)))), if_neg (nI_ne5 (by omega))], rfl, fun c hc => (hJ_68 c hc).trans (hJ1 c hc)⟩) rfl
          refine x_iconst (pc := 33) (v := 0) K dX8_lying_33 (by decide) ?_
          refine x_istore (pc := 34) (lo' := [(4, _), (3, _), (0, _), (1, _), (2, _)]) K dX8_lying_34 (by decide) rfl ?_
          refine x_lo (lo' := [(4, _), (3, _), (0, _), (1, _), (2, _)]) [0, 1, 2, 3, 4] rfl ?_
          exact x_loe (by rfl) (inner 0 (Nat.zero_le _) J0 hJ0 rfl)
      refine x_iconst (pc := 26) (v := 0) K dX8_lying_26 (by decide) ?_
      refine x_istore_n (pc := 27) (lo' := [(3, _), (2, _), (0, _), (1, _)]) K dX8_lying_27 rfl (by decide) rfl ?_
      refine x_lo (lo' := [(3, _), (0, _), (1, _), (2, _)]) [0, 2, 3, 1] rfl ?_
      exact x_loe (by rfl) (outer 0 (Nat.zero_le _) _ hJ_17 rfl)
    · replace c_20 := bz_0.mp c_20
      refine x_bipush (pc := 23) (v := -3) K dX8_lying_23 (by decide) ?_
      exact ret (pc := 25) dX8_lying_25 (⟨by rw [lyM, if_pos c_4, tn_n (by omega), if_neg c_20], rfl, hJ_17⟩) rfl
  · replace c_4 := bz_0.mp c_4
    refine x_iconst (pc := 7) (v := -1) K dX8_lying_7 (by decide) ?_
    exact ret (pc := 8) dX8_lying_8 (⟨if_neg c_4, rfl, fun _ _ => rfl⟩) rfl

