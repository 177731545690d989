/-! lying: the sets of one size in their order, found by both -/
theorem fst_cb {P Q : Nat → Prop} [DecidablePred P] [DecidablePred Q] : ∀ (d k : Nat), (∀ p, k ≤ p → p < k + d → (P p ↔ Q p)) → fstI P k d = fstI Q k d
  | 0, _, _ => rfl
  | d + 1, k, h => by
    unfold fstI
    have e := h k (by omega) (by omega)
    by_cases q : P k
    · rw [if_pos q, if_pos (e.mp q)]
    · rw [if_neg q, if_neg (mt e.mpr q), fst_cb d (k + 1) (fun p h1 h2 => h p (by omega) (by omega))]
theorem fst_no {P : Nat → Prop} [DecidablePred P] : ∀ (d k : Nat), (∀ p, k ≤ p → p < k + d → ¬ P p) → fstI P k d = -5
  | 0, _, _ => rfl
  | d + 1, k, h => by
    unfold fstI
    rw [if_neg (h k (by omega) (by omega)), fst_no d (k + 1) (fun p h1 h2 => h p (by omega) (by omega))]
theorem fst_ct {P : Nat → Prop} [DecidablePred P] {e : Nat} : ∀ (d k : Nat), (∀ p, k + d ≤ p → p < k + d + e → ¬ P p) → fstI P k (d + e) = fstI P k d
  | 0, k, h => by rw [Nat.zero_add]; exact fst_no e k (fun p h1 h2 => h p (by omega) (by omega))
  | d + 1, k, h => by
    rw [show d + 1 + e = (d + e) + 1 by omega]
    unfold fstI
    rw [fst_ct d (k + 1) (fun p h1 h2 => h p (by omega) (by omega))]
theorem fst_val {P : Nat → Prop} [DecidablePred P] : ∀ (d k : Nat), fstI P k d = -5 ∨ ∃ j, k ≤ j ∧ j < k + d ∧ P j ∧ fstI P k d = nI j
  | 0, _ => Or.inl rfl
  | d + 1, k => by
    unfold fstI
    by_cases q : P k
    · rw [if_pos q]; exact Or.inr ⟨k, by omega, by omega, q, rfl⟩
    · rw [if_neg q]
      rcases fst_val (P := P) d (k + 1) with h | ⟨j, h1, h2, h3, h4⟩
      · exact Or.inl h
      · exact Or.inr ⟨j, by omega, by omega, h3, h4⟩
theorem fst_neg {P : Nat → Prop} [DecidablePred P] {d k : Nat} (h31 : k + d < 2 ^ 31) : fstI P k d = -5 ↔ ¬ 0 ≤ fstI P k d := by
  rcases fst_val (P := P) d k with h | ⟨j, h1, h2, h3, h4⟩
  · rw [h]; exact ⟨fun _ => by decide, fun _ => rfl⟩
  · rw [h4]
    exact ⟨fun q => absurd q (nI_ne5 (by omega)), fun q => absurd (nI_pos' (by omega)) q⟩
section OFF
variable {I : hI} {n s kd : Nat}
theorem off0_e {p : Nat} (hR : PlR I n) (hs : s < 2 ^ n) (hk : kd < 3) (hp : p < n) : offP (atC I) kd (nI s) 0 p = offW I n kd (nI s) p 0 := by
  obtain ⟨w0, w1, w2, w3, -⟩ := MW_Wy hR hs hk
  have a0 := (hR.2 p hp 0 (by decide)).1
  have a1 := (hR.2 p hp 1 (by decide)).1
  have a2 := (hR.2 p hp 2 (by decide)).1
  rw [Nat.add_zero] at a0
  unfold offP offW
  rw [if_pos rfl, w0, w1, w2, w3, a0, a1, a2]
  rfl
theorem off1_e {p : Nat} (hR : PlR I n) (hs : s < 2 ^ n) (hk : kd < 3) (hp : p < n) : offP (atC I) kd (nI s) 1 p = offW I n kd (nI s) p 1 := by
  obtain ⟨-, -, -, -, w0, w1, w2, w3⟩ := MW_Wy hR hs hk
  have a0 := (hR.2 p hp 0 (by decide)).1
  have a1 := (hR.2 p hp 1 (by decide)).1
  have a3 := (hR.2 p hp 3 (by decide)).1
  rw [Nat.add_zero] at a0
  unfold offP offW
  rw [if_neg (by decide), w0, w1, w2, w3, a0, a1, a3]
  rfl
theorem fb_e (hR : PlR I n) (hs : s < 2 ^ n) (hk : kd < 3) (hl : I 0 5 = I 76 8) : fbP (atC I) kd (nI s) (I 0 5) = fbW I n kd (nI s) := by
  obtain ⟨-, -, -, w3, -, -, -, v3⟩ := MW_Wy hR hs hk
  obtain ⟨d, hd⟩ : ∃ d, 12 = n + d := ⟨12 - n, by have := hR.1; omega⟩
  unfold fbP fbW
  rw [hd, fst_ct n 0 (fun p h1 h2 q => bit_ge hs hR.1 (by omega) (by omega) q.1)]
  refine fst_cb n 0 (fun p _ hp => ?_)
  have hp : p < n := by omega
  unfold farP bW
  rw [off0_e hR hs hk hp, off1_e hR hs hk hp, ng_ab, ng_ab, w3, v3, hl, Int64.not_le, Int64.not_le]
theorem agr_e (hR : PlR I n) (hs : s < 2 ^ n) (hk : kd < 3) (hl : I 0 5 = I 76 8) : agr (atC I) kd (nI s) (I 0 5) ↔ okM I n kd (nI s) ∧ ¬ 0 ≤ fbW I n kd (nI s) := by
  unfold agr
  rw [ok_ok hR hs, fb_e hR hs hk hl]
  have h := fst_neg (P := fun p => bitOn (nI s) p ∧ bW I n kd (nI s) p) (d := n) (k := 0) (by have := hR.1; omega)
  exact and_congr_right (fun _ => h)
end OFF
def pcN (x : Nat) : Nat := x % 2 + x / 2 % 2 + x / 4 % 2 + x / 8 % 2 + x / 16 % 2 + x / 32 % 2 + x / 64 % 2 + x / 128 % 2 + x / 256 % 2 + x / 512 % 2 + x / 1024 % 2 + x / 2048 % 2
theorem mof_pc : ∀ s, s < 4096 → mof (nI s) = nI (pcN s) := all_4096 (by decide +kernel)
theorem pc_0 : ∀ s, s < 4096 → pcN s = 0 → s = 0 := all_4096 (by decide +kernel)
theorem pc_le (s : Nat) : pcN s ≤ 12 := by unfold pcN; omega
theorem mof_iff {s m : Nat} (hs : s < 4096) (hm : m < 13) : mof (nI s) = nI m ↔ pcN s = m := by
  have := pc_le s
  rw [mof_pc s hs, nI_eq (by omega) (by omega)]
def sets1 : List Nat := [1, 2, 4, 8, 16, 32, 64, 128, 256, 512, 1024, 2048]
def sets2 : List Nat := [3, 5, 6, 9, 10, 12, 17, 18, 20, 24, 33, 34, 36, 40, 48, 65, 66, 68, 72, 80, 96, 129, 130, 132, 136, 144, 160, 192, 257, 258, 260, 264, 272, 288, 320, 384, 513, 514, 516, 520, 528, 544, 576, 640, 768, 1025, 1026, 1028, 1032, 1040, 1056, 1088, 1152, 1280, 1536, 2049, 2050, 2052, 2056, 2064, 2080, 2112, 2176, 2304, 2560, 3072]
def sets3 : List Nat := [7, 11, 13, 14, 19, 21, 22, 25, 26, 28, 35, 37, 38, 41, 42, 44, 49, 50, 52, 56, 67, 69, 70, 73, 74, 76, 81, 82, 84, 88, 97, 98, 100, 104, 112, 131, 133, 134, 137, 138, 140, 145, 146, 148, 152, 161, 162, 164, 168, 176, 193, 194, 196, 200, 208, 224, 259, 261, 262, 265, 266, 268, 273, 274, 276, 280, 289, 290, 292, 296, 304, 321, 322, 324, 328, 336, 352, 385, 386, 388, 392, 400, 416, 448, 515, 517, 518, 521, 522, 524, 529, 530, 532, 536, 545, 546, 548, 552, 560, 577, 578, 580, 584, 592, 608, 641, 642, 644, 648, 656, 672, 704, 769, 770, 772, 776, 784, 800, 832, 896, 1027, 1029, 1030, 1033, 1034, 1036, 1041, 1042, 1044, 1048, 1057, 1058, 1060, 1064, 1072, 1089, 1090, 1092, 1096, 1104, 1120, 1153, 1154, 1156, 1160, 1168, 1184, 1216, 1281, 1282, 1284, 1288, 1296, 1312, 1344, 1408, 1537, 1538, 1540, 1544, 1552, 1568, 1600, 1664, 1792, 2051, 2053, 2054, 2057, 2058, 2060, 2065, 2066, 2068, 2072, 2081, 2082, 2084, 2088, 2096, 2113, 2114, 2116, 2120, 2128, 2144, 2177, 2178, 2180, 2184, 2192, 2208, 2240, 2305, 2306, 2308, 2312, 2320, 2336, 2368, 2432, 2561, 2562, 2564, 2568, 2576, 2592, 2624, 2688, 2816, 3073, 3074, 3076, 3080, 3088, 3104, 3136, 3200, 3328, 3584]
def chk : List Nat → Bool
  | [] => true
  | [_] => true
  | x :: y :: r => decide (nxS (nI x) = nI y) && chk (y :: r)
/-- the sets of m POINTS in their order, all of them -/
abbrev setsOk (L : List Nat) (m : Nat) : Prop := L.Pairwise (· < ·) ∧ (∀ y ∈ L, y < 4096 ∧ pcN y = m) ∧ ∀ x, x < 4096 → pcN x = m → x ∈ L
theorem sets_0 : setsOk [0] 0 := ⟨by decide +kernel, by decide +kernel, all_4096 (by decide +kernel)⟩
theorem sets_1 : setsOk sets1 1 := ⟨by decide +kernel, by decide +kernel, all_4096 (by decide +kernel)⟩
theorem sets_2 : setsOk sets2 2 := ⟨by decide +kernel, by decide +kernel, all_4096 (by decide +kernel)⟩
theorem sets_3 : setsOk sets3 3 := ⟨by decide +kernel, by decide +kernel, all_4096 (by decide +kernel)⟩
/-- the class walks them from the empty one through all of three -/
theorem sets_chk : chk (0 :: (sets1 ++ (sets2 ++ sets3))) = true := by decide +kernel
theorem sets_len : (sets1 ++ (sets2 ++ sets3)).length + 1 = 299 := by decide +kernel
def ff (P : Nat → Prop) [DecidablePred P] : List Nat → Int32
  | [] => -5
  | x :: r => if P x then nI x else ff P r
theorem ff_c {P Q : Nat → Prop} [DecidablePred P] [DecidablePred Q] : ∀ (L : List Nat), (∀ y ∈ L, P y ↔ Q y) → ff P L = ff Q L
  | [], _ => rfl
  | x :: r, h => by
    unfold ff
    have e := h x List.mem_cons_self
    rw [ff_c r (fun y hy => h y (List.mem_cons_of_mem _ hy))]
    by_cases q : P x
    · rw [if_pos q, if_pos (e.mp q)]
    · rw [if_neg q, if_neg (mt e.mpr q)]
theorem ff_ap {P : Nat → Prop} [DecidablePred P] : ∀ (L M : List Nat), (∀ y ∈ L, y < 4096) → ff P (L ++ M) = if ff P L = -5 then ff P M else ff P L
  | [], M, _ => by
    show ff P M = if (-5 : Int32) = -5 then ff P M else -5
    rw [if_pos rfl]
  | x :: r, M, h => by
    show (if P x then nI x else ff P (r ++ M)) = if (if P x then nI x else ff P r) = -5 then ff P M else (if P x then nI x else ff P r)
    by_cases q : P x
    · rw [if_pos q, if_pos q, if_neg (nI_ne5 (by have := h x List.mem_cons_self; omega))]
    · rw [if_neg q, if_neg q]
      exact ff_ap r M (fun y hy => h y (List.mem_cons_of_mem _ hy))
theorem ls_ff {A : Int32 → Prop} [DecidablePred A] {cb : Nat} : ∀ (L : List Nat) (f x : Nat), chk (x :: L) = true → L.length + 1 = f → lsN A (nI cb) f (nI x) = ff (fun y => nI y &&& (nI cb ^^^ -1) = 0 ∧ A (nI y)) (x :: L)
  | L, 0, x, _, hf => absurd hf (by omega)
  | L, f + 1, x, hk, hf => by
    unfold lsN ff
    by_cases r : nI x &&& (nI cb ^^^ -1) = 0 ∧ A (nI x)
    · rw [if_pos r, if_pos r]
    · rw [if_neg r, if_neg r]
      match L, hk, hf with
      | [], _, hf =>
        have h0 : f = 0 := by simp only [List.length_nil] at hf; omega
        subst h0
        rfl
      | y :: r', hk, hf =>
        have h1 := Bool.and_eq_true_iff.mp hk
        rw [of_decide_eq_true h1.1]
        exact ls_ff r' f y h1.2 (by simp only [List.length_cons] at hf; omega)
theorem fst_ff {P Q : Nat → Prop} [DecidablePred P] (hPQ : ∀ x, x < 4096 → P x → Q x) : ∀ (d k : Nat) (L : List Nat), k + d = 4096 → L.Pairwise (· < ·) → (∀ y ∈ L, k ≤ y ∧ y < 4096) → (∀ y, k ≤ y → y < 4096 → Q y → y ∈ L) → fstI P k d = ff P L
  | 0, k, [], _, _, _, _ => rfl
  | 0, k, x :: r, h, _, h2, _ => absurd (h2 x List.mem_cons_self) (by omega)
  | d + 1, k, [], h, h1, h2, h3 => by
    unfold fstI
    rw [if_neg (fun p => nomatch h3 k (by omega) (by omega) (hPQ k (by omega) p)), fst_ff hPQ d (k + 1) [] (by omega) h1 (fun y hy => nomatch hy) (fun y a b c => nomatch h3 y (by omega) b c)]
  | d + 1, k, x :: r, h, h1, h2, h3 => by
    have hp := List.pairwise_cons.mp h1
    have hx := h2 x List.mem_cons_self
    by_cases e : x = k
    · subst e
      unfold fstI
      conv => rhs; unfold ff
      rw [fst_ff hPQ d (x + 1) r (by omega) hp.2 (fun y hy => ⟨hp.1 y hy, (h2 y (List.mem_cons_of_mem _ hy)).2⟩) (fun y a b c => by
        rcases List.mem_cons.mp (h3 y (by omega) b c) with q | q
        · omega
        · exact q)]
    · have hn : ¬ P k := fun p => by
        rcases List.mem_cons.mp (h3 k (by omega) (by omega) (hPQ k (by omega) p)) with q | q
        · exact e q.symm
        · have := hp.1 k q; omega
      have hge : ∀ y ∈ x :: r, k + 1 ≤ y ∧ y < 4096 := fun y hy => by
        refine ⟨?_, (h2 y hy).2⟩
        rcases List.mem_cons.mp hy with q | q
        · omega
        · have := hp.1 y q; omega
      unfold fstI
      rw [if_neg hn]
      exact fst_ff hPQ d (k + 1) (x :: r) (by omega) h1 hge (fun y a b c => h3 y (by omega) b c)
theorem sub_le {p s : Nat} (hp : p < 4096) (h : nI p &&& (nI s ^^^ -1) = 0) : p ≤ s := by
  rw [and_not, ← nI_0, nI_eq (by have := dif_le p s; omega) (by decide)] at h
  have e : p &&& s = p := by
    refine tb_inj (Nat.lt_of_le_of_lt Nat.and_le_left hp) hp (fun i hi => ?_)
    have t := dif_tb p s (i := i) (by omega)
    rw [h, Nat.zero_testBit] at t
    rw [Nat.testBit_and]
    cases hq : p.testBit i <;> cases hr : s.testBit i <;> simp_all
  exact Nat.le_trans (Nat.le_of_eq e.symm) Nat.and_le_right
theorem find_e {A : Int32 → Prop} [DecidablePred A] {P : Nat → Prop} [DecidablePred P] {s m : Nat} {L : List Nat} (hs : s < 4096) (hP : ∀ x, x < 4096 → (P x ↔ pcN x = m ∧ nI x &&& (nI s ^^^ -1) = 0 ∧ A (nI x))) (hl : setsOk L m) : fstI P 0 (s + 1) = ff (fun y => nI y &&& (nI s ^^^ -1) = 0 ∧ A (nI y)) L := by
  obtain ⟨l4, l5, l6⟩ := hl
  have e0 : fstI P 0 (s + 1 + (4095 - s)) = fstI P 0 (s + 1) := fst_ct (s + 1) 0 (fun p h1 h2 q => by
    have := sub_le (by omega) ((hP p (by omega)).mp q).2.1
    omega)
  rw [← e0, fst_ff (Q := fun x => pcN x = m) (fun x hx hp => ((hP x hx).mp hp).1) (s + 1 + (4095 - s)) 0 L (by omega) l4 (fun y hy => ⟨Nat.zero_le y, (l5 y hy).1⟩) (fun y _ h2 h3 => l6 y h2 h3)]
  refine ff_c L (fun y hy => ?_)
  have h := l5 y hy
  rw [hP y h.1]
  exact ⟨fun q => q.2, fun q => ⟨h.2, q⟩⟩
section LY
variable {I : hI} {n s kd : Nat}
theorem dif_lt {a b : Nat} (h : a < 2 ^ n) : dif a b < 2 ^ n := Nat.lt_of_le_of_lt (dif_le a b) h
theorem PM_e {m x : Nat} (hR : PlR I n) (hs : s < 2 ^ n) (hk : kd < 3) (hl : I 0 5 = I 76 8) (hm : m < 13) (hx : x < 4096) : PMl I n kd s m x ↔ pcN x = m ∧ nI x &&& (nI s ^^^ -1) = 0 ∧ agr (atC I) kd (nI s &&& (nI x ^^^ -1)) (I 0 5) := by
  unfold PMl
  rw [mof_iff hx hm]
  rw [and_not s x, agr_e hR (dif_lt hs) hk hl]
  exact ⟨fun ⟨a, b, c⟩ => ⟨b, a, c⟩, fun ⟨b, a, c⟩ => ⟨a, b, c⟩⟩
/-- without the set y the others agree -/
abbrev lyP (I : hI) (kd s : Nat) : Nat → Prop := fun y => nI y &&& (nI s ^^^ -1) = 0 ∧ agr (atC I) kd (nI s &&& (nI y ^^^ -1)) (I 0 5)
theorem F_e {m : Nat} {L : List Nat} (hR : PlR I n) (hs : s < 2 ^ n) (hk : kd < 3) (hl : I 0 5 = I 76 8) (hm : m < 13) (hL : setsOk L m) : FMl I n kd s m = ff (lyP I kd s) L := by
  have h4 := pow12 hs hR.1
  unfold FMl
  exact find_e (A := fun S => agr (atC I) kd (nI s &&& (S ^^^ -1)) (I 0 5)) h4 (fun x hx => PM_e hR hs hk hl hm hx) hL
theorem ls_e : lsN (fun S => agr (atC I) kd (nI s &&& (S ^^^ -1)) (I 0 5)) (nI s) 299 0 = if ff (lyP I kd s) [0] = -5 then (if ff (lyP I kd s) sets1 = -5 then (if ff (lyP I kd s) sets2 = -5 then ff (lyP I kd s) sets3 else ff (lyP I kd s) sets2) else ff (lyP I kd s) sets1) else ff (lyP I kd s) [0] := by
  have e := ls_ff (A := fun S => agr (atC I) kd (nI s &&& (S ^^^ -1)) (I 0 5)) (cb := s) (sets1 ++ (sets2 ++ sets3)) 299 0 sets_chk sets_len
  rw [nI_0] at e
  rw [← ff_ap sets2 sets3 (fun y hy => (sets_2.2.1 y hy).1), ← ff_ap sets1 (sets2 ++ sets3) (fun y hy => (sets_1.2.1 y hy).1), ← ff_ap [0] (sets1 ++ (sets2 ++ sets3)) (fun y hy => (sets_0.2.1 y hy).1)]
  exact e
theorem ly_e {k : Int32} (hR : PlR I n) (hs : s < 2 ^ n) (hl : I 0 5 = I 76 8) : lyK (atC I) k (nI s) (I 0 5) = lyM I n s k := by
  unfold lyK lyM
  by_cases h : isKd k
  · rw [if_pos h, if_pos h]
    obtain ⟨kd, hk, rfl⟩ := kd_of h
    have ec : (nI kd).toNatClampNeg = kd := nI_clamp (by omega)
    show lyC (atC I) (nI kd).toNatClampNeg (nI s) (I 0 5) = if okM I n (nI kd).toNatClampNeg (nI s) then lyF (FMl I n (nI kd).toNatClampNeg s) 4 0 else -3
    rw [ec]
    unfold lyC
    by_cases ho : okM I n kd (nI s)
    · rw [if_pos ho, if_pos ((ok_ok hR hs).mp ho), ls_e]
      unfold lyF lyF lyF lyF lyF
      rw [F_e hR hs hk hl (by decide) sets_0, F_e hR hs hk hl (by decide) sets_1, F_e hR hs hk hl (by decide) sets_2, F_e hR hs hk hl (by decide) sets_3]
      by_cases h0 : ff (lyP I kd s) [0] = -5
      · rw [if_pos h0, if_pos h0]
        by_cases h1 : ff (lyP I kd s) sets1 = -5
        · rw [if_pos h1, if_pos h1]
          by_cases h2 : ff (lyP I kd s) sets2 = -5
          · rw [if_pos h2, if_pos h2]
            by_cases h3 : ff (lyP I kd s) sets3 = -5
            · rw [if_pos h3]; exact h3
            · rw [if_neg h3]
          · rw [if_neg h2, if_neg h2]
        · rw [if_neg h1, if_neg h1]
      · rw [if_neg h0, if_neg h0]
    · rw [if_neg ho, if_neg (mt (ok_ok hR hs).mpr ho)]
  · rw [if_neg h, if_neg h]
theorem ly_val {k : Int32} (hs : s < 4096) : lyM I n s k = -1 ∨ lyM I n s k = -3 ∨ lyM I n s k = -5 ∨ ∃ o, o ≤ s ∧ lyM I n s k = nI o := by
  have hF : ∀ kd m, FMl I n kd s m = -5 ∨ ∃ o, o ≤ s ∧ FMl I n kd s m = nI o := fun kd m => by
    unfold FMl
    rcases fst_val (P := PMl I n kd s m) (s + 1) 0 with h | ⟨j, h1, h2, h3, h4⟩
    · exact Or.inl h
    · exact Or.inr ⟨j, by omega, h4⟩
  have hL : ∀ kd d m, lyF (FMl I n kd s) d m = -5 ∨ ∃ o, o ≤ s ∧ lyF (FMl I n kd s) d m = nI o := by
    intro kd d
    induction d with
    | zero => intro m; exact Or.inl rfl
    | succ d ih =>
      intro m
      unfold lyF
      by_cases q : FMl I n kd s m = -5
      · rw [if_pos q]; exact ih (m + 1)
      · rw [if_neg q]; exact hF kd m
  unfold lyM
  by_cases h : isKd k
  · rw [if_pos h]
    by_cases h2 : okM I n (tn k) (nI s)
    · rw [if_pos h2]
      rcases hL (tn k) 4 0 with q | q
      · exact Or.inr (Or.inr (Or.inl q))
      · exact Or.inr (Or.inr (Or.inr q))
    · rw [if_neg h2]; exact Or.inr (Or.inl rfl)
  · rw [if_neg h]; exact Or.inl rfl
end LY
