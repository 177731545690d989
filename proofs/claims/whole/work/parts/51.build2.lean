/-! BUILDING: rows of rows, constructors' calls -/
theorem nd_of : ∀ {l : List Nat}, l.Nodup → va_nd l = true
  | [], _ => rfl
  | a :: l, h => by
    have h2 := List.nodup_cons.mp h
    simp [va_nd, h2.1, nd_of h2.2]
abbrev b_out (cy : Nat → ClassId) (N : Nat) (r : Nat → Nat) : va_E := .inl (cy 2, N, .inr (.inr (.inr (.inr (fun i => if i < N then some (r i) else none)))))
abbrev b_row (cy : Nat → ClassId) (K : Nat) : va_E := .inl (cy 0, K, .inl (fun _ => 0))
section HB2
variable {Γ : hG} {D : va_G} {cy : Nat → ClassId} {l : Launch} {nL : Nat} {cc : ByteArray} {Ts : List Cond} {own : String} {fr lc mc ms pc : Nat} {lo lo' : List (Nat × Value)} {st stk : List Value} {ws : va_W} {k j : Nat}
set_option maxHeartbeats 1000000 in
theorem z_mna (K : b_C Γ D cy l nL cc Ts own fr lc mc ms) {index : Nat} {n m : Int32} {N M : Nat} (hcl : Cond.classLink own index "[[I" ∈ Ts) (harr : Cond.arrayClass .int ∈ Ts) (hn : n = nI N) (hm : m = nI M) (hN : N < 1000) (hM : M < 1000) (hk : k + (1 + N) ≤ mc) (hj : j + (N + N * M) ≤ ms) (hdg : decode cc pc = .ok (.multianewarray index 2, 4)) (kk : ∀ (q : Nat) (r : Nat → Nat), b_WW Γ D (pc + 4) lo (.ref q :: st) (ws ++ ((q, b_out cy N r) :: (List.range N).map (fun i => (r i, b_row cy M)))) (k + 1 + N) (j + N + N * M)) : b_WW Γ D pc lo (.int m :: .int n :: st) ws k j := fun H locs ls a b c d => by
  subst hn; subst hm
  have hr0 : (g_s Γ).vm.findClass (FieldType.array FieldType.int).toString = some (cy 0) := (K.2.2.2.2.2.1.2 0 _ rfl).2
  refine va_mna (X := ws) (L := []) (f := fun _ => .inr (0, [])) (ty := .int) (cy := cy 0) (z := (M, .inl (fun _ => 0))) K.1 K.2.1 K.2.2.2.1 (K.2.2.2.2.1 _ hcl) K.2.2.2.2.2.2.2.2.2.2.2.2.2.2 (K.2.2.2.2.1 _ harr) hr0 K.2.2.2.2.2.1 (by simpa [va_pl] using a) (by simpa [va_pl] using b) c K.2.2.2.2.2.2.1 (nI_pos (by omega)) (nI_pos (by omega)) (nI_clamp (by omega)) (nI_clamp (by omega)) (by omega) (by show M * 4 ≤ _; omega) (by omega) rfl rfl (Nat.le_trans hk K.2.2.2.2.2.2.2.2.2.1) (Nat.le_trans hj K.2.2.2.2.2.2.2.2.2.2.1) (fun c => arrV_new c M _) hdg (fun q r cA H1 _ _ hK1 a1 b1 c1 => ?_)
  have e : cA = cy 2 := Option.some.inj ((show _ = some cA from (hK1.2 4 _ rfl).2).symm.trans (K.2.2.2.2.2.1.2 2 _ rfl).2)
  subst e
  have ew : ((ws ++ [(q, b_out cy N r)]) ++ va_pl ([] ++ (List.range N).map r) (vr_up (fun _ => .inr (0, [])) ((List.range N).map r) (.inl (cy 0, (M, .inl (fun _ => 0)))))) = ws ++ ((q, b_out cy N r) :: (List.range N).map (fun i => (r i, b_row cy M))) := by
    rw [List.append_assoc, List.nil_append]
    congr 1
    show _ :: _ = _
    congr 1
    show va_pl _ _ = _
    unfold va_pl
    rw [List.map_map]
    refine List.map_congr_left (fun i hi => ?_)
    show (r i, vr_up _ _ _ (r i)) = _
    rw [vr_up_in (List.mem_map.mpr ⟨i, hi, rfl⟩)]
  exact kk q r H1 locs ls (ew ▸ a1) (ew ▸ b1) c1 d
theorem b_places {wr : va_W} {x : Nat × va_E} : (List.range wr.length).map (fun i => (wr ++ [x])[i]?) = wr.map some := by
  apply List.ext_getElem?
  intro i
  rw [List.getElem?_map, List.getElem?_map]
  by_cases h : i < wr.length
  · rw [List.getElem?_range h, List.getElem?_eq_getElem h]
    simp [List.getElem?_append_left h]
  · rw [List.getElem?_eq_none (by simpa using h), List.getElem?_eq_none (by omega)]
    rfl
set_option maxHeartbeats 1000000 in
theorem z_callIN (K : b_C Γ D cy l nL cc Ts own fr lc mc ms) {y : MethodName} {wsy ws0 : List Cond} {fr' lc' mc' ms' maxL n index : Nat} {As : List Value} {bytes : ByteArray} {wr : va_W} {a0 : Nat} {e0 : va_E} {S : Type} {w1 : S → va_W} {host : String} (hM : b_Mv l y wsy fr' lc' mc' ms' D cy (.ref a0 :: As) [(a0, e0)] w1) (hG : GoodIn Ts wsy) (hm : (own, index, y, host) ∈ h_nM) (hini : Cond.initialized y.cls ∈ Ts) (him : Cond.instanceMethod y ∈ Ts) (hy : y.name = "<init>") (hd : y.cls ≠ "java/lang/invoke/MethodHandle" ∧ y.cls ≠ "java/lang/invoke/VarHandle" ∧ (parseMethodDescriptor y.desc).map (fun d => d.parameters.length) = some n) (hw : wsy = Cond.code y bytes maxL none :: ws0) (hfr : fr' + 1 ≤ fr) (hlc : 8 + (maxL + 11) + lc' ≤ lc) (hn : As.length = n) (hst : stk = As.reverse ++ .ref a0 :: st) (hW : (st.map fun v => v.category).sum ≤ 8) (hk : k + mc' ≤ mc) (hj : j + ms' ≤ ms) (hdg : decode cc pc = .ok (.invokespecial index, 3))
    (kk : ∀ q : S, b_WW Γ D (pc + 3) lo st (wr ++ w1 q) (k + mc') (j + ms')) : b_WW Γ D pc lo stk (wr ++ [(a0, e0)]) k j := fun H locs ls a b c d => by
  subst hst
  have hC : [wr.length].map (fun i => (wr ++ [(a0, e0)])[i]?) = [(a0, e0)].map some := by simp
  have hF := va_free (wc := [(a0, e0)]) b c K.2.2.2.2.2.2.1 [wr.length] hC
  have hPc : va_P D vwCl [(a0, e0)] H := a.sub [wr.length] (by simp)
  have hDc : va_D (g_A Γ) [(a0, e0)] := b.sub [wr.length] (nd_of (by simp)) hC
  have hM1 := hM H.size
  rw [← K.2.2.2.2.2.2.2.2.2.2.2.1] at hM1
  refine va_callv (va_runIN (As := As) (rest := st) ⟨K.1, K.2.1, K.2.2.1, K.2.2.2.1, K.2.2.2.2.1⟩ hM1 ⟨va_cnB n K.2.2.2.2.1 hG hw rfl rfl (K.2.2.2.2.2.2.2.2.2.2.2.2.2.1.2 _ hm) (K.2.2.2.2.1 _ hini) hd ⟨Nat.le_trans hfr K.2.2.2.2.2.2.2.1, Nat.le_trans hlc K.2.2.2.2.2.2.2.2.1⟩, hy, K.2.2.2.2.1 _ him⟩ ⟨b_blind, fun U hU hW => ⟨rfl, by rw [hU], by rw [hU]; exact hPc, va_K.moved hW.alike K.2.2.2.2.2.1, hDc.weaken (fun _ _ _ _ => trivial), h_N.warm hW K.2.2.2.2.2.2.2.2.2.2.2.2.2.1, va_AOA.moved hW.alike K.2.2.2.2.2.2.2.2.2.2.2.2.2.2⟩⟩ rfl hn d.1 rfl (lv_room hW) hdg ⟨Nat.le_trans hk K.2.2.2.2.2.2.2.2.2.1, Nat.le_trans hj K.2.2.2.2.2.2.2.2.2.2.1⟩) c (fun q _ h => hF q h) hF (fun u t H1 locs1 ht hvm hw1 hB hz1 hk1 hS => ?_)
  obtain ⟨hP1, hK1, hD1⟩ := hB
  rw [ht] at hP1
  obtain ⟨hP, hD⟩ := va_join (wr := wr) (w1 := w1 u) a b [wr.length] (List.range wr.length) hC b_places (nd_of List.nodup_range) (fun i hi h => by simp at hi h; omega) hk1 hF hP1 hD1
  exact kk u H1 locs1 ls hP hD hS d
set_option maxHeartbeats 1000000 in
theorem z_callI (K : b_C Γ D cy l nL cc Ts own fr lc mc ms) {y : MethodName} {wsy ws0 : List Cond} {fr' lc' mc' ms' maxL n index : Nat} {As : List Value} {bytes : ByteArray} {wr : va_W} {a0 : Nat} {e0 : va_E} {S : Type} {w1 : S → va_W} (hM : b_Mv l y wsy fr' lc' mc' ms' D cy (.ref a0 :: As) [(a0, e0)] w1) (hG : GoodIn Ts wsy) (hm : Cond.methodLink own index y ∈ Ts) (hini : Cond.initialized y.cls ∈ Ts) (him : Cond.instanceMethod y ∈ Ts) (hy : y.name = "<init>") (hd : y.cls ≠ "java/lang/invoke/MethodHandle" ∧ y.cls ≠ "java/lang/invoke/VarHandle" ∧ (parseMethodDescriptor y.desc).map (fun d => d.parameters.length) = some n) (hw : wsy = Cond.code y bytes maxL none :: ws0) (hfr : fr' + 1 ≤ fr) (hlc : 8 + (maxL + 11) + lc' ≤ lc) (hn : As.length = n) (hst : stk = As.reverse ++ .ref a0 :: st) (hW : (st.map fun v => v.category).sum ≤ 8) (hk : k + mc' ≤ mc) (hj : j + ms' ≤ ms) (hdg : decode cc pc = .ok (.invokespecial index, 3))
    (kk : ∀ q : S, b_WW Γ D (pc + 3) lo st (wr ++ w1 q) (k + mc') (j + ms')) : b_WW Γ D pc lo stk (wr ++ [(a0, e0)]) k j := fun H locs ls a b c d => by
  subst hst
  have hC : [wr.length].map (fun i => (wr ++ [(a0, e0)])[i]?) = [(a0, e0)].map some := by simp
  have hF := va_free (wc := [(a0, e0)]) b c K.2.2.2.2.2.2.1 [wr.length] hC
  have hPc : va_P D vwCl [(a0, e0)] H := a.sub [wr.length] (by simp)
  have hDc : va_D (g_A Γ) [(a0, e0)] := b.sub [wr.length] (nd_of (by simp)) hC
  have hM1 := hM H.size
  rw [← K.2.2.2.2.2.2.2.2.2.2.2.1] at hM1
  refine va_callv (va_runI (As := As) (rest := st) ⟨K.1, K.2.1, K.2.2.1, K.2.2.2.1, K.2.2.2.2.1⟩ hM1 (cwI n K.2.2.2.2.1 hG hw rfl rfl (K.2.2.2.2.1 _ hini) (K.2.2.2.2.1 _ hm) (K.2.2.2.2.1 _ him) hy hd ⟨Nat.le_trans hfr K.2.2.2.2.2.2.2.1, Nat.le_trans hlc K.2.2.2.2.2.2.2.2.1⟩) ⟨b_blind, fun U hU hW => ⟨rfl, by rw [hU], by rw [hU]; exact hPc, va_K.moved hW.alike K.2.2.2.2.2.1, hDc.weaken (fun _ _ _ _ => trivial), h_N.warm hW K.2.2.2.2.2.2.2.2.2.2.2.2.2.1, va_AOA.moved hW.alike K.2.2.2.2.2.2.2.2.2.2.2.2.2.2⟩⟩ rfl hn d.1 rfl (lv_room hW) hdg ⟨Nat.le_trans hk K.2.2.2.2.2.2.2.2.2.1, Nat.le_trans hj K.2.2.2.2.2.2.2.2.2.2.1⟩) c (fun q _ h => hF q h) hF (fun u t H1 locs1 ht hvm hw1 hB hz1 hk1 hS => ?_)
  obtain ⟨hP1, hK1, hD1⟩ := hB
  rw [ht] at hP1
  obtain ⟨hP, hD⟩ := va_join (wr := wr) (w1 := w1 u) a b [wr.length] (List.range wr.length) hC b_places (nd_of List.nodup_range) (fun i hi h => by simp at hi h; omega) hk1 hF hP1 hD1
  exact kk u H1 locs1 ls hP hD hS d
theorem z_ws {ws' : va_W} (h : ws = ws') (kk : b_WW Γ D pc lo st ws' k j) : b_WW Γ D pc lo st ws k j := h ▸ kk
end HB2
