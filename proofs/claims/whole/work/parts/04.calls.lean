/-! CONTRACTS over the static heap, their entry, and calls -/
def h_A (G : hQ) (sz : Nat) : Nat → Prop := fun q => (∃ k : Nat, k < 91 ∧ q = G.2.2 k) ∨ sz ≤ q
def h_Pre (G : hQ) (I : hI) (J : hJ) (sz : Nat) : State → Prop := fun U => U.heap.size = sz ∧ va_P G.1 vwCl (h_W G I J) U.heap ∧ va_K G.1 vwCl (h_ty G) U ∧ va_D (fun _ => True) (h_W G I J) ∧ h_N U
def h_B (G : hQ) (A : Nat → Prop) (u : hI × hJ) (t : State) : Prop := va_P G.1 vwCl (h_W G u.1 u.2) t.heap ∧ va_K G.1 vwCl (h_ty G) t ∧ va_D A (h_W G u.1 u.2)
abbrev h_rm (fr lc : Nat) : Room := { frames := fr, cells := 0, slots := 0, locals := lc }
def h_Mi (l : Launch) (y : MethodName) (ws : List Cond) (fr lc : Nat) (G : hQ) (avs : List Value) (I : hI) (J : hJ) (post : Int32 → hI → hJ → Prop) : Prop := ∀ sz : Nat, Met l y ws (h_rm fr lc) (va_Pc avs (h_Pre G I J sz)) (va_Qi (fun r (u : hI × hJ) => post r u.1 u.2) (h_B G (h_A G sz)) (h_A G sz)) 0 0 (h_A G sz)
def h_Ml (l : Launch) (y : MethodName) (ws : List Cond) (fr lc : Nat) (G : hQ) (avs : List Value) (I : hI) (J : hJ) (post : Int64 → hI → hJ → Prop) : Prop := ∀ sz : Nat, Met l y ws (h_rm fr lc) (va_Pc avs (h_Pre G I J sz)) (va_Ql (fun r (u : hI × hJ) => post r u.1 u.2) (h_B G (h_A G sz)) (h_A G sz)) 0 0 (h_A G sz)
def h_Mv (l : Launch) (y : MethodName) (ws : List Cond) (fr lc : Nat) (G : hQ) (avs : List Value) (I : hI) (J : hJ) (post : hI → hJ → Prop) : Prop := ∀ sz : Nat, Met l y ws (h_rm fr lc) (va_Pc avs (h_Pre G I J sz)) (va_Qv (fun (u : hI × hJ) => post u.1 u.2) (h_B G (h_A G sz)) (h_A G sz)) 0 0 (h_A G sz)
def h_Mr (l : Launch) (y : MethodName) (ws : List Cond) (fr lc : Nat) (G : hQ) (avs : List Value) (I : hI) (J : hJ) (post : Nat → hI → hJ → Prop) : Prop := ∀ sz : Nat, Met l y ws (h_rm fr lc) (va_Pc avs (h_Pre G I J sz)) (va_Qr (fun (u : Nat × hI × hJ) => post u.1 u.2.1 u.2.2) (fun u a t => a = G.2.2 u.1 ∧ h_B G (h_A G sz) u.2 t) (h_A G sz)) 0 0 (h_A G sz)
theorem h_A_of {G : hQ} {I : hI} {J : hJ} {A : Nat → Prop} {H0 H : Heap} {locs : List Loc} (hD : va_D A (h_W G I J)) (hS : va_S A H0 H locs) (hA : ∀ q, H0.size ≤ q → A q) : ∀ q, h_A G H.size q → A q := by
  intro q h
  rcases h with ⟨k, hk, rfl⟩ | h
  · exact hD.2 k _ (h_W_at hk)
  · exact hA q (Nat.le_trans hS.1 h)
theorem h_D_A {G : hQ} {I : hI} {J : hJ} {A : Nat → Prop} {sz : Nat} (hD : va_D A (h_W G I J)) : va_D (h_A G sz) (h_W G I J) := by
  refine ⟨hD.1, fun k q hk => ?_⟩
  have hl : k < 91 := by
    have := (List.getElem?_eq_some_iff.mp hk).1
    simpa [h_W] using this
  rw [h_W_at hl] at hk
  cases hk
  exact Or.inl ⟨k, hl, rfl⟩
theorem h_blind {G : hQ} {I : hI} {J : hJ} {sz : Nat} {avs : List Value} : FrameBlind (va_Pc avs (h_Pre G I J sz)) := fun a U g mk q => by
  obtain ⟨q0, q1, qP, qK, qD, qN⟩ := q
  exact ⟨q0, q1, qP, va_K.moved (u := U) (U := U.calling g mk a) (Vm.Alike.refl U.vm) qK, qD, h_N.same (s := U) (U := U.calling g mk a) rfl qN⟩

/-- Met.ofW for a method that is itself plain, though its class may not be (java/lang/Math) -/
theorem h_ofWF {l : Launch} {y : MethodName} {ws ws' : List Cond} {rm : Room} {Pc : Array Value → State → Prop} {Qc : Array Value → State → Outcome → State → Prop} {mc ms : Nat} {free : Addr → Prop} {cc : ByteArray} {maxL : Nat} {ret : Option FieldType}
    (hy : plainFor y = true) (hw : ws = Cond.code y cc maxL ret :: ws')
    (body : ∀ p e s m args below meth c s₁, BodyLoose p l y (headSpec ws rm) cc maxL ret e s m args below meth c s₁ → c.maxLocals = maxL → Pc args s →
      W p l e (headSpec ws rm).room s m args below meth c s.heap [] 0 0 (MQ below Qc args s mc ms free) (entryFrame m args maxL)) : Met l y ws rm Pc Qc mc ms free := by
  refine MetFree.of_bodySF (code := cc) (maxLocals := maxL) (ret := ret) hy ?_ ?_
  · intro args s m h hn
    obtain ⟨meth, c, h1, h2, h3, h4, h5, h6, -, -⟩ := Cond.code_spec hn (atoms_spec (ws := ws) h _ (by rw [hw]; exact List.mem_cons_self))
    exact ⟨meth, c, h1, h2, h3, h4, h5, h6⟩
  · intro p e s m args below meth c s₁ B hml hP _
    have hh0 : s₁.heap = s.heap := by rw [B.state]; rfl
    obtain ⟨t, a1, o, b1, b2, b3⟩ := body p e s m args below meth c s₁ B hml hP s₁ hh0 (Stand.of_body B)
    exact ⟨t, o, a1, b1, b2, ⟨b3.1, b3.2⟩⟩
set_option maxHeartbeats 1000000 in
theorem h_Mi.of {l : Launch} {y : MethodName} {ws ws' : List Cond} {fr lc : Nat} {G : hQ} {avs : List Value} {I : hI} {J : hJ} {post : Int32 → hI → hJ → Prop} {cc : ByteArray} {maxL : Nat} {ty : FieldType} (lo0 : List (Nat × Value)) (hy : plainFor y = true) (hw : ws = Cond.code y cc maxL (some ty) :: ws') (hlen : (lg_sl avs).length ≤ maxL) (hlo : lv_args 0 avs = lo0)
    (k : ∀ Γ : hG, h_C Γ G l maxL cc ws y.cls fr lc → (∀ {pc : Nat} {lo : List (Nat × Value)} {r : Int32} {I' : hI} {J' : hJ}, decode cc pc = .ok (.ireturn, 1) → post r I' J' → narrow ty (.int r) = .int r → h_WW Γ G pc lo [.int r] I' J') → h_WW Γ G 0 lo0 [] I J) : h_Mi l y ws fr lc G avs I J post := by
  intro sz
  refine h_ofWF (cc := cc) (maxL := maxL) (ret := some ty) hy hw ?_
  intro p e s m args below meth c s₁ B hml hv
  obtain ⟨rfl, hsz, hP, hK, hD0, hNw⟩ := hv
  have hown : s.vm.findClass y.cls = some m.cls := findClass_of_methodNamed B.named
  subst hsz
  have hD : va_D (h_A G s.heap.size) (h_W G I J) := h_D_A hD0
  have hA : ∀ q : Nat, s.heap.size ≤ q → h_A G s.heap.size q := fun q h => Or.inr h
  have hl := lv_entry avs (n := maxL) hlen
  rw [hlo] at hl
  rw [lg_entry_eq]
  generalize (lg_sl avs ++ List.replicate (maxL - (lg_sl avs).length) Slot.unset).toArray = ls at hl ⊢
  have hr := B.returns
  have hlk := B.notSynchronized
  generalize hqe : MQ below _ avs.toArray s 0 0 (h_A G s.heap.size) = Q
  have key := k (p, l, e, h_rm fr lc, s, m, avs.toArray, below, meth, c, Q, h_A G s.heap.size, maxL, 0, 0) ⟨B.exec, B.bytes, hml, hown, atoms_spec (ws := ws) B.pre, hK, hA, Nat.le_refl _, Nat.le_refl _, Nat.le_refl _, Nat.le_refl _, rfl, rfl, hNw⟩ ?_
  · exact key s.heap [] ls hP hD va_S.rf hl
  · intro pc lo r I' J' hdg hp hn H locs ls2 a b c2 d
    subst hqe
    exact W.zret (v := r) B.exec B.bytes hr hn (fun t ht hW => ⟨⟨r, (I', J'), rfl, hp, by rw [ht]; exact a, va_K.moved hW.alike hK, b⟩, c2.F ht⟩) c2.2.2 hdg hlk
set_option maxHeartbeats 1000000 in
theorem h_Ml.of {l : Launch} {y : MethodName} {ws ws' : List Cond} {fr lc : Nat} {G : hQ} {avs : List Value} {I : hI} {J : hJ} {post : Int64 → hI → hJ → Prop} {cc : ByteArray} {maxL : Nat} (lo0 : List (Nat × Value)) (hy : plainFor y = true) (hw : ws = Cond.code y cc maxL (some .long) :: ws') (hlen : (lg_sl avs).length ≤ maxL) (hlo : lv_args 0 avs = lo0)
    (k : ∀ Γ : hG, h_C Γ G l maxL cc ws y.cls fr lc → (∀ {pc : Nat} {lo : List (Nat × Value)} {r : Int64} {I' : hI} {J' : hJ}, decode cc pc = .ok (.lreturn, 1) → post r I' J' → h_WW Γ G pc lo [.long r] I' J') → h_WW Γ G 0 lo0 [] I J) : h_Ml l y ws fr lc G avs I J post := by
  intro sz
  refine h_ofWF (cc := cc) (maxL := maxL) (ret := some .long) hy hw ?_
  intro p e s m args below meth c s₁ B hml hv
  obtain ⟨rfl, hsz, hP, hK, hD0, hNw⟩ := hv
  have hown : s.vm.findClass y.cls = some m.cls := findClass_of_methodNamed B.named
  subst hsz
  have hD : va_D (h_A G s.heap.size) (h_W G I J) := h_D_A hD0
  have hA : ∀ q : Nat, s.heap.size ≤ q → h_A G s.heap.size q := fun q h => Or.inr h
  have hl := lv_entry avs (n := maxL) hlen
  rw [hlo] at hl
  rw [lg_entry_eq]
  generalize (lg_sl avs ++ List.replicate (maxL - (lg_sl avs).length) Slot.unset).toArray = ls at hl ⊢
  have hr := B.returns
  have hlk := B.notSynchronized
  generalize hqe : MQ below _ avs.toArray s 0 0 (h_A G s.heap.size) = Q
  have key := k (p, l, e, h_rm fr lc, s, m, avs.toArray, below, meth, c, Q, h_A G s.heap.size, maxL, 0, 0) ⟨B.exec, B.bytes, hml, hown, atoms_spec (ws := ws) B.pre, hK, hA, Nat.le_refl _, Nat.le_refl _, Nat.le_refl _, Nat.le_refl _, rfl, rfl, hNw⟩ ?_
  · exact key s.heap [] ls hP hD va_S.rf hl
  · intro pc lo r I' J' hdg hp H locs ls2 a b c2 d
    subst hqe
    exact W.lret (v := r) B.exec B.bytes hr (fun t ht hW => ⟨⟨r, (I', J'), rfl, hp, by rw [ht]; exact a, va_K.moved hW.alike hK, b⟩, c2.F ht⟩) c2.2.2 hdg hlk
set_option maxHeartbeats 1000000 in
theorem h_Mv.of {l : Launch} {y : MethodName} {ws ws' : List Cond} {fr lc : Nat} {G : hQ} {avs : List Value} {I : hI} {J : hJ} {post : hI → hJ → Prop} {cc : ByteArray} {maxL : Nat} (lo0 : List (Nat × Value)) (hy : plainFor y = true) (hw : ws = Cond.code y cc maxL (none) :: ws') (hlen : (lg_sl avs).length ≤ maxL) (hlo : lv_args 0 avs = lo0)
    (k : ∀ Γ : hG, h_C Γ G l maxL cc ws y.cls fr lc → (∀ {pc : Nat} {lo : List (Nat × Value)} {I' : hI} {J' : hJ}, decode cc pc = .ok (.return_, 1) → post I' J' → h_WW Γ G pc lo [] I' J') → h_WW Γ G 0 lo0 [] I J) : h_Mv l y ws fr lc G avs I J post := by
  intro sz
  refine h_ofWF (cc := cc) (maxL := maxL) (ret := none) hy hw ?_
  intro p e s m args below meth c s₁ B hml hv
  obtain ⟨rfl, hsz, hP, hK, hD0, hNw⟩ := hv
  have hown : s.vm.findClass y.cls = some m.cls := findClass_of_methodNamed B.named
  subst hsz
  have hD : va_D (h_A G s.heap.size) (h_W G I J) := h_D_A hD0
  have hA : ∀ q : Nat, s.heap.size ≤ q → h_A G s.heap.size q := fun q h => Or.inr h
  have hl := lv_entry avs (n := maxL) hlen
  rw [hlo] at hl
  rw [lg_entry_eq]
  generalize (lg_sl avs ++ List.replicate (maxL - (lg_sl avs).length) Slot.unset).toArray = ls at hl ⊢
  have hr := B.returns
  have hlk := B.notSynchronized
  generalize hqe : MQ below _ avs.toArray s 0 0 (h_A G s.heap.size) = Q
  have key := k (p, l, e, h_rm fr lc, s, m, avs.toArray, below, meth, c, Q, h_A G s.heap.size, maxL, 0, 0) ⟨B.exec, B.bytes, hml, hown, atoms_spec (ws := ws) B.pre, hK, hA, Nat.le_refl _, Nat.le_refl _, Nat.le_refl _, Nat.le_refl _, rfl, rfl, hNw⟩ ?_
  · exact key s.heap [] ls hP hD va_S.rf hl
  · intro pc lo I' J' hdg hp H locs ls2 a b c2 d
    subst hqe
    exact W.vret B.exec B.bytes hr (fun t ht hW => ⟨⟨(I', J'), rfl, hp, by rw [ht]; exact a, va_K.moved hW.alike hK, b⟩, c2.F ht⟩) c2.2.2 hdg hlk
set_option maxHeartbeats 1000000 in
theorem h_Mr.of {l : Launch} {y : MethodName} {ws ws' : List Cond} {fr lc : Nat} {G : hQ} {avs : List Value} {I : hI} {J : hJ} {post : Nat → hI → hJ → Prop} {cc : ByteArray} {maxL : Nat} {nm : String} (lo0 : List (Nat × Value)) (hy : plainFor y = true) (hw : ws = Cond.code y cc maxL (some (.object nm)) :: ws') (hlen : (lg_sl avs).length ≤ maxL) (hlo : lv_args 0 avs = lo0)
    (k : ∀ Γ : hG, h_C Γ G l maxL cc ws y.cls fr lc → (∀ {pc : Nat} {lo : List (Nat × Value)} {r : Nat} {I' : hI} {J' : hJ}, decode cc pc = .ok (.areturn, 1) → post r I' J' → h_WW Γ G pc lo [rr G r] I' J') → h_WW Γ G 0 lo0 [] I J) : h_Mr l y ws fr lc G avs I J post := by
  intro sz
  refine h_ofWF (cc := cc) (maxL := maxL) (ret := some (.object nm)) hy hw ?_
  intro p e s m args below meth c s₁ B hml hv
  obtain ⟨rfl, hsz, hP, hK, hD0, hNw⟩ := hv
  have hown : s.vm.findClass y.cls = some m.cls := findClass_of_methodNamed B.named
  subst hsz
  have hD : va_D (h_A G s.heap.size) (h_W G I J) := h_D_A hD0
  have hA : ∀ q : Nat, s.heap.size ≤ q → h_A G s.heap.size q := fun q h => Or.inr h
  have hl := lv_entry avs (n := maxL) hlen
  rw [hlo] at hl
  rw [lg_entry_eq]
  generalize (lg_sl avs ++ List.replicate (maxL - (lg_sl avs).length) Slot.unset).toArray = ls at hl ⊢
  have hr := B.returns
  have hlk := B.notSynchronized
  generalize hqe : MQ below _ avs.toArray s 0 0 (h_A G s.heap.size) = Q
  have key := k (p, l, e, h_rm fr lc, s, m, avs.toArray, below, meth, c, Q, h_A G s.heap.size, maxL, 0, 0) ⟨B.exec, B.bytes, hml, hown, atoms_spec (ws := ws) B.pre, hK, hA, Nat.le_refl _, Nat.le_refl _, Nat.le_refl _, Nat.le_refl _, rfl, rfl, hNw⟩ ?_
  · exact key s.heap [] ls hP hD va_S.rf hl
  · intro pc lo r I' J' hdg hp H locs ls2 a b c2 d
    subst hqe
    exact W.aret (v := rr G r) B.exec B.bytes hr (Or.inl ⟨_, rfl⟩) (Or.inr ⟨_, rfl⟩) (fun t ht hW => ⟨⟨(r, I', J'), G.2.2 r, rfl, hp, rfl, by rw [ht]; exact a, va_K.moved hW.alike hK, b⟩, c2.F ht⟩) c2.2.2 hdg hlk
section HC
variable {Γ : hG} {G : hQ} {l : Launch} {nL : Nat} {cc : ByteArray} {Ts : List Cond} {own : String} {fr lc pc : Nat} {lo : List (Nat × Value)} {st stk : List Value} {I : hI} {J : hJ}
set_option maxHeartbeats 1000000 in
theorem x_calliV (K : h_C Γ G l nL cc Ts own fr lc) {y : MethodName} {wsy ws0 : List Cond} {fr' lc' maxL n index : Nat} {As : List Value} {bytes : ByteArray} {ret : Option FieldType} {post : Int32 → hI → hJ → Prop} {k0 ci : Nat} {ks : List Nat} {C : String} {T : u_T} {N : Nat} (hk : k0 < 91) (hs : h_sh k0 = .inl (ci, ks)) (hc : vwCl[ci]? = some (C, T, N)) (hM : h_Mi l y wsy fr' lc' G (rr G k0 :: As) I J post) (hG : GoodIn Ts (wsV own index C y wsy)) (hd : y.cls = C ∧ y.cls ≠ "java/lang/invoke/MethodHandle" ∧ y.cls ≠ "java/lang/invoke/VarHandle" ∧ (parseMethodDescriptor y.desc).map (fun d => d.parameters.length) = some n) (hw : wsy = Cond.code y bytes maxL ret :: ws0) (hfr : fr' + 1 ≤ fr) (hlc : 8 + (maxL + 11) + lc' ≤ lc) (hn : As.length = n) (hst : stk = As.reverse ++ rr G k0 :: st) (hW : (st.map fun v => v.category).sum ≤ 8) (hdg : decode cc pc = .ok (.invokevirtual index, 3))
    (kk : ∀ (r : Int32) (I' : hI) (J' : hJ), post r I' J' → h_WW Γ G (pc + 3) lo (.int r :: st) I' J') : h_WW Γ G pc lo stk I J := fun H locs ls a b c d => by
  subst hst
  have hF := h_A_of b c K.2.2.2.2.2.2.1
  have hM1 := hM H.size
  rw [← K.2.2.2.2.2.2.2.2.2.2.2.1] at hM1
  refine va_calli (va_runV (As := As) (rest := st) ⟨K.1, K.2.1, K.2.2.1, K.2.2.2.1, K.2.2.2.2.1⟩ hM1 (cwV n K.2.2.2.2.1 hG hw rfl rfl hd ⟨Nat.le_trans hfr K.2.2.2.2.2.2.2.1, Nat.le_trans hlc K.2.2.2.2.2.2.2.2.1⟩) ⟨h_blind, va_recv K.2.2.2.2.2.1 a hc (h_W_o hk hs), fun U hU hW => ⟨rfl, by rw [hU], by rw [hU]; exact a, va_K.moved hW.alike K.2.2.2.2.2.1, b.weaken (fun _ _ _ _ => trivial), h_N.warm hW K.2.2.2.2.2.2.2.2.2.2.2.2.2⟩⟩ rfl hn d.1 rfl (lv_room hW) hdg ⟨K.2.2.2.2.2.2.2.2.2.1, K.2.2.2.2.2.2.2.2.2.2.1⟩) c (fun q _ h => hF q h) hF (fun r u t H1 locs1 ht hvm hw1 hB hz1 hk1 hS => ?_)
  obtain ⟨hP1, hK1, hD1⟩ := hB
  rw [ht] at hP1
  exact kk r u.1 u.2 hw1 H1 locs1 ls hP1 (hD1.weaken (fun _ _ _ h => hF _ h)) hS d
set_option maxHeartbeats 1000000 in
theorem x_calllV (K : h_C Γ G l nL cc Ts own fr lc) {y : MethodName} {wsy ws0 : List Cond} {fr' lc' maxL n index : Nat} {As : List Value} {bytes : ByteArray} {ret : Option FieldType} {post : Int64 → hI → hJ → Prop} {k0 ci : Nat} {ks : List Nat} {C : String} {T : u_T} {N : Nat} (hk : k0 < 91) (hs : h_sh k0 = .inl (ci, ks)) (hc : vwCl[ci]? = some (C, T, N)) (hM : h_Ml l y wsy fr' lc' G (rr G k0 :: As) I J post) (hG : GoodIn Ts (wsV own index C y wsy)) (hd : y.cls = C ∧ y.cls ≠ "java/lang/invoke/MethodHandle" ∧ y.cls ≠ "java/lang/invoke/VarHandle" ∧ (parseMethodDescriptor y.desc).map (fun d => d.parameters.length) = some n) (hw : wsy = Cond.code y bytes maxL ret :: ws0) (hfr : fr' + 1 ≤ fr) (hlc : 8 + (maxL + 11) + lc' ≤ lc) (hn : As.length = n) (hst : stk = As.reverse ++ rr G k0 :: st) (hW : (st.map fun v => v.category).sum ≤ 8) (hdg : decode cc pc = .ok (.invokevirtual index, 3))
    (kk : ∀ (r : Int64) (I' : hI) (J' : hJ), post r I' J' → h_WW Γ G (pc + 3) lo (.long r :: st) I' J') : h_WW Γ G pc lo stk I J := fun H locs ls a b c d => by
  subst hst
  have hF := h_A_of b c K.2.2.2.2.2.2.1
  have hM1 := hM H.size
  rw [← K.2.2.2.2.2.2.2.2.2.2.2.1] at hM1
  refine va_calll (va_runV (As := As) (rest := st) ⟨K.1, K.2.1, K.2.2.1, K.2.2.2.1, K.2.2.2.2.1⟩ hM1 (cwV n K.2.2.2.2.1 hG hw rfl rfl hd ⟨Nat.le_trans hfr K.2.2.2.2.2.2.2.1, Nat.le_trans hlc K.2.2.2.2.2.2.2.2.1⟩) ⟨h_blind, va_recv K.2.2.2.2.2.1 a hc (h_W_o hk hs), fun U hU hW => ⟨rfl, by rw [hU], by rw [hU]; exact a, va_K.moved hW.alike K.2.2.2.2.2.1, b.weaken (fun _ _ _ _ => trivial), h_N.warm hW K.2.2.2.2.2.2.2.2.2.2.2.2.2⟩⟩ rfl hn d.1 rfl (lv_room hW) hdg ⟨K.2.2.2.2.2.2.2.2.2.1, K.2.2.2.2.2.2.2.2.2.2.1⟩) c (fun q _ h => hF q h) hF (fun r u t H1 locs1 ht hvm hw1 hB hz1 hk1 hS => ?_)
  obtain ⟨hP1, hK1, hD1⟩ := hB
  rw [ht] at hP1
  exact kk r u.1 u.2 hw1 H1 locs1 ls hP1 (hD1.weaken (fun _ _ _ h => hF _ h)) hS d
set_option maxHeartbeats 1000000 in
theorem x_callvV (K : h_C Γ G l nL cc Ts own fr lc) {y : MethodName} {wsy ws0 : List Cond} {fr' lc' maxL n index : Nat} {As : List Value} {bytes : ByteArray} {ret : Option FieldType} {post : hI → hJ → Prop} {k0 ci : Nat} {ks : List Nat} {C : String} {T : u_T} {N : Nat} (hk : k0 < 91) (hs : h_sh k0 = .inl (ci, ks)) (hc : vwCl[ci]? = some (C, T, N)) (hM : h_Mv l y wsy fr' lc' G (rr G k0 :: As) I J post) (hG : GoodIn Ts (wsV own index C y wsy)) (hd : y.cls = C ∧ y.cls ≠ "java/lang/invoke/MethodHandle" ∧ y.cls ≠ "java/lang/invoke/VarHandle" ∧ (parseMethodDescriptor y.desc).map (fun d => d.parameters.length) = some n) (hw : wsy = Cond.code y bytes maxL ret :: ws0) (hfr : fr' + 1 ≤ fr) (hlc : 8 + (maxL + 11) + lc' ≤ lc) (hn : As.length = n) (hst : stk = As.reverse ++ rr G k0 :: st) (hW : (st.map fun v => v.category).sum ≤ 8) (hdg : decode cc pc = .ok (.invokevirtual index, 3))
    (kk : ∀ (I' : hI) (J' : hJ), post I' J' → h_WW Γ G (pc + 3) lo st I' J') : h_WW Γ G pc lo stk I J := fun H locs ls a b c d => by
  subst hst
  have hF := h_A_of b c K.2.2.2.2.2.2.1
  have hM1 := hM H.size
  rw [← K.2.2.2.2.2.2.2.2.2.2.2.1] at hM1
  refine va_callv (va_runV (As := As) (rest := st) ⟨K.1, K.2.1, K.2.2.1, K.2.2.2.1, K.2.2.2.2.1⟩ hM1 (cwV n K.2.2.2.2.1 hG hw rfl rfl hd ⟨Nat.le_trans hfr K.2.2.2.2.2.2.2.1, Nat.le_trans hlc K.2.2.2.2.2.2.2.2.1⟩) ⟨h_blind, va_recv K.2.2.2.2.2.1 a hc (h_W_o hk hs), fun U hU hW => ⟨rfl, by rw [hU], by rw [hU]; exact a, va_K.moved hW.alike K.2.2.2.2.2.1, b.weaken (fun _ _ _ _ => trivial), h_N.warm hW K.2.2.2.2.2.2.2.2.2.2.2.2.2⟩⟩ rfl hn d.1 rfl (lv_room hW) hdg ⟨K.2.2.2.2.2.2.2.2.2.1, K.2.2.2.2.2.2.2.2.2.2.1⟩) c (fun q _ h => hF q h) hF (fun u t H1 locs1 ht hvm hw1 hB hz1 hk1 hS => ?_)
  obtain ⟨hP1, hK1, hD1⟩ := hB
  rw [ht] at hP1
  exact kk u.1 u.2 hw1 H1 locs1 ls hP1 (hD1.weaken (fun _ _ _ h => hF _ h)) hS d
set_option maxHeartbeats 1000000 in
theorem x_callrV (K : h_C Γ G l nL cc Ts own fr lc) {y : MethodName} {wsy ws0 : List Cond} {fr' lc' maxL n index : Nat} {As : List Value} {bytes : ByteArray} {ret : Option FieldType} {post : Nat → hI → hJ → Prop} {k0 ci : Nat} {ks : List Nat} {C : String} {T : u_T} {N : Nat} (hk : k0 < 91) (hs : h_sh k0 = .inl (ci, ks)) (hc : vwCl[ci]? = some (C, T, N)) (hM : h_Mr l y wsy fr' lc' G (rr G k0 :: As) I J post) (hG : GoodIn Ts (wsV own index C y wsy)) (hd : y.cls = C ∧ y.cls ≠ "java/lang/invoke/MethodHandle" ∧ y.cls ≠ "java/lang/invoke/VarHandle" ∧ (parseMethodDescriptor y.desc).map (fun d => d.parameters.length) = some n) (hw : wsy = Cond.code y bytes maxL ret :: ws0) (hfr : fr' + 1 ≤ fr) (hlc : 8 + (maxL + 11) + lc' ≤ lc) (hn : As.length = n) (hst : stk = As.reverse ++ rr G k0 :: st) (hW : (st.map fun v => v.category).sum ≤ 8) (hdg : decode cc pc = .ok (.invokevirtual index, 3))
    (kk : ∀ (r : Nat) (I' : hI) (J' : hJ), post r I' J' → h_WW Γ G (pc + 3) lo (rr G r :: st) I' J') : h_WW Γ G pc lo stk I J := fun H locs ls a b c d => by
  subst hst
  have hF := h_A_of b c K.2.2.2.2.2.2.1
  have hM1 := hM H.size
  rw [← K.2.2.2.2.2.2.2.2.2.2.2.1] at hM1
  refine va_callr (va_runV (As := As) (rest := st) ⟨K.1, K.2.1, K.2.2.1, K.2.2.2.1, K.2.2.2.2.1⟩ hM1 (cwV n K.2.2.2.2.1 hG hw rfl rfl hd ⟨Nat.le_trans hfr K.2.2.2.2.2.2.2.1, Nat.le_trans hlc K.2.2.2.2.2.2.2.2.1⟩) ⟨h_blind, va_recv K.2.2.2.2.2.1 a hc (h_W_o hk hs), fun U hU hW => ⟨rfl, by rw [hU], by rw [hU]; exact a, va_K.moved hW.alike K.2.2.2.2.2.1, b.weaken (fun _ _ _ _ => trivial), h_N.warm hW K.2.2.2.2.2.2.2.2.2.2.2.2.2⟩⟩ rfl hn d.1 rfl (lv_room hW) hdg ⟨K.2.2.2.2.2.2.2.2.2.1, K.2.2.2.2.2.2.2.2.2.2.1⟩) c (fun q _ h => hF q h) hF (fun u ra t H1 locs1 ht hvm hw1 hB hz1 hk1 hS => ?_)
  obtain ⟨rfl, hP1, hK1, hD1⟩ := hB
  rw [ht] at hP1
  exact kk u.1 u.2.1 u.2.2 hw1 H1 locs1 ls hP1 (hD1.weaken (fun _ _ _ h => hF _ h)) hS d
set_option maxHeartbeats 1000000 in
theorem x_calliN (K : h_C Γ G l nL cc Ts own fr lc) {y : MethodName} {wsy ws0 : List Cond} {fr' lc' maxL n index : Nat} {As : List Value} {bytes : ByteArray} {ret : Option FieldType} {post : Int32 → hI → hJ → Prop} {k0 ci : Nat} {ks : List Nat} {C : String} {T : u_T} {N : Nat} (hk : k0 < 91) (hs : h_sh k0 = .inl (ci, ks)) (hc : vwCl[ci]? = some (C, T, N)) (hM : h_Mi l y wsy fr' lc' G (rr G k0 :: As) I J post) {host : String} (hG : GoodIn Ts wsy) (hm : (own, index, y, host) ∈ h_nM) (hini : Cond.initialized y.cls ∈ Ts) (him : Cond.instanceMethod y ∈ Ts) (hse : Cond.selects C y y ∈ Ts) (hd : y.cls ≠ "java/lang/invoke/MethodHandle" ∧ y.cls ≠ "java/lang/invoke/VarHandle" ∧ (parseMethodDescriptor y.desc).map (fun d => d.parameters.length) = some n) (hw : wsy = Cond.code y bytes maxL ret :: ws0) (hfr : fr' + 1 ≤ fr) (hlc : 8 + (maxL + 11) + lc' ≤ lc) (hn : As.length = n) (hst : stk = As.reverse ++ rr G k0 :: st) (hW : (st.map fun v => v.category).sum ≤ 8) (hdg : decode cc pc = .ok (.invokevirtual index, 3))
    (kk : ∀ (r : Int32) (I' : hI) (J' : hJ), post r I' J' → h_WW Γ G (pc + 3) lo (.int r :: st) I' J') : h_WW Γ G pc lo stk I J := fun H locs ls a b c d => by
  subst hst
  have hF := h_A_of b c K.2.2.2.2.2.2.1
  have hM1 := hM H.size
  rw [← K.2.2.2.2.2.2.2.2.2.2.2.1] at hM1
  refine va_calli (va_runVN (As := As) (rest := st) ⟨K.1, K.2.1, K.2.2.1, K.2.2.2.1, K.2.2.2.2.1⟩ hM1 ⟨va_cnB n K.2.2.2.2.1 hG hw rfl rfl (K.2.2.2.2.2.2.2.2.2.2.2.2.2.2 _ hm) (K.2.2.2.2.1 _ hini) hd ⟨Nat.le_trans hfr K.2.2.2.2.2.2.2.1, Nat.le_trans hlc K.2.2.2.2.2.2.2.2.1⟩, K.2.2.2.2.1 _ him, K.2.2.2.2.1 _ hse⟩ ⟨h_blind, va_recv K.2.2.2.2.2.1 a hc (h_W_o hk hs), fun U hU hW => ⟨rfl, by rw [hU], by rw [hU]; exact a, va_K.moved hW.alike K.2.2.2.2.2.1, b.weaken (fun _ _ _ _ => trivial), h_N.warm hW K.2.2.2.2.2.2.2.2.2.2.2.2.2⟩⟩ rfl hn d.1 rfl (lv_room hW) hdg ⟨K.2.2.2.2.2.2.2.2.2.1, K.2.2.2.2.2.2.2.2.2.2.1⟩) c (fun q _ h => hF q h) hF (fun r u t H1 locs1 ht hvm hw1 hB hz1 hk1 hS => ?_)
  obtain ⟨hP1, hK1, hD1⟩ := hB
  rw [ht] at hP1
  exact kk r u.1 u.2 hw1 H1 locs1 ls hP1 (hD1.weaken (fun _ _ _ h => hF _ h)) hS d
set_option maxHeartbeats 1000000 in
theorem x_calllN (K : h_C Γ G l nL cc Ts own fr lc) {y : MethodName} {wsy ws0 : List Cond} {fr' lc' maxL n index : Nat} {As : List Value} {bytes : ByteArray} {ret : Option FieldType} {post : Int64 → hI → hJ → Prop} {k0 ci : Nat} {ks : List Nat} {C : String} {T : u_T} {N : Nat} (hk : k0 < 91) (hs : h_sh k0 = .inl (ci, ks)) (hc : vwCl[ci]? = some (C, T, N)) (hM : h_Ml l y wsy fr' lc' G (rr G k0 :: As) I J post) {host : String} (hG : GoodIn Ts wsy) (hm : (own, index, y, host) ∈ h_nM) (hini : Cond.initialized y.cls ∈ Ts) (him : Cond.instanceMethod y ∈ Ts) (hse : Cond.selects C y y ∈ Ts) (hd : y.cls ≠ "java/lang/invoke/MethodHandle" ∧ y.cls ≠ "java/lang/invoke/VarHandle" ∧ (parseMethodDescriptor y.desc).map (fun d => d.parameters.length) = some n) (hw : wsy = Cond.code y bytes maxL ret :: ws0) (hfr : fr' + 1 ≤ fr) (hlc : 8 + (maxL + 11) + lc' ≤ lc) (hn : As.length = n) (hst : stk = As.reverse ++ rr G k0 :: st) (hW : (st.map fun v => v.category).sum ≤ 8) (hdg : decode cc pc = .ok (.invokevirtual index, 3))
    (kk : ∀ (r : Int64) (I' : hI) (J' : hJ), post r I' J' → h_WW Γ G (pc + 3) lo (.long r :: st) I' J') : h_WW Γ G pc lo stk I J := fun H locs ls a b c d => by
  subst hst
  have hF := h_A_of b c K.2.2.2.2.2.2.1
  have hM1 := hM H.size
  rw [← K.2.2.2.2.2.2.2.2.2.2.2.1] at hM1
  refine va_calll (va_runVN (As := As) (rest := st) ⟨K.1, K.2.1, K.2.2.1, K.2.2.2.1, K.2.2.2.2.1⟩ hM1 ⟨va_cnB n K.2.2.2.2.1 hG hw rfl rfl (K.2.2.2.2.2.2.2.2.2.2.2.2.2.2 _ hm) (K.2.2.2.2.1 _ hini) hd ⟨Nat.le_trans hfr K.2.2.2.2.2.2.2.1, Nat.le_trans hlc K.2.2.2.2.2.2.2.2.1⟩, K.2.2.2.2.1 _ him, K.2.2.2.2.1 _ hse⟩ ⟨h_blind, va_recv K.2.2.2.2.2.1 a hc (h_W_o hk hs), fun U hU hW => ⟨rfl, by rw [hU], by rw [hU]; exact a, va_K.moved hW.alike K.2.2.2.2.2.1, b.weaken (fun _ _ _ _ => trivial), h_N.warm hW K.2.2.2.2.2.2.2.2.2.2.2.2.2⟩⟩ rfl hn d.1 rfl (lv_room hW) hdg ⟨K.2.2.2.2.2.2.2.2.2.1, K.2.2.2.2.2.2.2.2.2.2.1⟩) c (fun q _ h => hF q h) hF (fun r u t H1 locs1 ht hvm hw1 hB hz1 hk1 hS => ?_)
  obtain ⟨hP1, hK1, hD1⟩ := hB
  rw [ht] at hP1
  exact kk r u.1 u.2 hw1 H1 locs1 ls hP1 (hD1.weaken (fun _ _ _ h => hF _ h)) hS d
set_option maxHeartbeats 1000000 in
theorem x_callvN (K : h_C Γ G l nL cc Ts own fr lc) {y : MethodName} {wsy ws0 : List Cond} {fr' lc' maxL n index : Nat} {As : List Value} {bytes : ByteArray} {ret : Option FieldType} {post : hI → hJ → Prop} {k0 ci : Nat} {ks : List Nat} {C : String} {T : u_T} {N : Nat} (hk : k0 < 91) (hs : h_sh k0 = .inl (ci, ks)) (hc : vwCl[ci]? = some (C, T, N)) (hM : h_Mv l y wsy fr' lc' G (rr G k0 :: As) I J post) {host : String} (hG : GoodIn Ts wsy) (hm : (own, index, y, host) ∈ h_nM) (hini : Cond.initialized y.cls ∈ Ts) (him : Cond.instanceMethod y ∈ Ts) (hse : Cond.selects C y y ∈ Ts) (hd : y.cls ≠ "java/lang/invoke/MethodHandle" ∧ y.cls ≠ "java/lang/invoke/VarHandle" ∧ (parseMethodDescriptor y.desc).map (fun d => d.parameters.length) = some n) (hw : wsy = Cond.code y bytes maxL ret :: ws0) (hfr : fr' + 1 ≤ fr) (hlc : 8 + (maxL + 11) + lc' ≤ lc) (hn : As.length = n) (hst : stk = As.reverse ++ rr G k0 :: st) (hW : (st.map fun v => v.category).sum ≤ 8) (hdg : decode cc pc = .ok (.invokevirtual index, 3))
    (kk : ∀ (I' : hI) (J' : hJ), post I' J' → h_WW Γ G (pc + 3) lo st I' J') : h_WW Γ G pc lo stk I J := fun H locs ls a b c d => by
  subst hst
  have hF := h_A_of b c K.2.2.2.2.2.2.1
  have hM1 := hM H.size
  rw [← K.2.2.2.2.2.2.2.2.2.2.2.1] at hM1
  refine va_callv (va_runVN (As := As) (rest := st) ⟨K.1, K.2.1, K.2.2.1, K.2.2.2.1, K.2.2.2.2.1⟩ hM1 ⟨va_cnB n K.2.2.2.2.1 hG hw rfl rfl (K.2.2.2.2.2.2.2.2.2.2.2.2.2.2 _ hm) (K.2.2.2.2.1 _ hini) hd ⟨Nat.le_trans hfr K.2.2.2.2.2.2.2.1, Nat.le_trans hlc K.2.2.2.2.2.2.2.2.1⟩, K.2.2.2.2.1 _ him, K.2.2.2.2.1 _ hse⟩ ⟨h_blind, va_recv K.2.2.2.2.2.1 a hc (h_W_o hk hs), fun U hU hW => ⟨rfl, by rw [hU], by rw [hU]; exact a, va_K.moved hW.alike K.2.2.2.2.2.1, b.weaken (fun _ _ _ _ => trivial), h_N.warm hW K.2.2.2.2.2.2.2.2.2.2.2.2.2⟩⟩ rfl hn d.1 rfl (lv_room hW) hdg ⟨K.2.2.2.2.2.2.2.2.2.1, K.2.2.2.2.2.2.2.2.2.2.1⟩) c (fun q _ h => hF q h) hF (fun u t H1 locs1 ht hvm hw1 hB hz1 hk1 hS => ?_)
  obtain ⟨hP1, hK1, hD1⟩ := hB
  rw [ht] at hP1
  exact kk u.1 u.2 hw1 H1 locs1 ls hP1 (hD1.weaken (fun _ _ _ h => hF _ h)) hS d
set_option maxHeartbeats 1000000 in
theorem x_callrN (K : h_C Γ G l nL cc Ts own fr lc) {y : MethodName} {wsy ws0 : List Cond} {fr' lc' maxL n index : Nat} {As : List Value} {bytes : ByteArray} {ret : Option FieldType} {post : Nat → hI → hJ → Prop} {k0 ci : Nat} {ks : List Nat} {C : String} {T : u_T} {N : Nat} (hk : k0 < 91) (hs : h_sh k0 = .inl (ci, ks)) (hc : vwCl[ci]? = some (C, T, N)) (hM : h_Mr l y wsy fr' lc' G (rr G k0 :: As) I J post) {host : String} (hG : GoodIn Ts wsy) (hm : (own, index, y, host) ∈ h_nM) (hini : Cond.initialized y.cls ∈ Ts) (him : Cond.instanceMethod y ∈ Ts) (hse : Cond.selects C y y ∈ Ts) (hd : y.cls ≠ "java/lang/invoke/MethodHandle" ∧ y.cls ≠ "java/lang/invoke/VarHandle" ∧ (parseMethodDescriptor y.desc).map (fun d => d.parameters.length) = some n) (hw : wsy = Cond.code y bytes maxL ret :: ws0) (hfr : fr' + 1 ≤ fr) (hlc : 8 + (maxL + 11) + lc' ≤ lc) (hn : As.length = n) (hst : stk = As.reverse ++ rr G k0 :: st) (hW : (st.map fun v => v.category).sum ≤ 8) (hdg : decode cc pc = .ok (.invokevirtual index, 3))
    (kk : ∀ (r : Nat) (I' : hI) (J' : hJ), post r I' J' → h_WW Γ G (pc + 3) lo (rr G r :: st) I' J') : h_WW Γ G pc lo stk I J := fun H locs ls a b c d => by
  subst hst
  have hF := h_A_of b c K.2.2.2.2.2.2.1
  have hM1 := hM H.size
  rw [← K.2.2.2.2.2.2.2.2.2.2.2.1] at hM1
  refine va_callr (va_runVN (As := As) (rest := st) ⟨K.1, K.2.1, K.2.2.1, K.2.2.2.1, K.2.2.2.2.1⟩ hM1 ⟨va_cnB n K.2.2.2.2.1 hG hw rfl rfl (K.2.2.2.2.2.2.2.2.2.2.2.2.2.2 _ hm) (K.2.2.2.2.1 _ hini) hd ⟨Nat.le_trans hfr K.2.2.2.2.2.2.2.1, Nat.le_trans hlc K.2.2.2.2.2.2.2.2.1⟩, K.2.2.2.2.1 _ him, K.2.2.2.2.1 _ hse⟩ ⟨h_blind, va_recv K.2.2.2.2.2.1 a hc (h_W_o hk hs), fun U hU hW => ⟨rfl, by rw [hU], by rw [hU]; exact a, va_K.moved hW.alike K.2.2.2.2.2.1, b.weaken (fun _ _ _ _ => trivial), h_N.warm hW K.2.2.2.2.2.2.2.2.2.2.2.2.2⟩⟩ rfl hn d.1 rfl (lv_room hW) hdg ⟨K.2.2.2.2.2.2.2.2.2.1, K.2.2.2.2.2.2.2.2.2.2.1⟩) c (fun q _ h => hF q h) hF (fun u ra t H1 locs1 ht hvm hw1 hB hz1 hk1 hS => ?_)
  obtain ⟨rfl, hP1, hK1, hD1⟩ := hB
  rw [ht] at hP1
  exact kk u.1 u.2.1 u.2.2 hw1 H1 locs1 ls hP1 (hD1.weaken (fun _ _ _ h => hF _ h)) hS d
set_option maxHeartbeats 1000000 in
theorem x_calliS (K : h_C Γ G l nL cc Ts own fr lc) {y : MethodName} {wsy ws0 : List Cond} {fr' lc' maxL n index : Nat} {As : List Value} {bytes : ByteArray} {ret : Option FieldType} {post : Int32 → hI → hJ → Prop} (hM : h_Mi l y wsy fr' lc' G (As) I J post) (hG : GoodIn Ts (va_wsS own index y wsy)) (hd : y.cls ≠ "java/lang/invoke/MethodHandle" ∧ y.cls ≠ "java/lang/invoke/VarHandle" ∧ (parseMethodDescriptor y.desc).map (fun d => d.parameters.length) = some n) (hw : wsy = Cond.code y bytes maxL ret :: ws0) (hfr : fr' + 1 ≤ fr) (hlc : 8 + (maxL + 11) + lc' ≤ lc) (hn : As.length = n) (hst : stk = As.reverse ++ st) (hW : (st.map fun v => v.category).sum ≤ 8) (hdg : decode cc pc = .ok (.invokestatic index, 3))
    (kk : ∀ (r : Int32) (I' : hI) (J' : hJ), post r I' J' → h_WW Γ G (pc + 3) lo (.int r :: st) I' J') : h_WW Γ G pc lo stk I J := fun H locs ls a b c d => by
  subst hst
  have hF := h_A_of b c K.2.2.2.2.2.2.1
  have hM1 := hM H.size
  rw [← K.2.2.2.2.2.2.2.2.2.2.2.1] at hM1
  refine va_calli (va_runS (As := As) (rest := st) ⟨K.1, K.2.1, K.2.2.1, K.2.2.2.1, K.2.2.2.2.1⟩ hM1 (va_cwS n K.2.2.2.2.1 hG hw rfl rfl hd ⟨Nat.le_trans hfr K.2.2.2.2.2.2.2.1, Nat.le_trans hlc K.2.2.2.2.2.2.2.2.1⟩) ⟨h_blind, fun U hU hW => ⟨rfl, by rw [hU], by rw [hU]; exact a, va_K.moved hW.alike K.2.2.2.2.2.1, b.weaken (fun _ _ _ _ => trivial), h_N.warm hW K.2.2.2.2.2.2.2.2.2.2.2.2.2⟩⟩ rfl hn d.1 rfl (lv_room hW) hdg ⟨K.2.2.2.2.2.2.2.2.2.1, K.2.2.2.2.2.2.2.2.2.2.1⟩) c (fun q _ h => hF q h) hF (fun r u t H1 locs1 ht hvm hw1 hB hz1 hk1 hS => ?_)
  obtain ⟨hP1, hK1, hD1⟩ := hB
  rw [ht] at hP1
  exact kk r u.1 u.2 hw1 H1 locs1 ls hP1 (hD1.weaken (fun _ _ _ h => hF _ h)) hS d
set_option maxHeartbeats 1000000 in
theorem x_calllS (K : h_C Γ G l nL cc Ts own fr lc) {y : MethodName} {wsy ws0 : List Cond} {fr' lc' maxL n index : Nat} {As : List Value} {bytes : ByteArray} {ret : Option FieldType} {post : Int64 → hI → hJ → Prop} (hM : h_Ml l y wsy fr' lc' G (As) I J post) (hG : GoodIn Ts (va_wsS own index y wsy)) (hd : y.cls ≠ "java/lang/invoke/MethodHandle" ∧ y.cls ≠ "java/lang/invoke/VarHandle" ∧ (parseMethodDescriptor y.desc).map (fun d => d.parameters.length) = some n) (hw : wsy = Cond.code y bytes maxL ret :: ws0) (hfr : fr' + 1 ≤ fr) (hlc : 8 + (maxL + 11) + lc' ≤ lc) (hn : As.length = n) (hst : stk = As.reverse ++ st) (hW : (st.map fun v => v.category).sum ≤ 8) (hdg : decode cc pc = .ok (.invokestatic index, 3))
    (kk : ∀ (r : Int64) (I' : hI) (J' : hJ), post r I' J' → h_WW Γ G (pc + 3) lo (.long r :: st) I' J') : h_WW Γ G pc lo stk I J := fun H locs ls a b c d => by
  subst hst
  have hF := h_A_of b c K.2.2.2.2.2.2.1
  have hM1 := hM H.size
  rw [← K.2.2.2.2.2.2.2.2.2.2.2.1] at hM1
  refine va_calll (va_runS (As := As) (rest := st) ⟨K.1, K.2.1, K.2.2.1, K.2.2.2.1, K.2.2.2.2.1⟩ hM1 (va_cwS n K.2.2.2.2.1 hG hw rfl rfl hd ⟨Nat.le_trans hfr K.2.2.2.2.2.2.2.1, Nat.le_trans hlc K.2.2.2.2.2.2.2.2.1⟩) ⟨h_blind, fun U hU hW => ⟨rfl, by rw [hU], by rw [hU]; exact a, va_K.moved hW.alike K.2.2.2.2.2.1, b.weaken (fun _ _ _ _ => trivial), h_N.warm hW K.2.2.2.2.2.2.2.2.2.2.2.2.2⟩⟩ rfl hn d.1 rfl (lv_room hW) hdg ⟨K.2.2.2.2.2.2.2.2.2.1, K.2.2.2.2.2.2.2.2.2.2.1⟩) c (fun q _ h => hF q h) hF (fun r u t H1 locs1 ht hvm hw1 hB hz1 hk1 hS => ?_)
  obtain ⟨hP1, hK1, hD1⟩ := hB
  rw [ht] at hP1
  exact kk r u.1 u.2 hw1 H1 locs1 ls hP1 (hD1.weaken (fun _ _ _ h => hF _ h)) hS d
set_option maxHeartbeats 1000000 in
theorem x_callvS (K : h_C Γ G l nL cc Ts own fr lc) {y : MethodName} {wsy ws0 : List Cond} {fr' lc' maxL n index : Nat} {As : List Value} {bytes : ByteArray} {ret : Option FieldType} {post : hI → hJ → Prop} (hM : h_Mv l y wsy fr' lc' G (As) I J post) (hG : GoodIn Ts (va_wsS own index y wsy)) (hd : y.cls ≠ "java/lang/invoke/MethodHandle" ∧ y.cls ≠ "java/lang/invoke/VarHandle" ∧ (parseMethodDescriptor y.desc).map (fun d => d.parameters.length) = some n) (hw : wsy = Cond.code y bytes maxL ret :: ws0) (hfr : fr' + 1 ≤ fr) (hlc : 8 + (maxL + 11) + lc' ≤ lc) (hn : As.length = n) (hst : stk = As.reverse ++ st) (hW : (st.map fun v => v.category).sum ≤ 8) (hdg : decode cc pc = .ok (.invokestatic index, 3))
    (kk : ∀ (I' : hI) (J' : hJ), post I' J' → h_WW Γ G (pc + 3) lo st I' J') : h_WW Γ G pc lo stk I J := fun H locs ls a b c d => by
  subst hst
  have hF := h_A_of b c K.2.2.2.2.2.2.1
  have hM1 := hM H.size
  rw [← K.2.2.2.2.2.2.2.2.2.2.2.1] at hM1
  refine va_callv (va_runS (As := As) (rest := st) ⟨K.1, K.2.1, K.2.2.1, K.2.2.2.1, K.2.2.2.2.1⟩ hM1 (va_cwS n K.2.2.2.2.1 hG hw rfl rfl hd ⟨Nat.le_trans hfr K.2.2.2.2.2.2.2.1, Nat.le_trans hlc K.2.2.2.2.2.2.2.2.1⟩) ⟨h_blind, fun U hU hW => ⟨rfl, by rw [hU], by rw [hU]; exact a, va_K.moved hW.alike K.2.2.2.2.2.1, b.weaken (fun _ _ _ _ => trivial), h_N.warm hW K.2.2.2.2.2.2.2.2.2.2.2.2.2⟩⟩ rfl hn d.1 rfl (lv_room hW) hdg ⟨K.2.2.2.2.2.2.2.2.2.1, K.2.2.2.2.2.2.2.2.2.2.1⟩) c (fun q _ h => hF q h) hF (fun u t H1 locs1 ht hvm hw1 hB hz1 hk1 hS => ?_)
  obtain ⟨hP1, hK1, hD1⟩ := hB
  rw [ht] at hP1
  exact kk u.1 u.2 hw1 H1 locs1 ls hP1 (hD1.weaken (fun _ _ _ h => hF _ h)) hS d
set_option maxHeartbeats 1000000 in
theorem x_calliM (K : h_C Γ G l nL cc Ts own fr lc) {y : MethodName} {wsy ws0 : List Cond} {fr' lc' maxL n index : Nat} {As : List Value} {bytes : ByteArray} {ret : Option FieldType} {post : Int32 → hI → hJ → Prop} (hM : h_Mi l y wsy fr' lc' G (As) I J post) {host : String} (hG : GoodIn Ts wsy) (hm : (own, index, y, host) ∈ h_nM) (hini : Cond.initialized y.cls ∈ Ts) (him : Cond.static y ∈ Ts) (hd : y.cls ≠ "java/lang/invoke/MethodHandle" ∧ y.cls ≠ "java/lang/invoke/VarHandle" ∧ (parseMethodDescriptor y.desc).map (fun d => d.parameters.length) = some n) (hw : wsy = Cond.code y bytes maxL ret :: ws0) (hfr : fr' + 1 ≤ fr) (hlc : 8 + (maxL + 11) + lc' ≤ lc) (hn : As.length = n) (hst : stk = As.reverse ++ st) (hW : (st.map fun v => v.category).sum ≤ 8) (hdg : decode cc pc = .ok (.invokestatic index, 3))
    (kk : ∀ (r : Int32) (I' : hI) (J' : hJ), post r I' J' → h_WW Γ G (pc + 3) lo (.int r :: st) I' J') : h_WW Γ G pc lo stk I J := fun H locs ls a b c d => by
  subst hst
  have hF := h_A_of b c K.2.2.2.2.2.2.1
  have hM1 := hM H.size
  rw [← K.2.2.2.2.2.2.2.2.2.2.2.1] at hM1
  refine va_calli (va_runSN (As := As) (rest := st) ⟨K.1, K.2.1, K.2.2.1, K.2.2.2.1, K.2.2.2.2.1⟩ hM1 ⟨va_cnB n K.2.2.2.2.1 hG hw rfl rfl (K.2.2.2.2.2.2.2.2.2.2.2.2.2.2 _ hm) (K.2.2.2.2.1 _ hini) hd ⟨Nat.le_trans hfr K.2.2.2.2.2.2.2.1, Nat.le_trans hlc K.2.2.2.2.2.2.2.2.1⟩, K.2.2.2.2.1 _ him, trivial⟩ ⟨h_blind, fun U hU hW => ⟨rfl, by rw [hU], by rw [hU]; exact a, va_K.moved hW.alike K.2.2.2.2.2.1, b.weaken (fun _ _ _ _ => trivial), h_N.warm hW K.2.2.2.2.2.2.2.2.2.2.2.2.2⟩⟩ rfl hn d.1 rfl (lv_room hW) hdg ⟨K.2.2.2.2.2.2.2.2.2.1, K.2.2.2.2.2.2.2.2.2.2.1⟩) c (fun q _ h => hF q h) hF (fun r u t H1 locs1 ht hvm hw1 hB hz1 hk1 hS => ?_)
  obtain ⟨hP1, hK1, hD1⟩ := hB
  rw [ht] at hP1
  exact kk r u.1 u.2 hw1 H1 locs1 ls hP1 (hD1.weaken (fun _ _ _ h => hF _ h)) hS d
set_option maxHeartbeats 1000000 in
theorem x_calllM (K : h_C Γ G l nL cc Ts own fr lc) {y : MethodName} {wsy ws0 : List Cond} {fr' lc' maxL n index : Nat} {As : List Value} {bytes : ByteArray} {ret : Option FieldType} {post : Int64 → hI → hJ → Prop} (hM : h_Ml l y wsy fr' lc' G (As) I J post) {host : String} (hG : GoodIn Ts wsy) (hm : (own, index, y, host) ∈ h_nM) (hini : Cond.initialized y.cls ∈ Ts) (him : Cond.static y ∈ Ts) (hd : y.cls ≠ "java/lang/invoke/MethodHandle" ∧ y.cls ≠ "java/lang/invoke/VarHandle" ∧ (parseMethodDescriptor y.desc).map (fun d => d.parameters.length) = some n) (hw : wsy = Cond.code y bytes maxL ret :: ws0) (hfr : fr' + 1 ≤ fr) (hlc : 8 + (maxL + 11) + lc' ≤ lc) (hn : As.length = n) (hst : stk = As.reverse ++ st) (hW : (st.map fun v => v.category).sum ≤ 8) (hdg : decode cc pc = .ok (.invokestatic index, 3))
    (kk : ∀ (r : Int64) (I' : hI) (J' : hJ), post r I' J' → h_WW Γ G (pc + 3) lo (.long r :: st) I' J') : h_WW Γ G pc lo stk I J := fun H locs ls a b c d => by
  subst hst
  have hF := h_A_of b c K.2.2.2.2.2.2.1
  have hM1 := hM H.size
  rw [← K.2.2.2.2.2.2.2.2.2.2.2.1] at hM1
  refine va_calll (va_runSN (As := As) (rest := st) ⟨K.1, K.2.1, K.2.2.1, K.2.2.2.1, K.2.2.2.2.1⟩ hM1 ⟨va_cnB n K.2.2.2.2.1 hG hw rfl rfl (K.2.2.2.2.2.2.2.2.2.2.2.2.2.2 _ hm) (K.2.2.2.2.1 _ hini) hd ⟨Nat.le_trans hfr K.2.2.2.2.2.2.2.1, Nat.le_trans hlc K.2.2.2.2.2.2.2.2.1⟩, K.2.2.2.2.1 _ him, trivial⟩ ⟨h_blind, fun U hU hW => ⟨rfl, by rw [hU], by rw [hU]; exact a, va_K.moved hW.alike K.2.2.2.2.2.1, b.weaken (fun _ _ _ _ => trivial), h_N.warm hW K.2.2.2.2.2.2.2.2.2.2.2.2.2⟩⟩ rfl hn d.1 rfl (lv_room hW) hdg ⟨K.2.2.2.2.2.2.2.2.2.1, K.2.2.2.2.2.2.2.2.2.2.1⟩) c (fun q _ h => hF q h) hF (fun r u t H1 locs1 ht hvm hw1 hB hz1 hk1 hS => ?_)
  obtain ⟨hP1, hK1, hD1⟩ := hB
  rw [ht] at hP1
  exact kk r u.1 u.2 hw1 H1 locs1 ls hP1 (hD1.weaken (fun _ _ _ h => hF _ h)) hS d
set_option maxHeartbeats 1000000 in
theorem x_callvM (K : h_C Γ G l nL cc Ts own fr lc) {y : MethodName} {wsy ws0 : List Cond} {fr' lc' maxL n index : Nat} {As : List Value} {bytes : ByteArray} {ret : Option FieldType} {post : hI → hJ → Prop} (hM : h_Mv l y wsy fr' lc' G (As) I J post) {host : String} (hG : GoodIn Ts wsy) (hm : (own, index, y, host) ∈ h_nM) (hini : Cond.initialized y.cls ∈ Ts) (him : Cond.static y ∈ Ts) (hd : y.cls ≠ "java/lang/invoke/MethodHandle" ∧ y.cls ≠ "java/lang/invoke/VarHandle" ∧ (parseMethodDescriptor y.desc).map (fun d => d.parameters.length) = some n) (hw : wsy = Cond.code y bytes maxL ret :: ws0) (hfr : fr' + 1 ≤ fr) (hlc : 8 + (maxL + 11) + lc' ≤ lc) (hn : As.length = n) (hst : stk = As.reverse ++ st) (hW : (st.map fun v => v.category).sum ≤ 8) (hdg : decode cc pc = .ok (.invokestatic index, 3))
    (kk : ∀ (I' : hI) (J' : hJ), post I' J' → h_WW Γ G (pc + 3) lo st I' J') : h_WW Γ G pc lo stk I J := fun H locs ls a b c d => by
  subst hst
  have hF := h_A_of b c K.2.2.2.2.2.2.1
  have hM1 := hM H.size
  rw [← K.2.2.2.2.2.2.2.2.2.2.2.1] at hM1
  refine va_callv (va_runSN (As := As) (rest := st) ⟨K.1, K.2.1, K.2.2.1, K.2.2.2.1, K.2.2.2.2.1⟩ hM1 ⟨va_cnB n K.2.2.2.2.1 hG hw rfl rfl (K.2.2.2.2.2.2.2.2.2.2.2.2.2.2 _ hm) (K.2.2.2.2.1 _ hini) hd ⟨Nat.le_trans hfr K.2.2.2.2.2.2.2.1, Nat.le_trans hlc K.2.2.2.2.2.2.2.2.1⟩, K.2.2.2.2.1 _ him, trivial⟩ ⟨h_blind, fun U hU hW => ⟨rfl, by rw [hU], by rw [hU]; exact a, va_K.moved hW.alike K.2.2.2.2.2.1, b.weaken (fun _ _ _ _ => trivial), h_N.warm hW K.2.2.2.2.2.2.2.2.2.2.2.2.2⟩⟩ rfl hn d.1 rfl (lv_room hW) hdg ⟨K.2.2.2.2.2.2.2.2.2.1, K.2.2.2.2.2.2.2.2.2.2.1⟩) c (fun q _ h => hF q h) hF (fun u t H1 locs1 ht hvm hw1 hB hz1 hk1 hS => ?_)
  obtain ⟨hP1, hK1, hD1⟩ := hB
  rw [ht] at hP1
  exact kk u.1 u.2 hw1 H1 locs1 ls hP1 (hD1.weaken (fun _ _ _ h => hF _ h)) hS d
end HC
/-- a truth as the machine holds it -/
def bz (c : Prop) [Decidable c] : Int32 := if c then 1 else 0
theorem bz_t {c : Prop} [Decidable c] (h : c) : (1 : Int32) = bz c := (if_pos h).symm
theorem bz_f {c : Prop} [Decidable c] (h : ¬ c) : (0 : Int32) = bz c := (if_neg h).symm
theorem bz_0 {c : Prop} [Decidable c] : bz c = 0 ↔ ¬ c := by unfold bz; split <;> simp_all
theorem bz_1 {c : Prop} [Decidable c] : bz c = 1 ↔ c := by unfold bz; split <;> simp_all
theorem bz_n0 {c : Prop} [Decidable c] : ¬ bz c = 0 ↔ c := by unfold bz; split <;> simp_all
theorem bz_nar {c : Prop} [Decidable c] : narrow .boolean (.int (bz c)) = .int (bz c) := by unfold bz; split <;> rfl
theorem bz_fit {c : Prop} [Decidable c] : fits .boolean (.int (bz c)) = true := by unfold bz; split <;> rfl

