/-! BUILDING: the constructors, over lists of cells -/
theorem va_AOA.moved {ty : FieldType} {u U : State} (hvm : u.vm.Alike U.vm) (h : va_AOA ty u) : va_AOA ty U := by
  unfold va_AOA Cond.before Cond.holds at h ⊢
  simp only [Cond.value, beq_iff_eq] at h ⊢
  cases hc : u.vm.findClass (FieldType.array ty).toString with
  | none => simp [hc] at h
  | some comp =>
    simp only [hc, Option.bind_some] at h
    rw [Option.bind_eq_some_iff] at h
    obtain ⟨c, hi, h2⟩ := h
    rw [Option.map_eq_some_iff] at h2
    obtain ⟨k, hk, hb⟩ := h2
    obtain ⟨k', hk', he⟩ := hvm.2.2 _ _ hk
    have hkk : k'.kind = k.kind := by rw [he]
    rw [hvm.findClass, hvm.findClass, hc, Option.bind_some, Option.bind_eq_some_iff]
    refine ⟨c, (hvm.findIdx?_eqK _ (fun _ => rfl)).trans hi, ?_⟩
    rw [hk', Option.map_some]
    rw [hkk]
    exact congrArg some hb
/-- array classes, by kind: 0 int, 1 long, 2 rows, 3 boolean -/
abbrev b_T (cy : Nat → ClassId) : List (ClassId × FieldType) := [(cy 0, .int), (cy 1, .long), (cy 2, .array .int), (cy 3, .boolean)]
def b_WW (Γ : hG) (D : va_G) (pc : Nat) (lo : List (Nat × Value)) (st : List Value) (ws : va_W) (k j : Nat) : Prop :=
  ∀ (H : Heap) (locs : List Loc) (ls : Array Slot), va_P D vwCl ws H → va_D (g_A Γ) ws → va_S (g_A Γ) (g_s Γ).heap H locs → lv_has ls (g_n Γ) lo →
    W (g_p Γ) (g_l Γ) (g_e Γ) (g_R Γ) (g_s Γ) (g_m Γ) (g_a Γ) (g_b Γ) (g_t Γ) (g_c Γ) H locs k j (g_Q Γ) (F0 (g_m Γ) pc ls st)
abbrev b_C (Γ : hG) (D : va_G) (cy : Nat → ClassId) (l : Launch) (nL : Nat) (cc : ByteArray) (Ts : List Cond) (own : String) (fr lc mc ms : Nat) : Prop :=
  (g_p Γ).tables.exec = Jvm.exec ∧ (g_c Γ).code = cc ∧ (g_c Γ).maxLocals = g_n Γ ∧ (g_s Γ).vm.findClass own = some (g_m Γ).cls ∧ (∀ w ∈ Ts, w.before (g_a Γ) (g_s Γ) = true) ∧ va_K D vwCl (b_T cy) (g_s Γ) ∧ (∀ q : Nat, (g_s Γ).heap.size ≤ q → g_A Γ q) ∧ fr ≤ (g_R Γ).frames ∧ lc ≤ (g_R Γ).locals ∧ mc ≤ (g_R Γ).cells ∧ ms ≤ (g_R Γ).slots ∧ g_l Γ = l ∧ g_n Γ = nL ∧ h_N (g_s Γ) ∧ va_AOA .int (g_s Γ)
def b_Pre (D : va_G) (cy : Nat → ClassId) (w0 : va_W) (sz : Nat) : State → Prop := fun U => U.heap.size = sz ∧ va_P D vwCl w0 U.heap ∧ va_K D vwCl (b_T cy) U ∧ va_D (fun _ => True) w0 ∧ h_N U ∧ va_AOA .int U
def b_Mv {S : Type} (l : Launch) (y : MethodName) (ws : List Cond) (fr lc mc ms : Nat) (D : va_G) (cy : Nat → ClassId) (avs : List Value) (w0 : va_W) (w1 : S → va_W) : Prop := ∀ sz : Nat, Met l y ws { frames := fr, cells := mc, slots := ms, locals := lc } (va_Pc avs (b_Pre D cy w0 sz)) (va_Qv (fun _ : S => True) (fun q t => va_P D vwCl (w1 q) t.heap ∧ va_K D vwCl (b_T cy) t ∧ va_D (va_A w0 sz) (w1 q)) (va_A w0 sz)) mc ms (va_A w0 sz)
theorem b_blind {D : va_G} {cy : Nat → ClassId} {w0 : va_W} {sz : Nat} {avs : List Value} : FrameBlind (va_Pc avs (b_Pre D cy w0 sz)) := fun a U g mk q => by
  obtain ⟨q0, q1, qP, qK, qD, qN, qA⟩ := q
  exact ⟨q0, q1, qP, va_K.moved (u := U) (U := U.calling g mk a) (Vm.Alike.refl U.vm) qK, qD, h_N.same (s := U) (U := U.calling g mk a) rfl qN, va_AOA.moved (u := U) (U := U.calling g mk a) (Vm.Alike.refl U.vm) qA⟩
set_option maxHeartbeats 1000000 in
theorem b_Mv.of {S : Type} {l : Launch} {y : MethodName} {ws ws' : List Cond} {fr lc mc ms : Nat} {D : va_G} {cy : Nat → ClassId} {avs : List Value} {w0 : va_W} {w1 : S → va_W} {cc : ByteArray} {maxL : Nat} (lo0 : List (Nat × Value)) (hy : plainFor y = true) (hw : ws = Cond.code y cc maxL none :: ws') (hlen : (lg_sl avs).length ≤ maxL) (hlo : lv_args 0 avs = lo0)
    (k : ∀ Γ : hG, b_C Γ D cy l maxL cc ws y.cls fr lc mc ms → (g_t Γ).name = y.name → (∀ {pc : Nat} {lo : List (Nat × Value)} {k' j' : Nat} (q : S), decode cc pc = .ok (.return_, 1) → k' ≤ mc → j' ≤ ms → b_WW Γ D pc lo [] (w1 q) k' j') → b_WW Γ D 0 lo0 [] w0 0 0) : b_Mv l y ws fr lc mc ms D cy avs w0 w1 := by
  intro sz
  refine h_ofWF (cc := cc) (maxL := maxL) (ret := none) hy hw ?_
  intro p e s m args below meth c s₁ B hml hv
  obtain ⟨rfl, hsz, hP, hK, hD0, hNw, hAO⟩ := hv
  have hown : s.vm.findClass y.cls = some m.cls := findClass_of_methodNamed B.named
  subst hsz
  have hD := hD0.self (sz := s.heap.size)
  have hA : ∀ q : Nat, s.heap.size ≤ q → va_A w0 s.heap.size q := fun q h => Or.inr h
  have hl := lv_entry avs (n := maxL) hlen
  rw [hlo] at hl
  rw [lg_entry_eq]
  generalize (lg_sl avs ++ List.replicate (maxL - (lg_sl avs).length) Slot.unset).toArray = ls at hl ⊢
  have hr := B.returns
  have hlk := B.notSynchronized
  have hnm : meth.name = y.name := (name_of_methodNamed B.named B.method).1
  generalize hqe : MQ below _ avs.toArray s mc ms (va_A w0 s.heap.size) = Q
  have key := k (p, l, e, { frames := fr, cells := mc, slots := ms, locals := lc }, s, m, avs.toArray, below, meth, c, Q, va_A w0 s.heap.size, maxL, 0, 0) ⟨B.exec, B.bytes, hml, hown, atoms_spec (ws := ws) B.pre, hK, hA, Nat.le_refl _, Nat.le_refl _, Nat.le_refl _, Nat.le_refl _, rfl, rfl, hNw, hAO⟩ hnm ?_
  · exact key s.heap [] ls hP hD va_S.rf hl
  · intro pc lo k' j' q hdg hk hj H locs ls2 a b c2 d
    subst hqe
    refine W.widen (k := mc) (n := ms) hk hj ?_
    exact W.vret B.exec B.bytes hr (fun t ht hW => ⟨⟨q, rfl, trivial, by rw [ht]; exact a, va_K.moved hW.alike hK, b⟩, c2.F ht⟩) c2.2.2 hdg hlk
section HB
variable {Γ : hG} {D : va_G} {cy : Nat → ClassId} {l : Launch} {nL : Nat} {cc : ByteArray} {Ts : List Cond} {own : String} {fr lc mc ms pc : Nat} {lo lo' : List (Nat × Value)} {st : List Value} {ws : va_W} {k j : Nat}
theorem z_aload_n (K : b_C Γ D cy l nL cc Ts own fr lc mc ms) {k0 : Fin 4} {i : Nat} {x : Nat} (q : Nat) (hdg : decode cc pc = .ok (.aload_n k0, 1)) (hi : (k0 : Nat) = i) (hl : lo[q]? = some (i, .ref x)) (kk : b_WW Γ D (pc + 1) lo (.ref x :: st) ws k j) : b_WW Γ D pc lo st ws k j := fun H locs ls a b c d => lv_aload_n K.1 K.2.1 hdg hi (lv_at d q hl) (kk H locs ls a b c d)
theorem z_iconst (K : b_C Γ D cy l nL cc Ts own fr lc mc ms) {n : Int} {v : Int32} (hdg : decode cc pc = .ok (.iconst n, 1)) (hv : Int32.ofInt n = v) (kk : b_WW Γ D (pc + 1) lo (.int v :: st) ws k j) : b_WW Γ D pc lo st ws k j := fun H locs ls a b c d => lv_iconst K.1 K.2.1 hdg hv (kk H locs ls a b c d)
theorem z_bipush (K : b_C Γ D cy l nL cc Ts own fr lc mc ms) {n : Int} {v : Int32} (hdg : decode cc pc = .ok (.bipush n, 2)) (hv : (Int8.ofInt n).toInt32 = v) (kk : b_WW Γ D (pc + 2) lo (.int v :: st) ws k j) : b_WW Γ D pc lo st ws k j := fun H locs ls a b c d => lv_bipush K.1 K.2.1 hdg hv (kk H locs ls a b c d)
theorem z_lconst (K : b_C Γ D cy l nL cc Ts own fr lc mc ms) {n : Fin 2} {v : Int64} (hdg : decode cc pc = .ok (.lconst n, 1)) (hv : Int64.ofNat (n : Nat) = v) (kk : b_WW Γ D (pc + 1) lo (.long v :: st) ws k j) : b_WW Γ D pc lo st ws k j := fun H locs ls a b c d => lv_lconst K.1 K.2.1 hdg hv (kk H locs ls a b c d)
theorem z_dup (K : b_C Γ D cy l nL cc Ts own fr lc mc ms) {v : Value} (hdg : decode cc pc = .ok (.dup, 1)) (hv : v.category = 1) (kk : b_WW Γ D (pc + 1) lo (v :: v :: st) ws k j) : b_WW Γ D pc lo (v :: st) ws k j := fun H locs ls a b c d => lv_dup K.1 K.2.1 hdg hv (kk H locs ls a b c d)
theorem z_obj (K : b_C Γ D cy l nL cc Ts own fr lc mc ms) {idx a0 : Nat} (hlink : Cond.methodLink own idx objectInit ∈ Ts) (hinst : Cond.instanceMethod objectInit ∈ Ts) (hcode : Cond.code objectInit ⟨#[0xb1]⟩ 1 none ∈ Ts) (hfr : 1 ≤ fr) (hlc : (st.map fun v => v.category).sum + 12 ≤ lc) (hdg : decode cc pc = .ok (.invokespecial idx, 3)) (kk : b_WW Γ D (pc + 3) lo st ws k j) : b_WW Γ D pc lo (.ref a0 :: st) ws k j := fun H locs ls a b c d => by
  refine W.objInit (rest := st) K.1 K.2.1 K.2.2.2.1 (K.2.2.2.2.1 _ hlink) (K.2.2.2.2.1 _ hinst) (K.2.2.2.2.1 _ hcode) rfl (by rw [K.2.2.1]; exact d.1) rfl hdg (Nat.le_trans hfr K.2.2.2.2.2.2.2.1) (Nat.le_trans (show 2 * 0 + _ + 12 ≤ lc by omega) K.2.2.2.2.2.2.2.2.1) ?_
  exact kk H locs ls a b c d
theorem z_get (K : b_C Γ D cy l nL cc Ts own fr lc mc ms) {a0 ci index : Nat} {C ref : String} {T : u_T} {N : Nat} {fs : List Value} {v : Value} (q0 k0 : Nat) (he : ws[q0]? = some (a0, .inr (ci, fs))) (hc : vwCl[ci]? = some (C, T, N)) (hin : ∀ w ∈ u_ws C T N, w ∈ Ts) (hkN : k0 < N) (hlink : Cond.fieldLink own index ref (T k0).2.1 (T k0).2.2.1 ∈ Ts) (href : (T k0).1 = ref) (hv : fs[k0]? = some v) (hdg : decode cc pc = .ok (.getfield index, 3)) (kk : b_WW Γ D (pc + 3) lo (v :: st) ws k j) : b_WW Γ D pc lo (.ref a0 :: st) ws k j := fun H locs ls a b c d => va_get K.1 K.2.1 K.2.2.2.2.1 hin K.2.2.2.1 K.2.2.2.2.2.1 a q0 he hc k0 hkN (K.2.2.2.2.1 _ hlink) (fun _ h9 => by rw [← href]; exact h9) hv hdg (kk H locs ls a b c d)
theorem z_getN (K : b_C Γ D cy l nL cc Ts own fr lc mc ms) {a0 ci index : Nat} {C ref host : String} {T : u_T} {N : Nat} {fs : List Value} {v : Value} (q0 k0 : Nat) (he : ws[q0]? = some (a0, .inr (ci, fs))) (hc : vwCl[ci]? = some (C, T, N)) (hin : ∀ w ∈ u_ws C T N, w ∈ Ts) (hkN : k0 < N) (hlink : (own, index, ref, (T k0).2.1, (T k0).2.2.1, host) ∈ h_nF) (href : (T k0).1 = ref) (hv : fs[k0]? = some v) (hdg : decode cc pc = .ok (.getfield index, 3)) (kk : b_WW Γ D (pc + 3) lo (v :: st) ws k j) : b_WW Γ D pc lo (.ref a0 :: st) ws k j := fun H locs ls a b c d => va_getN K.1 K.2.1 K.2.2.2.2.1 hin K.2.2.2.1 K.2.2.2.2.2.1 a q0 he hc k0 hkN (va_Nw.use rfl (K.2.2.2.2.2.2.2.2.2.2.2.2.2.1.1 _ hlink)) (fun _ h9 => by rw [← href]; exact h9) hv hdg (kk H locs ls a b c d)
theorem z_put (K : b_C Γ D cy l nL cc Ts own fr lc mc ms) {a0 ci index : Nat} {C ref : String} {T : u_T} {N : Nat} {fs : List Value} {v : Value} {ty : FieldType} (q0 k0 : Nat) (he : ws[q0]? = some (a0, .inr (ci, fs))) (hc : vwCl[ci]? = some (C, T, N)) (hin : ∀ w ∈ u_ws C T N, w ∈ Ts) (hkN : k0 < N) (hlink : Cond.fieldLink own index ref (T k0).2.1 (T k0).2.2.1 ∈ Ts) (href : (T k0).1 = ref) (ty0 : Nat → FieldType) (hty : ∀ k, k < N → parseFieldDescriptor (T k).2.2.1 = some (ty0 k)) (hnm : ∀ a, a < N → ∀ b, b < N → a ≠ b → (T a).2.1 ≠ (T b).2.1) (hfin : (T k0).2.2.2 = false) (hd : parseFieldDescriptor (T k0).2.2.1 = some ty) (hn : narrow ty v = v) (hfit : fits ty v = true) (hl : k0 < fs.length) {ws' : va_W} (hws : ws.set q0 (a0, .inr (ci, fs.set k0 v)) = ws') (hdg : decode cc pc = .ok (.putfield index, 3)) (kk : b_WW Γ D (pc + 3) lo st ws' k j) : b_WW Γ D pc lo (v :: .ref a0 :: st) ws k j := fun H locs ls a b c d => va_put K.1 K.2.1 K.2.2.2.2.1 hin ty0 hty hnm K.2.2.2.1 K.2.2.2.2.2.1 a b c q0 he hc k0 hkN (K.2.2.2.2.1 _ hlink) (fun _ h9 => by rw [← href]; exact h9) hfin hd hn hfit hl hdg (fun H1 locs1 a1 b1 c1 => kk H1 locs1 ls (hws ▸ a1) (hws ▸ b1) c1 d)
theorem z_putF (K : b_C Γ D cy l nL cc Ts own fr lc mc ms) (hini : (g_t Γ).name = "<init>") {a0 ci index : Nat} {C ref : String} {T : u_T} {N : Nat} {fs : List Value} {v : Value} {ty : FieldType} (q0 k0 : Nat) (he : ws[q0]? = some (a0, .inr (ci, fs))) (hc : vwCl[ci]? = some (C, T, N)) (hin : ∀ w ∈ u_ws C T N, w ∈ Ts) (hkN : k0 < N) (hlink : Cond.fieldLink own index ref (T k0).2.1 (T k0).2.2.1 ∈ Ts) (href : (T k0).1 = ref) (ty0 : Nat → FieldType) (hty : ∀ k, k < N → parseFieldDescriptor (T k).2.2.1 = some (ty0 k)) (hnm : ∀ a, a < N → ∀ b, b < N → a ≠ b → (T a).2.1 ≠ (T b).2.1) (hfin : (T k0).2.2.2 = true) (hdecl : (T k0).1 = own) (hd : parseFieldDescriptor (T k0).2.2.1 = some ty) (hn : narrow ty v = v) (hfit : fits ty v = true) (hl : k0 < fs.length) {ws' : va_W} (hws : ws.set q0 (a0, .inr (ci, fs.set k0 v)) = ws') (hdg : decode cc pc = .ok (.putfield index, 3)) (kk : b_WW Γ D (pc + 3) lo st ws' k j) : b_WW Γ D pc lo (v :: .ref a0 :: st) ws k j := fun H locs ls a b c d => va_putF K.1 K.2.1 K.2.2.2.2.1 hin ty0 hty hnm K.2.2.2.1 K.2.2.2.2.2.1 a b c q0 he hc k0 hkN (K.2.2.2.2.1 _ hlink) (fun _ h9 => by rw [← href]; exact h9) hfin hini hdecl hd hn hfit hl hdg (fun H1 locs1 a1 b1 c1 => kk H1 locs1 ls (hws ▸ a1) (hws ▸ b1) c1 d)
theorem z_new (K : b_C Γ D cy l nL cc Ts own fr lc mc ms) {ci index : Nat} {C : String} {T : u_T} {N : Nat} {fs : List Value} (hin : ∀ w ∈ u_ws C T N, w ∈ Ts) (ty : Nat → FieldType) (hty : ∀ k, k < N → parseFieldDescriptor (T k).2.2.1 = some (ty k)) (hcl : Cond.classLink own index C ∈ Ts) (hinst : Cond.instantiable C N ∈ Ts) (hini : Cond.initialized C ∈ Ts) (hc : vwCl[ci]? = some (C, T, N)) (hfs : ∀ j, j < N → defaultValue (ty j) = vp_V fs j) (hk : k + 1 ≤ mc) (hj : j + N ≤ ms) (hdg : decode cc pc = .ok (.new index, 3)) (kk : ∀ q : Nat, b_WW Γ D (pc + 3) lo (.ref q :: st) (ws ++ [(q, .inr (ci, fs))]) (k + 1) (j + N)) : b_WW Γ D pc lo st ws k j := fun H locs ls a b c d =>
  va_new K.1 K.2.1 K.2.2.2.2.1 hin ty hty K.2.2.2.1 (K.2.2.2.2.1 _ hcl) (K.2.2.2.2.1 _ hinst) (K.2.2.2.2.1 _ hini) K.2.2.2.2.2.1 a b c K.2.2.2.2.2.2.1 hc hfs (Nat.le_trans hk K.2.2.2.2.2.2.2.2.2.1) (Nat.le_trans hj K.2.2.2.2.2.2.2.2.2.2.1) hdg (fun q H1 a1 b1 c1 => kk q H1 locs ls a1 b1 c1 d)
theorem z_newaI (K : b_C Γ D cy l nL cc Ts own fr lc mc ms) {n : Int32} {N : Nat} (harr : Cond.arrayClass .int ∈ Ts) (hn : n = nI N) (h31 : N < 1000) (hk : k + 1 ≤ mc) (hj : j + N ≤ ms) (hdg : decode cc pc = .ok (.newarray .int, 2)) (kk : ∀ q : Nat, b_WW Γ D (pc + 2) lo (.ref q :: st) (ws ++ [(q, .inl (cy 0, N, .inl (fun _ => 0)))]) (k + 1) (j + N)) : b_WW Γ D pc lo (.int n :: st) ws k j := fun H locs ls a b c d => by
  subst hn
  refine va_newa (atype := .int) (ty := .int) (a0 := (N, .inl (fun _ => 0))) K.1 K.2.1 (K.2.2.2.2.1 _ harr) rfl K.2.2.2.2.2.1 a b c K.2.2.2.2.2.2.1 (fun _ => rfl) (nI_pos (by omega)) (nI_clamp (by omega)) (by show N * 4 ≤ _; omega) (Nat.le_trans hk K.2.2.2.2.2.2.2.2.2.1) (Nat.le_trans hj K.2.2.2.2.2.2.2.2.2.2.1) hdg (fun q cA H1 hK1 a1 b1 c1 => ?_)
  have e : cA = cy 0 := Option.some.inj ((show _ = some cA from (hK1.2 4 _ rfl).2).symm.trans (K.2.2.2.2.2.1.2 0 _ rfl).2)
  subst e
  exact kk q H1 locs ls a1 b1 c1 d
theorem z_newaZ (K : b_C Γ D cy l nL cc Ts own fr lc mc ms) {n : Int32} {N : Nat} (harr : Cond.arrayClass .boolean ∈ Ts) (hn : n = nI N) (h31 : N < 1000) (hk : k + 1 ≤ mc) (hj : j + N ≤ ms) (hdg : decode cc pc = .ok (.newarray .boolean, 2)) (kk : ∀ q : Nat, b_WW Γ D (pc + 2) lo (.ref q :: st) (ws ++ [(q, .inl (cy 3, N, .inl (fun _ => 0)))]) (k + 1) (j + N)) : b_WW Γ D pc lo (.int n :: st) ws k j := fun H locs ls a b c d => by
  subst hn
  refine va_newa (atype := .boolean) (ty := .boolean) (a0 := (N, .inl (fun _ => 0))) K.1 K.2.1 (K.2.2.2.2.1 _ harr) rfl K.2.2.2.2.2.1 a b c K.2.2.2.2.2.2.1 (fun _ => rfl) (nI_pos (by omega)) (nI_clamp (by omega)) (by show N * 1 ≤ _; omega) (Nat.le_trans hk K.2.2.2.2.2.2.2.2.2.1) (Nat.le_trans hj K.2.2.2.2.2.2.2.2.2.2.1) hdg (fun q cA H1 hK1 a1 b1 c1 => ?_)
  have e : cA = cy 3 := Option.some.inj ((show _ = some cA from (hK1.2 4 _ rfl).2).symm.trans (K.2.2.2.2.2.1.2 3 _ rfl).2)
  subst e
  exact kk q H1 locs ls a1 b1 c1 d
theorem z_newaL (K : b_C Γ D cy l nL cc Ts own fr lc mc ms) {n : Int32} {N : Nat} (harr : Cond.arrayClass .long ∈ Ts) (hn : n = nI N) (h31 : N < 1000) (hk : k + 1 ≤ mc) (hj : j + N ≤ ms) (hdg : decode cc pc = .ok (.newarray .long, 2)) (kk : ∀ q : Nat, b_WW Γ D (pc + 2) lo (.ref q :: st) (ws ++ [(q, .inl (cy 1, N, .inr (.inl (fun _ => 0))))]) (k + 1) (j + N)) : b_WW Γ D pc lo (.int n :: st) ws k j := fun H locs ls a b c d => by
  subst hn
  refine va_newa (atype := .long) (ty := .long) (a0 := (N, .inr (.inl (fun _ => 0)))) K.1 K.2.1 (K.2.2.2.2.1 _ harr) rfl K.2.2.2.2.2.1 a b c K.2.2.2.2.2.2.1 (fun _ => rfl) (nI_pos (by omega)) (nI_clamp (by omega)) (by show N * 8 ≤ _; omega) (Nat.le_trans hk K.2.2.2.2.2.2.2.2.2.1) (Nat.le_trans hj K.2.2.2.2.2.2.2.2.2.2.1) hdg (fun q cA H1 hK1 a1 b1 c1 => ?_)
  have e : cA = cy 1 := Option.some.inj ((show _ = some cA from (hK1.2 4 _ rfl).2).symm.trans (K.2.2.2.2.2.1.2 1 _ rfl).2)
  subst e
  exact kk q H1 locs ls a1 b1 c1 d
end HB
