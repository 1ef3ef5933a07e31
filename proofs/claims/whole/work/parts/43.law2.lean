/-! LAW 2: rows of the law's own methods: calls that act on one side's world, calls that throw and are caught -/
theorem jW_join {A0 : Nat → Prop} {D : va_G} {cl : List vw_C} {Fx W w : va_W} {H H1 : Heap} (hP : va_P D cl (Fx ++ W) H) (hD : va_D A0 (Fx ++ W)) (hF : ∀ q, va_A W H.size q → A0 q) (hk : ∀ q : Nat, q < H.size → ¬ va_A W H.size q → H1[q]? = H[q]?) (hP1 : va_P D cl w H1) (hD1 : va_D (va_A W H.size) w) : va_P D cl (Fx ++ w) H1 ∧ va_D A0 (Fx ++ w) := by
  obtain ⟨n0, a0⟩ := jD_iff.mp hD
  obtain ⟨n1, a1⟩ := jD_iff.mp hD1
  rw [List.map_append, List.nodup_append] at n0
  have hfx : ∀ q ∈ Fx, q.1 < H.size ∧ ¬ va_A W H.size q.1 := fun q hq => by
    obtain ⟨i, hi⟩ := List.getElem?_of_mem (List.mem_append_left W hq)
    have hlt := (hP i q hi).lt
    refine ⟨hlt, fun hA => ?_⟩
    rcases jA_mem.mp hA with h | h
    · exact n0.2.2 q.1 (List.mem_map.mpr ⟨q, hq, rfl⟩) q.1 h rfl
    · omega
  refine ⟨jP_iff.mpr fun q hq => ?_, jD_iff.mpr ⟨?_, fun q hq => ?_⟩⟩
  · rcases List.mem_append.mp hq with h | h
    · have h0 := jP_iff.mp hP q (List.mem_append_left _ h)
      exact h0.kept (hk q.1 (hfx q h).1 (hfx q h).2)
    · exact jP_iff.mp hP1 q h
  · rw [List.map_append, List.nodup_append]
    refine ⟨n0.1, n1, fun x hx y hy e => ?_⟩
    subst e
    obtain ⟨z, z1, z2⟩ := List.mem_map.mp hx
    obtain ⟨v, v1, v2⟩ := List.mem_map.mp hy
    refine (hfx z z1).2 ?_
    rw [z2, ← v2]
    exact a1 v v1
  · rcases List.mem_append.mp hq with h | h
    · exact a0 q (List.mem_append_left _ h)
    · exact hF _ (a1 q h)
theorem jW_free {A : Nat → Prop} {s : State} {Fx W ws : va_W} {H : Heap} {locs : List Loc} (hp : ws.Perm (Fx ++ W)) (h3 : va_D A ws) (h4 : va_S A s.heap H locs) (hA : ∀ q : Nat, s.heap.size ≤ q → A q) : ∀ q, va_A W H.size q → A q := by
  intro q hq
  rcases jA_mem.mp hq with h | h
  · obtain ⟨z, z1, z2⟩ := List.mem_map.mp h
    rw [← z2]
    exact (jD_iff.mp h3).2 z (hp.mem_iff.mpr (List.mem_append_right _ z1))
  · exact hA q (Nat.le_trans h4.1 h)
theorem jW_cut {D : va_G} {cl : List vw_C} {A : Nat → Prop} {Fx W ws : va_W} {H : Heap} (hp : ws.Perm (Fx ++ W)) (hP : va_P D cl ws H) (hD : va_D A ws) : va_P D cl W H ∧ va_D (fun _ => True) W := by
  refine ⟨jP_iff.mpr fun q hq => jP_iff.mp hP q (hp.mem_iff.mpr (List.mem_append_right _ hq)), jD_iff.mpr ⟨?_, fun _ _ => trivial⟩⟩
  have h := (jD_iff.mp (jD_perm hp hD)).1
  rw [List.map_append, List.nodup_append] at h
  exact h.2.1
theorem jW_z {A : Nat → Prop} {s U : State} {Fx W ws : va_W} {H : Heap} {locs : List Loc} (hZ : jXz A s s.heap) (hW : s.WarmedH U.vm) (hU : U.heap = H) (hp : ws.Perm (Fx ++ W)) (h3 : va_D A ws) (h4 : va_S A s.heap H locs) (hA : ∀ q : Nat, s.heap.size ≤ q → A q) : jXz (va_A W H.size) U U.heap := by
  have hFc := jW_free hp h3 h4 hA
  subst hU
  exact ⟨vx_Zq.moved hW.alike ((hZ.1.kept (fun q h1 h2 => h4.2.1 q h1 h2)).narrow hFc), vx_Zq.moved hW.alike ((hZ.2.kept (fun q h1 h2 => h4.2.1 q h1 h2)).narrow hFc)⟩
theorem j_enterH {l : Launch} {y : MethodName} {wsy wsr : List Cond} {rm : Room} {g : jG} {As : List Value} {wc : va_W} {Qc : Nat → Array Value → State → Outcome → State → Prop} {cc : ByteArray} {maxL : Nat} {ret : Option FieldType} {hh : List (Nat × Nat × Nat × Nat)} {own : String} {L : List (Nat × Value)} (hy : plainName y.cls = true) (hw : wsy = Cond.codeWith y cc maxL ret hh :: wsr) (hown : y.cls = own) (hle : (lg_sl As).length ≤ maxL) (hL : lv_args 0 As = L)
    (body : ∀ (p : Program) (e : Env) (s : State) (m : MethodId) (args : Array Value) (below : List Frame) (meth : Method) (c : Code), jC p s m args meth c cc wsy own maxL (va_A wc s.heap.size) g → meth.sig.returnType = ret → c.exceptionTable.toList = tableOf hh → jXs s → jXz (va_A wc s.heap.size) s s.heap → jNc s →
      jJ p l e (headSpec wsy rm).room s m args below meth c (MQ below (Qc s.heap.size) args s rm.cells rm.slots (va_A wc s.heap.size)) (va_A wc s.heap.size) g (va_S (va_A wc s.heap.size) s.heap) maxL 0 0 0 L [] wc) : ∀ sz, Met l y wsy rm (jPy g As wc sz) (Qc sz) rm.cells rm.slots (va_A wc sz) := by
  intro sz
  have key : vx_Met l y wsy rm (jPy g As wc sz) (Qc sz) (fun _ _ _ => False) rm.cells rm.slots (va_A wc sz) := by
    refine vx_ofWH (cc := cc) (maxL := maxL) (ret := ret) (hh := hh) hy hw ?_
    intro p e s m args below meth c s₁ B hml hv
    obtain ⟨⟨rfl, hsz, hP, hE, hD0⟩, hs, hz, hn⟩ := hv
    have hts := atoms_spec (ws := wsy) B.pre
    have ho : s.vm.findClass own = some m.cls := by rw [← hown]; exact findClass_of_methodNamed B.named
    have htab := vx_table (x := y) B (hts _ (by rw [hw]; exact List.mem_cons_self))
    subst hsz
    have hl := lv_entry As (n := maxL) hle
    rw [lg_entry_eq]
    generalize (lg_sl As ++ List.replicate (maxL - (lg_sl As).length) Slot.unset).toArray = ls at hl ⊢
    rw [hL] at hl
    exact vx_ret (body p e s m _ below meth c ⟨B.exec, B.bytes, hml, ho, hts, B.notSynchronized, hE, fun _ h => Or.inr h⟩ B.returns htab hs hz hn s.heap [] ls hl hP hD0.self va_S.rf)
  intro p e ha hc hk s m args below hf happ hP hK
  obtain ⟨n, o, q1, q2, q3, hq⟩ := key p e ha hc hk s m args below hf happ hP hK
  rcases hq with hq | ⟨q, e1, E, ce, L9, hx, -⟩
  · exact ⟨n, o, q1, q2, q3, hq⟩
  · exact hx.elim
section JROWS9
variable {p : Program} {l : Launch} {e : Env} {R : Room} {s : State} {m : MethodId} {args : Array Value} {below : List Frame} {meth : Method} {c : Code} {Q : State → Prop} {A : Nat → Prop} {g : jG} {nL cells slots pc : Nat} {L : List (Nat × Value)} {st : List Value} {ws : va_W} {cc : ByteArray} {Ts : List Cond} {own : String}
variable {y : MethodName} {wsy wsr : List Cond} {rm : Room} {n index : Nat} {bytes : ByteArray} {maxL : Nat} {ret : Option FieldType} {As st0 rest : List Value} {Fx V : va_W} {Cn : String} {b N : Nat} {T : u_T} {v : Value} {Good : va_W → Prop}
theorem j_oBack {a9 : Array Value} {oc : Outcome} {H : Heap} {locs : List Loc} {ls : Array Slot} (C : jC p s m args meth c cc Ts own nL A g) (h1 : lv_has ls nL L) (h2 : va_P g.1 vwCl ws H) (h3 : va_D A ws) (h4 : va_S A s.heap H locs) (hp : ws.Perm (Fx ++ V)) (hoc : oc = .returned (some v))
    (hr : va_Run p l e R s m args below meth c H locs cells slots rm.cells rm.slots (F0 m pc ls st0) rest (jQo oc Good g (va_A V H.size) a9) (va_A V H.size))
    (k : ∀ w, Good w → jJ p l e R s m args below meth c Q A g (va_S A s.heap) nL (cells + rm.cells) (slots + rm.slots) (pc + 3) L (v :: rest) (Fx ++ w)) : W p l e R s m args below meth c H locs cells slots Q (F0 m pc ls st0) := by
  have hFc := jW_free hp h3 h4 C.2.2.2.2.2.2.2
  intro T9 hT X
  obtain ⟨v', st₀, t, T', L9, h0, X', hL, e1, e2, ⟨⟨ho, w, hw, hP1, hD1⟩, hF⟩, st⟩ := hr T9 hT X
  obtain ⟨k1, k2, k3⟩ := vx_keep h0 e1 h4 (fun q _ h => hFc q h) hFc hL hF
  rw [hoc] at ho
  cases ho
  obtain ⟨j1, j2⟩ := jW_join (jP_perm hp h2) (jD_perm hp h3) hFc k2 (by rw [e1]; exact hP1) hD1
  obtain ⟨t2, a1, b1⟩ := k w hw T'.heap (locs ++ L9) ls h1 j1 j2 k3 T' rfl X'
  exact ⟨t2, st t2 a1, b1⟩
theorem j_oV {oc : Outcome} (C : jC p s m args meth c cc Ts own nL A g) (hX : jXs s) (hZ : jXz A s s.heap) (hN : jNc s) (hM : jO l y wsy rm g (.ref b :: As) V oc Good) (hG : GoodIn Ts (wsV own index Cn y wsy)) (hw : wsy = Cond.code y bytes maxL ret :: wsr)
    (hds : y.cls = Cn ∧ y.cls ≠ "java/lang/invoke/MethodHandle" ∧ y.cls ≠ "java/lang/invoke/VarHandle" ∧ (parseMethodDescriptor y.desc).map (fun d => d.parameters.length) = some As.length) (hR : rm.frames + 1 ≤ R.frames ∧ 8 + (maxL + 11) + rm.locals ≤ R.locals)
    (hp : ws.Perm (Fx ++ V)) (hrv : ∃ (i : Nat) (fs : List Value), V[i]? = some (b, (.inr (n, fs) : va_E))) (hcl : vwCl[n]? = some (Cn, T, N)) (hd : decode cc pc = .ok (.invokevirtual index, 3)) (hst : st0 = As.reverse ++ .ref b :: rest) (hrm : (rest.map fun v => v.category).sum ≤ 8) (hf : cells + rm.cells ≤ R.cells ∧ slots + rm.slots ≤ R.slots) (hoc : oc = .returned (some v))
    (k : ∀ w, Good w → jJ p l e R s m args below meth c Q A g (va_S A s.heap) nL (cells + rm.cells) (slots + rm.slots) (pc + 3) L (v :: rest) (Fx ++ w)) : jJ p l e R s m args below meth c Q A g (va_S A s.heap) nL cells slots pc L st0 ws := fun H locs ls h1 h2 h3 h4 => by
  obtain ⟨c2, c3⟩ := jW_cut hp h2 h3
  obtain ⟨i9, fs, hi⟩ := hrv
  exact j_oBack C h1 h2 h3 h4 hp hoc (va_runV (As := As) (rest := rest) ⟨C.1, C.2.1, C.2.2.1, C.2.2.2.1, C.2.2.2.2.1⟩ (hM H.size) (cwV As.length C.2.2.2.2.1 hG hw rfl rfl hds hR) ⟨jPy.blind, va_recv C.2.2.2.2.2.2.1.1 c2 hcl hi, fun U hU hW => ⟨⟨rfl, by rw [hU], by rw [hU]; exact c2, C.2.2.2.2.2.2.1.warm hW, c3⟩, hX.warm hW, jW_z hZ hW hU hp h3 h4 C.2.2.2.2.2.2.2, hN.moved hW.alike⟩⟩ rfl rfl h1.1 hst (lv_room hrm) hd hf) k
theorem j_oS {oc : Outcome} {hh : List (Nat × Nat × Nat × Nat)} (C : jC p s m args meth c cc Ts own nL A g) (hX : jXs s) (hZ : jXz A s s.heap) (hN : jNc s) (hM : jO l y wsy rm g As V oc Good) (hG : GoodIn Ts (va_wsS own index y wsy)) (hw : wsy = Cond.codeWith y bytes maxL ret hh :: wsr)
    (hds : y.cls ≠ "java/lang/invoke/MethodHandle" ∧ y.cls ≠ "java/lang/invoke/VarHandle" ∧ (parseMethodDescriptor y.desc).map (fun d => d.parameters.length) = some As.length) (hR : rm.frames + 1 ≤ R.frames ∧ 8 + (maxL + 11) + rm.locals ≤ R.locals)
    (hp : ws.Perm (Fx ++ V)) (hd : decode cc pc = .ok (.invokestatic index, 3)) (hst : st0 = As.reverse ++ rest) (hrm : (rest.map fun v => v.category).sum ≤ 8) (hf : cells + rm.cells ≤ R.cells ∧ slots + rm.slots ≤ R.slots) (hoc : oc = .returned (some v))
    (k : ∀ w, Good w → jJ p l e R s m args below meth c Q A g (va_S A s.heap) nL (cells + rm.cells) (slots + rm.slots) (pc + 3) L (v :: rest) (Fx ++ w)) : jJ p l e R s m args below meth c Q A g (va_S A s.heap) nL cells slots pc L st0 ws := fun H locs ls h1 h2 h3 h4 => by
  obtain ⟨c2, c3⟩ := jW_cut hp h2 h3
  exact j_oBack C h1 h2 h3 h4 hp hoc (vx_runSW (hh := hh) (As := As) (rest := rest) ⟨C.1, C.2.1, C.2.2.1, C.2.2.2.1, C.2.2.2.2.1⟩ (hM H.size) (vx_cwSW As.length C.2.2.2.2.1 hG hw rfl rfl hds hR) ⟨jPy.blind, fun U hU hW => ⟨⟨rfl, by rw [hU], by rw [hU]; exact c2, C.2.2.2.2.2.2.1.warm hW, c3⟩, hX.warm hW, jW_z hZ hW hU hp h3 h4 C.2.2.2.2.2.2.2, hN.moved hW.alike⟩⟩ rfl rfl h1.1 hst (lv_room hrm) hd hf) k
/-- the class throws, and it is caught here -/
theorem j_oX {E : String} (pre : List ExceptionTableEntry) (x : ExceptionTableEntry) (suf : List ExceptionTableEntry) (C : jC p s m args meth c cc Ts own nL A g) (hX : jXs s) (hZ : jXz A s s.heap) (hN : jNc s) (hM : jOx l y wsy rm g (.ref b :: As) V E) (hG : GoodIn Ts (wsV own index Cn y wsy)) (hw : wsy = Cond.code y bytes maxL ret :: wsr)
    (hds : y.cls = Cn ∧ y.cls ≠ "java/lang/invoke/MethodHandle" ∧ y.cls ≠ "java/lang/invoke/VarHandle" ∧ (parseMethodDescriptor y.desc).map (fun d => d.parameters.length) = some As.length) (hR : rm.frames + 1 ≤ R.frames ∧ 8 + (maxL + 11) + rm.locals ≤ R.locals)
    (hp : ws.Perm (Fx ++ V)) (hrv : ∃ (i : Nat) (fs : List Value), V[i]? = some (b, (.inr (n, fs) : va_E))) (hcl : vwCl[n]? = some (Cn, T, N)) (hd : decode cc pc = .ok (.invokevirtual index, 3)) (hst : st0 = As.reverse ++ .ref b :: rest) (hrm : (rest.map fun v => v.category).sum ≤ 8) (hf : cells + rm.cells ≤ R.cells ∧ slots + rm.slots ≤ R.slots)
    (hsplit : c.exceptionTable.toList = pre ++ x :: suf) (hpass : ∀ z ∈ pre, covers z pc = false ∨ (z.catchType ≠ 0 ∧ ∃ nm : String, (Cond.classLink own z.catchType nm).before args s = true ∧ va_Nc E nm s)) (hcov : covers x pc = true) (h0 : x.catchType ≠ 0) (hlink : Cond.classLink own x.catchType E ∈ Ts) (hEm : E ∈ jXe)
    (k : ∀ q : Nat, jJ p l e R s m args below meth c Q A g (va_S A s.heap) nL (cells + rm.cells) (slots + rm.slots) x.handlerPc L [.ref q] (Fx ++ V)) : jJ p l e R s m args below meth c Q A g (va_S A s.heap) nL cells slots pc L st0 ws := fun H locs ls h1 h2 h3 h4 => by
  obtain ⟨c2, c3⟩ := jW_cut hp h2 h3
  obtain ⟨i9, fs, hi⟩ := hrv
  have hFc := jW_free hp h3 h4 C.2.2.2.2.2.2.2
  have hr := vx_runV (As := As) (rest := rest) ⟨C.1, C.2.1, C.2.2.1, C.2.2.2.1, C.2.2.2.2.1⟩ (hM H.size) (cwV As.length C.2.2.2.2.1 hG hw rfl rfl hds hR) ⟨jPy.blind, va_recv C.2.2.2.2.2.2.1.1 c2 hcl hi, fun U hU hW => ⟨⟨rfl, by rw [hU], by rw [hU]; exact c2, C.2.2.2.2.2.2.1.warm hW, c3⟩, hX.warm hW, jW_z hZ hW hU hp h3 h4 C.2.2.2.2.2.2.2, hN.moved hW.alike⟩⟩ (g := F0 m pc ls st0) (p := p) (e := e) (below := below) (meth := meth) (locs := locs) (cells := cells) (slots := slots) rfl rfl h1.1 hst (lv_room hrm) hd hf
  intro T9 hT X
  rcases hr T9 hT X with ⟨v, st₀, t, T', L9, g0, X', hL, e1, e2, hF, st⟩ | ⟨q, st₀, t, T', L9, E', ce, g0, X', hL, e1, e2, ⟨u, hu, ⟨hE, hB⟩, hF⟩, hce, hcv, hcl9, st⟩
  · exact hF.elim
  · subst hE
    obtain ⟨k1, k2, k3⟩ := vx_keep g0 e1 h4 (fun q _ h => hFc q h) hFc hL hF
    obtain ⟨j1, j2⟩ := jW_join (jP_perm hp h2) (jD_perm hp h3) hFc k2 (by rw [e1]; exact hB) c3.self
    obtain ⟨t2, a1, b1⟩ := vx_catch (rest := rest) C.2.2.2.1 pre x suf hsplit hpass hcov h0 (C.2.2.2.2.1 _ hlink) (va_Nw.use rfl (hX.2.1 _ hEm)) (by rw [e1]; exact hce) hcv hcl9 (k q T'.heap (locs ++ L9) ls h1 j1 j2 k3) T' rfl X'
    exact ⟨t2, st.trans a1, b1⟩
theorem j_iretO {i : Int32} (C : jC p s m args meth c cc Ts own nL A g) (hr : meth.sig.returnType = some .int) (hd : decode cc pc = .ok (.ireturn, 1)) (hg : Good ws) : jJ p l e R s m args below meth c (MQ below (jQo (jOi i) Good g A) args s cells slots A) A g (va_S A s.heap) nL cells slots pc L [.int i] ws := fun H locs ls h1 h2 h3 h4 =>
  W.iret C.1 C.2.1 hr (fun t ht hW => ⟨⟨rfl, ws, hg, by rw [ht]; exact h2, h3⟩, h4.F ht⟩) h4.2.2 hd (hlocks := C.2.2.2.2.2.1)
end JROWS9
