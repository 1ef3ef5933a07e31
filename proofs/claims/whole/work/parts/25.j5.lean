/-! exceptions: what the tables and the statics must give wherever the class throws -/
def jXl : List Nat := [64, 75, 93, 99, 107, 118, 127, 143, 193, 195, 197, 199, 205, 211, 220, 222]
def jXe : List String := ["java/lang/IndexOutOfBoundsException", "java/lang/IllegalArgumentException", "java/lang/IllegalStateException"]
def jXn : List String := ["java/lang/RuntimeException", "java/lang/Exception"]
def jXq : List MethodName := [Bundle.initS "java/lang/RuntimeException", Bundle.initS "java/lang/Exception", Bundle.initS Bundle.tN]
def jXb (E : String) : List Cond := [.declares (Bundle.initS "java/lang/RuntimeException"), .declares (Bundle.initS "java/lang/Exception"), .declares (Bundle.initS Bundle.tN), .castable E E]
def jXs (U : State) : Prop := (∀ k ∈ jXl, ∃ (tx : String) (a : Nat), vk_R "LoopJoiner" k tx a U) ∧ (∀ E ∈ jXe, va_Nw (.castable E E) U) ∧ ∀ y ∈ jXq, va_Nw (.declares y) U
def jXz (A : Nat → Prop) (U : State) (H : Heap) : Prop := vx_Zq Bundle.tN "UNASSIGNED_STACK" Bundle.steD A U H ∧ vx_Zq Bundle.tN "SUPPRESSED_SENTINEL" Bundle.listD A U H
theorem jXs.calling {U : State} {f : JFrame} {mk : MethodId} {a : Array Value} (h : jXs U) : jXs (U.calling f mk a) :=
  ⟨fun k hk => by obtain ⟨tx, q, h1⟩ := h.1 k hk; exact ⟨tx, q, vk_R.same (u := U) rfl h1⟩, fun E hE => (h.2.1 E hE).same rfl rfl, fun y hy => (h.2.2 y hy).same rfl rfl⟩
theorem jXs.warm {s U : State} (hW : s.WarmedH U.vm) (h : jXs s) : jXs U :=
  ⟨fun k hk => by obtain ⟨tx, q, h1⟩ := h.1 k hk; exact ⟨tx, q, vk_R.warm hW h1⟩, fun E hE => va_Nw.warmC hW (h.2.1 E hE), fun y hy => va_Nw.warmD hW (h.2.2 y hy)⟩
def jPx (g : jG) (As : List Value) (ws : va_W) (sz : Nat) : Array Value → State → Prop := fun a U => jPc g As ws sz a U ∧ jXs U ∧ jXz (va_A ws sz) U U.heap
theorem jPx.blind {g : jG} {As : List Value} {ws : va_W} {sz : Nat} : FrameBlind (jPx g As ws sz) := fun a U f mk ⟨h1, h2, h3, h4⟩ => ⟨jPc.blind a U f mk h1, h2.calling, vx_Zq.moved (u := U) (U := U.calling f mk a) (Vm.Alike.refl U.vm) h3, vx_Zq.moved (u := U) (U := U.calling f mk a) (Vm.Alike.refl U.vm) h4⟩
abbrev jXC (g : jG) (wc : va_W) (E : String) (A : Nat → Prop) : String → State → State → Prop := vx_X (fun _ : Unit => True) (fun E' _ t => E' = E ∧ va_P g.1 vwCl wc t.heap) A
/-- a contract of one that throws, for the arguments and the world at hand: no cell of the world changes -/
abbrev jXt (l : Launch) (y : MethodName) (wsy : List Cond) (rm : Room) (g : jG) (As : List Value) (wc : va_W) (E : String) : Prop := ∀ sz, vx_Met l y wsy rm (jPx g As wc sz) (fun _ _ _ _ => False) (jXC g wc E (va_A wc sz)) 1 6 (va_A wc sz)
theorem jat_77 : (vx_atS RX4 77 "java/lang/IllegalStateException" jXn).filter (fun w => !goodWord w) = jXb "java/lang/IllegalStateException" := by decide +kernel
theorem jat_66 : (vx_atS RX4 66 "java/lang/IllegalArgumentException" jXn).filter (fun w => !goodWord w) = jXb "java/lang/IllegalArgumentException" := by decide +kernel
theorem jat_109 : (vx_atS RX4 109 "java/lang/IndexOutOfBoundsException" jXn).filter (fun w => !goodWord w) = jXb "java/lang/IndexOutOfBoundsException" := by decide +kernel
theorem jot_77 : (vx_atS RX4 77 "java/lang/IllegalStateException" jXn).all vx_ot = true := by decide +kernel
theorem jot_66 : (vx_atS RX4 66 "java/lang/IllegalArgumentException" jXn).all vx_ot = true := by decide +kernel
theorem jot_109 : (vx_atS RX4 109 "java/lang/IndexOutOfBoundsException" jXn).all vx_ot = true := by decide +kernel
theorem j_enterX {l : Launch} {y : MethodName} {wsy wsr : List Cond} {rm : Room} {g : jG} {As : List Value} {wc : va_W} {XC : Nat → String → State → State → Prop} {cc : ByteArray} {maxL : Nat} {ret : Option FieldType} {own : String} {L : List (Nat × Value)} {mc ms : Nat} (hy : plainName y.cls = true) (hw : wsy = Cond.code y cc maxL ret :: wsr) (hown : y.cls = own) (hle : (lg_sl As).length ≤ maxL) (hL : lv_args 0 As = L)
    (body : ∀ (p : Program) (e : Env) (s : State) (m : MethodId) (args : Array Value) (below : List Frame) (meth : Method) (c : Code), jC p s m args meth c cc wsy own maxL (va_A wc s.heap.size) g → (∀ x ∈ c.exceptionTable.toList, False) → jXs s → jXz (va_A wc s.heap.size) s s.heap →
      jJ p l e (headSpec wsy rm).room s m args below meth c (vx_MQ below (fun _ _ _ _ => False) (XC s.heap.size) args s mc ms (va_A wc s.heap.size)) (va_A wc s.heap.size) g (va_S (va_A wc s.heap.size) s.heap) maxL 0 0 0 L [] wc) : ∀ sz, vx_Met l y wsy rm (jPx g As wc sz) (fun _ _ _ _ => False) (XC sz) mc ms (va_A wc sz) := by
  intro sz
  refine vx_ofW (cc := cc) (maxL := maxL) (ret := ret) hy hw ?_
  intro p e s m args below meth c s₁ B hml hx hv
  obtain ⟨⟨rfl, hsz, hP, hE, hD0⟩, hs, hz⟩ := hv
  have hts := atoms_spec (ws := wsy) B.pre
  have ho : s.vm.findClass own = some m.cls := by rw [← hown]; exact findClass_of_methodNamed B.named
  subst hsz
  have hl := lv_entry As (n := maxL) hle
  rw [lg_entry_eq]
  generalize (lg_sl As ++ List.replicate (maxL - (lg_sl As).length) Slot.unset).toArray = ls at hl ⊢
  rw [hL] at hl
  exact body p e s m _ below meth c ⟨B.exec, B.bytes, hml, ho, hts, B.notSynchronized, hE, fun _ h => Or.inr h⟩ hx hs hz s.heap [] ls hl hP hD0.self va_S.rf
def jSr (v : Nat) : Array Value → State → Outcome → State → Prop := fun _ st o t => o = .returned (some (.ref v)) ∧ t.heap = st.heap
section JROWS5
variable {p : Program} {l : Launch} {e : Env} {R : Room} {s : State} {m : MethodId} {args : Array Value} {below : List Frame} {meth : Method} {c : Code} {Q : State → Prop} {A : Nat → Prop} {g : jG} {I : Heap → List Loc → Prop} {nL cells slots pc : Nat} {L : List (Nat × Value)} {st : List Value} {ws : va_W} {cc : ByteArray} {Ts : List Cond} {own : String}
theorem j_throw {E : String} {ik is ic : Nat} {Qc : Array Value → State → Outcome → State → Prop} (C : jC p s m args meth c cc Ts "LoopJoiner" nL A g) (hl : l.stackTraces = false) (hX : jXs s) (hZ : jXz A s s.heap) (ht : ∀ x ∈ c.exceptionTable.toList, False) (hE : Bundle.fit E = true) (hEm : E ∈ jXe) (hi : is ∈ jXl)
    (hk : Cond.classLink "LoopJoiner" ik E ∈ Ts) (hini : Cond.initialized E ∈ Ts) (hat : ∀ w ∈ (vx_atS "LoopJoiner" ic E jXn).filter goodWord, w ∈ Ts) (hn : (vx_atS "LoopJoiner" ic E jXn).filter (fun w => !goodWord w) = jXb E) (hg : (vx_atS "LoopJoiner" ic E jXn).all vx_ot = true)
    (d0 : decode cc pc = .ok (.new ik, 3)) (d3 : decode cc (pc + 3) = .ok (.dup, 1)) (d4 : decode cc (pc + 4) = .ok (.ldc is, 2)) (d6 : decode cc (pc + 6) = .ok (.invokespecial ic, 3)) (d9 : decode cc (pc + 9) = .ok (.athrow, 1))
    (hRf : 5 < R.frames) (hRl : (st.map fun v => v.category).sum + 82 ≤ R.locals) (hRc : 1 ≤ R.cells) (hRs : 6 ≤ R.slots) : jJ p l e R s m args below meth c (vx_MQ below Qc (jXC g ws E A) args s 1 6 A) A g (va_S A s.heap) nL 0 0 pc L st ws := fun H locs ls h1 h2 h3 h4 => by
  obtain ⟨tx, sa, hstr⟩ := hX.1 is hi
  refine vx_throwS (names := jXn) (A := A) C.1 C.2.1 hl C.2.2.2.1 hE (by decide) (C.2.2.2.2.1 _ hk) (C.2.2.2.2.1 _ hini) hstr ?_ ?_ hZ.1 hZ.2 h4 (h1.1.trans C.2.2.1.symm) d0 d3 d4 d6 d9 (fun x hx => (ht x hx).elim) hRf hRl hRc hRs C.2.2.2.2.2.1 ?_ h4.2.2 (Nat.le_refl _) (Nat.le_refl _)
  · refine vx_hat (B := jXb E) (fun w hw => C.2.2.2.2.1 _ (hat w hw)) (fun w hw => by rw [hn] at hw; exact hw) ?_
    exact vx_c (va_Nw.use rfl (hX.2.2 _ (List.mem_of_getElem? (i := 0) rfl))) (vx_c (va_Nw.use rfl (hX.2.2 _ (List.mem_of_getElem? (i := 1) rfl))) (vx_c (va_Nw.use rfl (hX.2.2 _ (List.mem_of_getElem? (i := 2) rfl))) (vx_c (va_Nw.use rfl (hX.2.1 E hEm)) vx_n)))
  · intro w hw
    rcases List.mem_cons.mp hw with h | hw
    · subst h; rfl
    · rcases List.mem_cons.mp hw with h | hw
      · subst h; rfl
      · exact List.all_eq_true.mp hg w hw
  · intro t hal hsz hsame
    refine ⟨(), trivial, ⟨rfl, h2.kept (fun k q hk => hsame q.1 ((h2 k q hk).lt))⟩, Nat.le_trans h4.1 hsz, fun q hq1 hq2 => ?_⟩
    rw [hsame q (Nat.lt_of_lt_of_le hq1 h4.1)]
    exact h4.2.1 q hq1 hq2
theorem jXz_call {H : Heap} {locs : List Loc} {wc : va_W} {ks : List Nat} {U : State} (hZ : jXz A s s.heap) (hW : s.WarmedH U.vm) (hU : U.heap = H) (h3 : va_D A ws) (h4 : va_S A s.heap H locs) (hA : ∀ q : Nat, s.heap.size ≤ q → A q) (hk : ks.map (fun i => ws[i]?) = wc.map some) : jXz (va_A wc H.size) U U.heap := by
  have hFc := va_free h3 h4 hA ks hk
  subst hU
  exact ⟨vx_Zq.moved hW.alike ((hZ.1.kept (fun q h1 h2 => h4.2.1 q h1 h2)).narrow hFc), vx_Zq.moved hW.alike ((hZ.2.kept (fun q h1 h2 => h4.2.1 q h1 h2)).narrow hFc)⟩
theorem jX_end {E : String} {Qc : Array Value → State → Outcome → State → Prop} {wc : va_W} {ks : List Nat} {H : Heap} {locs : List Loc} {ls : Array Slot} {rest : List Value} (C : jC p s m args meth c cc Ts "LoopJoiner" nL A g) (ht : ∀ x ∈ c.exceptionTable.toList, False) (h2 : va_P g.1 vwCl ws H) (h3 : va_D A ws) (h4 : va_S A s.heap H locs) (hk : ks.map (fun i => ws[i]?) = wc.map some) (hs : jset ws ks wc = ws)
    (hr : vx_Run p l e R s m args below meth c H locs 0 0 1 6 (F0 m pc ls st) rest (fun _ _ _ => False) (jXC g wc E (va_A wc H.size)) (va_A wc H.size)) : W p l e R s m args below meth c H locs 0 0 (vx_MQ below Qc (jXC g ws E A) args s 1 6 A) (F0 m pc ls st) := by
  have hFc := va_free h3 h4 C.2.2.2.2.2.2.2 ks hk
  intro T hT X
  rcases hr T hT X with ⟨v, st₀, t, T', L, h0, X', hL, e1, e2, hF, st⟩ | ⟨q, st₀, t, T', L, E', ce, h0, X', hL, e1, e2, ⟨u, hp, ⟨hE, hB⟩, hF⟩, hce, hcv, hcl, st⟩
  · exact hF.elim
  · subst hE
    obtain ⟨k1, k2, k3⟩ := vx_keep h0 e1 h4 (fun q _ h => hFc q h) hFc hL hF
    have j1 := (jset_join h2 h3 hk rfl k2 (by rw [e1]; exact hB)).1
    rw [hs] at j1
    obtain ⟨t2, a1, b1⟩ := vx_out (E := E') (ce := ce) (pc := pc) (ls := ls) (rest := rest) (Qc := Qc) (XC := jXC g ws E' A) (mc := 1) (ms := 6) (free := A) (fun x hx => (ht x hx).elim) C.2.2.2.2.2.1 (by rw [e1]; exact hce) hcv hcl (fun t9 h9 _ => ⟨(), trivial, ⟨rfl, by rw [h9]; exact j1⟩, k3.F h9⟩) k3.2.2 (by omega) (by omega) T' rfl X'
    exact ⟨t2, st.trans a1, b1⟩
theorem j_xV {y : MethodName} {wsy wsr : List Cond} {rm : Room} {E : String} {Qc : Array Value → State → Outcome → State → Prop} {n index : Nat} {bytes : ByteArray} {maxL : Nat} {ret : Option FieldType} {As st0 rest : List Value} {wc : va_W} {Cn : String} {b ci N : Nat} {T : u_T} {fs : List Value} (ks : List Nat) (C : jC p s m args meth c cc Ts "LoopJoiner" nL A g) (hX : jXs s) (hZ : jXz A s s.heap) (ht : ∀ x ∈ c.exceptionTable.toList, False) (hM : ∀ sz, vx_Met l y wsy rm (jPx g (.ref b :: As) wc sz) (fun _ _ _ _ => False) (jXC g wc E (va_A wc sz)) 1 6 (va_A wc sz)) (hG : GoodIn Ts (wsV "LoopJoiner" index Cn y wsy)) (hw : wsy = Cond.code y bytes maxL ret :: wsr) (hrc : rm.cells = 1) (hrs : rm.slots = 6)
    (hds : y.cls = Cn ∧ y.cls ≠ "java/lang/invoke/MethodHandle" ∧ y.cls ≠ "java/lang/invoke/VarHandle" ∧ (parseMethodDescriptor y.desc).map (fun d => d.parameters.length) = some As.length) (hR : rm.frames + 1 ≤ R.frames ∧ 8 + (maxL + 11) + rm.locals ≤ R.locals)
    (hk : ks.map (fun i => ws[i]?) = wc.map some) (hnd : va_nd ks = true) (hs : jset ws ks wc = ws) (hrv : ws[ci]? = some (b, .inr (n, fs))) (hcl : vwCl[n]? = some (Cn, T, N)) (hd : decode cc pc = .ok (.invokevirtual index, 3)) (hst : st0 = As.reverse ++ .ref b :: rest) (hrm : (rest.map fun v => v.category).sum ≤ 8) (hf : 0 + 1 ≤ R.cells ∧ 0 + 6 ≤ R.slots) :
    jJ p l e R s m args below meth c (vx_MQ below Qc (jXC g ws E A) args s 1 6 A) A g (va_S A s.heap) nL 0 0 pc L st0 ws := fun H locs ls h1 h2 h3 h4 => by
  obtain ⟨c2, c3⟩ := j_cut (g := g) hk hnd h2 h3
  exact jX_end C ht h2 h3 h4 hk hs (vx_runV (As := As) (rest := rest) ⟨C.1, C.2.1, C.2.2.1, C.2.2.2.1, C.2.2.2.2.1⟩ (hM H.size) (cwV As.length C.2.2.2.2.1 hG hw hrc hrs hds hR) ⟨jPx.blind, va_recv C.2.2.2.2.2.2.1.1 h2 hcl hrv, fun U hU hW => ⟨⟨rfl, by rw [hU], by rw [hU]; exact c2, C.2.2.2.2.2.2.1.warm hW, c3⟩, hX.warm hW, jXz_call hZ hW hU h3 h4 C.2.2.2.2.2.2.2 hk⟩⟩ rfl rfl h1.1 hst (lv_room hrm) hd hf)
theorem j_xS {y : MethodName} {wsy wsr : List Cond} {rm : Room} {E : String} {Qc : Array Value → State → Outcome → State → Prop} {index : Nat} {bytes : ByteArray} {maxL : Nat} {ret : Option FieldType} {As st0 rest : List Value} {wc : va_W} (ks : List Nat) (C : jC p s m args meth c cc Ts "LoopJoiner" nL A g) (hX : jXs s) (hZ : jXz A s s.heap) (ht : ∀ x ∈ c.exceptionTable.toList, False) (hM : ∀ sz, vx_Met l y wsy rm (jPx g As wc sz) (fun _ _ _ _ => False) (jXC g wc E (va_A wc sz)) 1 6 (va_A wc sz)) (hG : GoodIn Ts (wsS "LoopJoiner" index y wsy)) (hw : wsy = Cond.code y bytes maxL ret :: wsr) (hrc : rm.cells = 1) (hrs : rm.slots = 6)
    (hds : y.cls = "LoopJoiner" ∧ y.cls ≠ "java/lang/invoke/MethodHandle" ∧ y.cls ≠ "java/lang/invoke/VarHandle" ∧ (parseMethodDescriptor y.desc).map (fun d => d.parameters.length) = some As.length) (hR : rm.frames + 1 ≤ R.frames ∧ 8 + (maxL + 11) + rm.locals ≤ R.locals)
    (hk : ks.map (fun i => ws[i]?) = wc.map some) (hnd : va_nd ks = true) (hs : jset ws ks wc = ws) (hd : decode cc pc = .ok (.invokestatic index, 3)) (hst : st0 = As.reverse ++ rest) (hrm : (rest.map fun v => v.category).sum ≤ 8) (hf : 0 + 1 ≤ R.cells ∧ 0 + 6 ≤ R.slots) :
    jJ p l e R s m args below meth c (vx_MQ below Qc (jXC g ws E A) args s 1 6 A) A g (va_S A s.heap) nL 0 0 pc L st0 ws := fun H locs ls h1 h2 h3 h4 => by
  obtain ⟨c2, c3⟩ := j_cut (g := g) hk hnd h2 h3
  exact jX_end C ht h2 h3 h4 hk hs (vx_runS (As := As) (rest := rest) ⟨C.1, C.2.1, C.2.2.1, C.2.2.2.1, C.2.2.2.2.1⟩ (hM H.size) (cwS As.length C.2.2.2.2.1 hG hw hrc hrs hds hR) ⟨jPx.blind, fun U hU hW => ⟨⟨rfl, by rw [hU], by rw [hU]; exact c2, C.2.2.2.2.2.2.1.warm hW, c3⟩, hX.warm hW, jXz_call hZ hW hU h3 h4 C.2.2.2.2.2.2.2 hk⟩⟩ rfl rfl h1.1 hst (lv_room hrm) hd hf)
theorem j_aload_nN {n : Fin 4} {i : Nat} (q : Nat) (C : jC p s m args meth c cc Ts own nL A g) (hd : decode cc pc = .ok (.aload_n n, 1)) (hn : (n : Nat) = i) (hq : L[q]? = some (i, .null)) (k : jJ p l e R s m args below meth c Q A g I nL cells slots (pc + 1) L (.null :: st) ws) : jJ p l e R s m args below meth c Q A g I nL cells slots pc L st ws := fun H locs ls h1 h2 h3 h4 => lv_aload_nN C.1 C.2.1 hd hn (lv_at h1 q hq) (k H locs ls h1 h2 h3 h4)
theorem j_aloadN {i : Nat} (q : Nat) (C : jC p s m args meth c cc Ts own nL A g) (hd : decode cc pc = .ok (.aload i, 2)) (hq : L[q]? = some (i, .null)) (k : jJ p l e R s m args below meth c Q A g I nL cells slots (pc + 2) L (.null :: st) ws) : jJ p l e R s m args below meth c Q A g I nL cells slots pc L st ws := fun H locs ls h1 h2 h3 h4 => lv_aloadN C.1 C.2.1 hd (lv_at h1 q hq) (k H locs ls h1 h2 h3 h4)
theorem j_astore_nN {n : Fin 4} {i : Nat} {L' : List (Nat × Value)} (C : jC p s m args meth c cc Ts own nL A g) (hd : decode cc pc = .ok (.astore_n n, 1)) (hn : (n : Nat) = i) (hi : i < nL) (hc : L.all (jcl1 i) = true) (hL : jput L i .null = L') (k : jJ p l e R s m args below meth c Q A g I nL cells slots (pc + 1) L' st ws) : jJ p l e R s m args below meth c Q A g I nL cells slots pc L (.null :: st) ws := fun H locs ls h1 h2 h3 h4 => lv_astore_nN C.1 C.2.1 hd hn h1 hi rfl (fun ls' h => k H locs ls' (jput_1 hc hL h) h2 h3 h4)
/-- a reader that returns an address -/
theorem j_aretR {rt : FieldType} {v v0 : Nat} (C : jC p s m args meth c cc Ts own nL A g) (hr : meth.sig.returnType = some rt) (hf : (∃ n, rt = .object n) ∨ ∃ t, rt = .array t) (hd : decode cc pc = .ok (.areturn, 1)) (hv : v = v0) : jJ p l e R s m args below meth c (MQ below (jSr v0) args s 0 0 (fun _ => False)) A g (jRO s) nL 0 0 pc L [.ref v] ws := fun H locs ls h1 h2 h3 h4 => by
  obtain ⟨rfl, rfl⟩ := h4
  exact W.aret C.1 C.2.1 hr hf (Or.inr ⟨_, rfl⟩) (fun t ht hW => ⟨by rw [hv], ht⟩) (fun q hq => absurd hq List.not_mem_nil) hd (hlocks := C.2.2.2.2.2.1)
theorem j_callRr {v : Nat} {st0 rest : List Value} {a9 : Array Value} (hr : jRun p l e R s m args below meth c A g nL cells slots 0 0 pc L st0 rest ws (fun _ => jSr v a9) (fun _ _ => False)) (k : jJ p l e R s m args below meth c Q A g I nL cells slots (pc + 3) L (.ref v :: rest) ws) : jJ p l e R s m args below meth c Q A g I nL cells slots pc L st0 ws := fun H locs ls h1 h2 h3 h4 => by
  intro T hT X
  obtain ⟨v9, st₀, t, T', L9, h0, X', hL, e1, ⟨hv, hh⟩, st⟩ := (hr H locs ls h1 h2 h3).run T hT X
  cases hv
  obtain ⟨t2, a1, b1⟩ := k H locs ls h1 h2 h3 h4 T' (by rw [e1, hh, h0]) (Stand.forget X' (fun q h => (hL q h).elim))
  exact ⟨t2, st t2 a1, b1⟩
end JROWS5
abbrev jRr (l : Launch) (y : MethodName) (wsy : List Cond) (rm : Room) (g : jG) (As : List Value) (wc : va_W) (v : Nat) : Prop := ∀ sz, Met l y wsy rm (jPc g As wc sz) (jSr v) 0 0 (fun _ => False)
theorem jBt_cases {x : Int32} {N : Nat} (hx : jBt x 0 (nI N - 1) = false) (h : ¬ (x < 0 ∨ 10 ≤ x)) (hN : N ≤ 10) : ∃ k, k < 10 ∧ N ≤ k ∧ x = nI k := by
  have h1 : ¬ x < 0 := fun z => h (Or.inl z)
  have h2 : ¬ 10 ≤ x := fun z => h (Or.inr z)
  have e := jI_nat h1
  have h4 : x.toNatClampNeg < 2 ^ 31 := by have := Int32.toInt_lt x; have h5 : x.toNatClampNeg = x.toInt.toNat := rfl; omega
  refine ⟨x.toNatClampNeg, ?_, ?_, e⟩
  · rw [e, show (10 : Int32) = nI 10 from rfl, nI_leI (by omega) h4] at h2
    omega
  · by_cases h3 : N ≤ x.toNatClampNeg
    · exact h3
    · rw [e, jBt_n (by omega) (by omega)] at hx
      cases hx
theorem jIsV_b (w : Int32) : jIsV w = jBt w 1000 1003 := by
  unfold jIsV jBt
  have e : decide ((1004 : Int32) ≤ w) = decide ((1003 : Int32) < w) := decide_eq_decide.mpr ?_
  · rw [e]
  rw [Int32.le_iff_toInt_le, Int32.lt_iff_toInt_lt, show (1004 : Int32).toInt = 1004 by decide, show (1003 : Int32).toInt = 1003 by decide]
  omega
theorem jBt_00 (x : Int32) : jBt x 0 0 = decide (x = 0) := by
  unfold jBt
  by_cases h : x = 0
  · subst h; decide
  · rw [decide_eq_false h]
    have h1 : x.toInt ≠ 0 := fun z => h (Int32.toInt_inj.mp (by rw [z]; decide))
    simp only [Int32.lt_iff_toInt_lt, show (0 : Int32).toInt = 0 by decide]
    by_cases h2 : x.toInt < 0
    · simp [h2]
    · simp [show 0 < x.toInt by omega]
theorem jD_4 {v3 : Int32} : (jBt 4 0 5 && jBt v3 0 (if (4 : Int32) = 4 then 0 else if (4 : Int32) = 5 then 100 else 3)) = decide (v3 = 0) := by
  rw [if_pos rfl, jBt_00, show jBt 4 0 5 = true by decide, Bool.true_and]
theorem jD_5 {v3 : Int32} : (jBt 5 0 5 && jBt v3 0 (if (5 : Int32) = 4 then 0 else if (5 : Int32) = 5 then 100 else 3)) = jBt v3 0 100 := by
  rw [if_neg (by decide), if_pos rfl, show jBt 5 0 5 = true by decide, Bool.true_and]
theorem jD_3 {v2 v3 : Int32} (h4 : ¬ v2 = 4) (h5 : ¬ v2 = 5) : (jBt v2 0 5 && jBt v3 0 (if v2 = 4 then 0 else if v2 = 5 then 100 else 3)) = (jBt v2 0 3 && jBt v3 0 3) := by
  rw [if_neg h4, if_neg h5]
  congr 1
  unfold jBt
  congr 2
  refine decide_eq_decide.mpr ?_
  have e4 : v2.toInt ≠ 4 := fun z => h4 (Int32.toInt_inj.mp (by rw [z]; decide))
  have e5 : v2.toInt ≠ 5 := fun z => h5 (Int32.toInt_inj.mp (by rw [z]; decide))
  simp only [Int32.lt_iff_toInt_lt, show (5 : Int32).toInt = 5 by decide, show (3 : Int32).toInt = 3 by decide]
  omega
