/-! constructors: the callee's world grows -/
theorem jset_joinN {A0 : Nat → Prop} {D : va_G} {cl : List vw_C} {ws wc w1 ex : va_W} {H H1 : Heap} {ks : List Nat} (hP : va_P D cl ws H) (hD : va_D A0 ws) (hC : ks.map (fun i => ws[i]?) = wc.map some) (hw : w1.map (·.1) = wc.map (·.1)) (hF : ∀ q, va_A wc H.size q → A0 q)
    (hk : ∀ q : Nat, q < H.size → ¬ va_A wc H.size q → H1[q]? = H[q]?) (hP1 : va_P D cl (w1 ++ ex) H1) (hD1 : va_D (va_A wc H.size) (w1 ++ ex)) : va_P D cl (jset ws ks w1 ++ ex) H1 ∧ va_D A0 (jset ws ks w1 ++ ex) := by
  have hPl : va_P D cl w1 H1 := jP_iff.mpr fun q hq => jP_iff.mp hP1 q (List.mem_append_left _ hq)
  have hPr : va_P D cl ex H1 := jP_iff.mpr fun q hq => jP_iff.mp hP1 q (List.mem_append_right _ hq)
  obtain ⟨j1, j2⟩ := jset_join hP hD hC hw hk hPl
  refine ⟨jP_iff.mpr fun q hq => ?_, ?_⟩
  · rcases List.mem_append.mp hq with h | h
    · exact jP_iff.mp j1 q h
    · exact jP_iff.mp hPr q h
  · rw [jD_iff] at j2 hD1 ⊢
    obtain ⟨n1, a1⟩ := hD1
    rw [List.map_append, List.nodup_append] at n1
    refine ⟨?_, fun q hq => ?_⟩
    · rw [List.map_append, List.nodup_append]
      refine ⟨j2.1, n1.2.1, fun x hx y hy e => ?_⟩
      subst e
      rw [jset_fst hC hw] at hx
      obtain ⟨z, z1, z2⟩ := List.mem_map.mp hx
      obtain ⟨i, hi⟩ := List.getElem?_of_mem z1
      have hlt := (hP i z hi).lt
      obtain ⟨v, v1, v2⟩ := List.mem_map.mp hy
      rcases a1 v (List.mem_append_right _ v1) with ⟨k, e9, h9⟩ | h9
      · refine n1.2.2 x ?_ x hy rfl
        rw [hw]
        exact List.mem_map.mpr ⟨_, List.mem_of_getElem? h9, v2⟩
      · omega
    · rcases List.mem_append.mp hq with h | h
      · exact j2.2 q h
      · exact hF _ (a1 q (List.mem_append_right _ h))
/-- a constructor's contract: u tells of the cells that it made -/
abbrev jNv {S : Type} (l : Launch) (y : MethodName) (wsy : List Cond) (rm : Room) (mc ms : Nat) (g : jG) (As : List Value) (wc : va_W) (wf : S → va_W) : Prop := ∀ sz, Met l y wsy rm (jPc g As wc sz) (va_Qv (fun (_ : S) => True) (fun u t => va_P g.1 vwCl (wf u) t.heap ∧ va_D (va_A wc sz) (wf u)) (va_A wc sz)) mc ms (va_A wc sz)
theorem j_enterN {l : Launch} {y : MethodName} {wsy wsr : List Cond} {rm : Room} {g : jG} {As : List Value} {wc : va_W} {Qc : Nat → Array Value → State → Outcome → State → Prop} {mc ms : Nat} {cc : ByteArray} {maxL : Nat} {ret : Option FieldType} {own : String} {L : List (Nat × Value)} (hy : plainName y.cls = true) (hw : wsy = Cond.code y cc maxL ret :: wsr) (hown : y.cls = own) (hle : (lg_sl As).length ≤ maxL) (hL : lv_args 0 As = L)
    (body : ∀ (p : Program) (e : Env) (s : State) (m : MethodId) (args : Array Value) (below : List Frame) (meth : Method) (c : Code), jC p s m args meth c cc wsy own maxL (va_A wc s.heap.size) g → meth.sig.returnType = ret → meth.name = y.name →
      jJ p l e (headSpec wsy rm).room s m args below meth c (MQ below (Qc s.heap.size) args s mc ms (va_A wc s.heap.size)) (va_A wc s.heap.size) g (va_S (va_A wc s.heap.size) s.heap) maxL 0 0 0 L [] wc) : ∀ sz, Met l y wsy rm (jPc g As wc sz) (Qc sz) mc ms (va_A wc sz) := by
  intro sz
  refine Met.ofW (cc := cc) (maxL := maxL) (ret := ret) hy hw ?_
  intro p e s m args below meth c s₁ B hml hv
  obtain ⟨rfl, hsz, hP, hE, hD0⟩ := hv
  have hts := atoms_spec (ws := wsy) B.pre
  have ho : s.vm.findClass own = some m.cls := by rw [← hown]; exact findClass_of_methodNamed B.named
  subst hsz
  have hl := lv_entry As (n := maxL) hle
  rw [lg_entry_eq]
  generalize (lg_sl As ++ List.replicate (maxL - (lg_sl As).length) Slot.unset).toArray = ls at hl ⊢
  rw [hL] at hl
  exact body p e s m _ below meth c ⟨B.exec, B.bytes, hml, ho, hts, B.notSynchronized, hE, fun _ h => Or.inr h⟩ B.returns (name_of_methodNamed B.named B.method).1 s.heap [] ls hl hP hD0.self va_S.rf
abbrev jNi {S : Type} (l : Launch) (y : MethodName) (wsy : List Cond) (rm : Room) (mc ms : Nat) (g : jG) (As : List Value) (wc : va_W) (wf : S → va_W) (v : Int32) : Prop := ∀ sz, Met l y wsy rm (jPc g As wc sz) (va_Qi (fun r (_ : S) => r = v) (fun u t => va_P g.1 vwCl (wf u) t.heap ∧ va_D (va_A wc sz) (wf u)) (va_A wc sz)) mc ms (va_A wc sz)
section JROWS6
variable {p : Program} {l : Launch} {e : Env} {R : Room} {s : State} {m : MethodId} {args : Array Value} {below : List Frame} {meth : Method} {c : Code} {Q : State → Prop} {A : Nat → Prop} {g : jG} {I : Heap → List Loc → Prop} {nL cells slots pc : Nat} {L : List (Nat × Value)} {st : List Value} {ws : va_W} {cc : ByteArray} {Ts : List Cond} {own : String}
theorem j_vretN {S : Type} {post : S → Prop} {wf : S → va_W} (C : jC p s m args meth c cc Ts own nL A g) (hr : meth.sig.returnType = none) (hd : decode cc pc = .ok (.return_, 1)) (u : S) (hv : post u) (hw : wf u = ws) : jJ p l e R s m args below meth c (MQ below (va_Qv post (fun u t => va_P g.1 vwCl (wf u) t.heap ∧ va_D A (wf u)) A) args s cells slots A) A g (va_S A s.heap) nL cells slots pc L [] ws := fun H locs ls h1 h2 h3 h4 => by
  subst hw
  exact W.vret C.1 C.2.1 hr (fun t ht hW => ⟨⟨u, rfl, hv, by show va_P g.1 vwCl (wf u) t.heap; rw [ht]; exact h2, h3⟩, h4.F ht⟩) h4.2.2 hd (hlocks := C.2.2.2.2.2.1)
theorem j_callNv {mc ms : Nat} {S : Type} {post : S → Prop} {w1 ex : S → va_W} {wc : va_W} {st0 rest : List Value} {a9 : Array Value} (ks : List Nat) (ws' : S → va_W) (C : jC p s m args meth c cc Ts own nL A g) (hr : jRun p l e R s m args below meth c A g nL cells slots mc ms pc L st0 rest ws (fun z => va_Qv post (fun u t => va_P g.1 vwCl (w1 u ++ ex u) t.heap ∧ va_D (va_A wc z) (w1 u ++ ex u)) (va_A wc z) a9) (fun z => va_A wc z))
    (hk : ks.map (fun i => ws[i]?) = wc.map some) (hfst : ∀ u, (w1 u).map (·.1) = wc.map (·.1)) (hs : ∀ u, jset ws ks (w1 u) ++ ex u = ws' u) (k : ∀ u, post u → jJ p l e R s m args below meth c Q A g (va_S A s.heap) nL (cells + mc) (slots + ms) (pc + 3) L rest (ws' u)) : jJ p l e R s m args below meth c Q A g (va_S A s.heap) nL cells slots pc L st0 ws := fun H locs ls h1 h2 h3 h4 => by
  have hFc := va_free h3 h4 C.2.2.2.2.2.2.2 ks hk
  refine va_callv (hr H locs ls h1 h2 h3) h4 (fun q _ h => hFc q h) hFc (fun u t H1 locs1 ht hvm hw hB hz hk1 hS => ?_)
  rw [ht] at hB
  obtain ⟨j1, j2⟩ := jset_joinN h2 h3 hk (hfst u) hFc hk1 hB.1 hB.2
  rw [hs u] at j1 j2
  exact k u hw H1 locs1 ls h1 j1 j2 hS
theorem j_iretN {S : Type} {post : Int32 → S → Prop} {wf : S → va_W} {v : Int32} (C : jC p s m args meth c cc Ts own nL A g) (hr : meth.sig.returnType = some .int) (hd : decode cc pc = .ok (.ireturn, 1)) (u : S) (hv : post v u) (hw : wf u = ws) : jJ p l e R s m args below meth c (MQ below (va_Qi post (fun u t => va_P g.1 vwCl (wf u) t.heap ∧ va_D A (wf u)) A) args s cells slots A) A g (va_S A s.heap) nL cells slots pc L [.int v] ws := fun H locs ls h1 h2 h3 h4 => by
  subst hw
  exact W.iret C.1 C.2.1 hr (fun t ht hW => ⟨⟨v, u, rfl, hv, by show va_P g.1 vwCl (wf u) t.heap; rw [ht]; exact h2, h3⟩, h4.F ht⟩) h4.2.2 hd (hlocks := C.2.2.2.2.2.1)
theorem j_callNi {mc ms : Nat} {S : Type} {post : Int32 → S → Prop} {w1 ex : S → va_W} {wc : va_W} {st0 rest : List Value} {a9 : Array Value} (ks : List Nat) (ws' : S → va_W) (C : jC p s m args meth c cc Ts own nL A g) (hr : jRun p l e R s m args below meth c A g nL cells slots mc ms pc L st0 rest ws (fun z => va_Qi post (fun u t => va_P g.1 vwCl (w1 u ++ ex u) t.heap ∧ va_D (va_A wc z) (w1 u ++ ex u)) (va_A wc z) a9) (fun z => va_A wc z))
    (hk : ks.map (fun i => ws[i]?) = wc.map some) (hfst : ∀ u, (w1 u).map (·.1) = wc.map (·.1)) (hs : ∀ u, jset ws ks (w1 u) ++ ex u = ws' u) (k : ∀ r u, post r u → jJ p l e R s m args below meth c Q A g (va_S A s.heap) nL (cells + mc) (slots + ms) (pc + 3) L (.int r :: rest) (ws' u)) : jJ p l e R s m args below meth c Q A g (va_S A s.heap) nL cells slots pc L st0 ws := fun H locs ls h1 h2 h3 h4 => by
  have hFc := va_free h3 h4 C.2.2.2.2.2.2.2 ks hk
  refine va_calli (hr H locs ls h1 h2 h3) h4 (fun q _ h => hFc q h) hFc (fun r u t H1 locs1 ht hvm hw hB hz hk1 hS => ?_)
  rw [ht] at hB
  obtain ⟨j1, j2⟩ := jset_joinN h2 h3 hk (hfst u) hFc hk1 hB.1 hB.2
  rw [hs u] at j1 j2
  exact k r u hw H1 locs1 ls h1 j1 j2 hS
theorem j_objInit {idx a : Nat} (C : jC p s m args meth c cc Ts own nL A g) (hd : decode cc pc = .ok (.invokespecial idx, 3)) (h1 : Cond.methodLink own idx Lib.objectInit ∈ Ts) (h2 : Cond.instanceMethod Lib.objectInit ∈ Ts) (h3 : Cond.code Lib.objectInit ⟨#[0xb1]⟩ 1 none ∈ Ts) (hf : 1 ≤ R.frames) (hl : (st.map fun v => v.category).sum + 12 ≤ R.locals) (k : jJ p l e R s m args below meth c Q A g I nL cells slots (pc + 3) L st ws) : jJ p l e R s m args below meth c Q A g I nL cells slots pc L (.ref a :: st) ws := fun H locs ls q1 q2 q3 q4 =>
  W.objInit C.1 C.2.1 C.2.2.2.1 (C.2.2.2.2.1 _ h1) (C.2.2.2.2.1 _ h2) (C.2.2.2.2.1 _ h3) (g := F0 m pc ls (.ref a :: st)) rfl (q1.1.trans C.2.2.1.symm) rfl hd hf (by show 2 * 0 + _ + 12 ≤ _; omega) (k H locs ls q1 q2 q3 q4)
theorem j_putF {a ci N ix : Nat} {Cn : String} {T : u_T} {fs : List Value} {v : Value} {ty : FieldType} (ty0 : Nat → FieldType) (q k0 : Nat) {ws' : va_W} (C : jC p s m args meth c cc Ts own nL A g) (hd : decode cc pc = .ok (.putfield ix, 3)) (hin : ∀ w ∈ u_ws Cn T N, w ∈ Ts) (hty : ∀ k, k < N → parseFieldDescriptor (T k).2.2.1 = some (ty0 k)) (hnm : ∀ a, a < N → ∀ b, b < N → a ≠ b → (T a).2.1 ≠ (T b).2.1) (hq : ws[q]? = some (a, .inr (ci, fs))) (hc : vwCl[ci]? = some (Cn, T, N)) (hk : k0 < N) (hw : Cond.fieldLink own ix (T k0).1 (T k0).2.1 (T k0).2.2.1 ∈ Ts) (hfin : (T k0).2.2.2 = true) (hmn : meth.name = "<init>") (hdc : (T k0).1 = own) (hdn : parseFieldDescriptor (T k0).2.2.1 = some ty) (hn : narrow ty v = v) (hfit : fits ty v = true) (hl : k0 < fs.length) (hs : ws.set q (a, .inr (ci, fs.set k0 v)) = ws') (k : jJ p l e R s m args below meth c Q A g (va_S A s.heap) nL cells slots (pc + 3) L st ws') : jJ p l e R s m args below meth c Q A g (va_S A s.heap) nL cells slots pc L (v :: .ref a :: st) ws := fun H locs ls h1 h2 h3 h4 => va_putF C.1 C.2.1 C.2.2.2.2.1 hin ty0 hty hnm C.2.2.2.1 C.2.2.2.2.2.2.1.1 h2 h3 h4 q hq hc k0 hk (C.2.2.2.2.1 _ hw) (fun _ h9 => h9) hfin hmn hdc hdn hn hfit hl hd (fun H1 locs1 g2 g3 g4 => k H1 locs1 ls h1 (hs ▸ g2) (hs ▸ g3) g4)
theorem j_new {Cn : String} {T : u_T} {N ci index : Nat} {fs : List Value} (ty : Nat → FieldType) (C : jC p s m args meth c cc Ts own nL A g) (hd : decode cc pc = .ok (.new index, 3)) (hin : ∀ w ∈ u_ws Cn T N, w ∈ Ts) (hty : ∀ k, k < N → parseFieldDescriptor (T k).2.2.1 = some (ty k)) (h1 : Cond.classLink own index Cn ∈ Ts) (h2 : Cond.instantiable Cn N ∈ Ts) (h3 : Cond.initialized Cn ∈ Ts) (hc : vwCl[ci]? = some (Cn, T, N)) (hfs : ∀ j, j < N → defaultValue (ty j) = vp_V fs j) (hf : cells + 1 ≤ R.cells ∧ slots + N ≤ R.slots) (k : ∀ q : Nat, jJ p l e R s m args below meth c Q A g (va_S A s.heap) nL (cells + 1) (slots + N) (pc + 3) L (.ref q :: st) (ws ++ [(q, .inr (ci, fs))])) : jJ p l e R s m args below meth c Q A g (va_S A s.heap) nL cells slots pc L st ws := fun H locs ls q1 q2 q3 q4 =>
  va_new C.1 C.2.1 C.2.2.2.2.1 hin ty hty C.2.2.2.1 (C.2.2.2.2.1 _ h1) (C.2.2.2.2.1 _ h2) (C.2.2.2.2.1 _ h3) C.2.2.2.2.2.2.1.1 q2 q3 q4 C.2.2.2.2.2.2.2 hc hfs hf.1 hf.2 hd (fun q H1 g2 g3 g4 => k q H1 locs ls q1 g2 g3 g4)
theorem j_runSC {y : MethodName} {wsy wsr : List Cond} {rm : Room} {Qc : Nat → Array Value → State → Outcome → State → Prop} {fr : Nat → Nat → Prop} {mc ms index : Nat} {bytes : ByteArray} {maxL : Nat} {ret : Option FieldType} {As st0 rest : List Value} {wc : va_W} (ks : List Nat) (C : jC p s m args meth c cc Ts own nL A g) (hM : ∀ sz, Met l y wsy rm (jPc g As wc sz) (Qc sz) mc ms (fr sz)) (hG : GoodIn Ts (va_wsS own index y wsy)) (hw : wsy = Cond.code y bytes maxL ret :: wsr) (hrc : rm.cells = mc) (hrs : rm.slots = ms)
    (hds : y.cls ≠ "java/lang/invoke/MethodHandle" ∧ y.cls ≠ "java/lang/invoke/VarHandle" ∧ (parseMethodDescriptor y.desc).map (fun d => d.parameters.length) = some As.length) (hR : rm.frames + 1 ≤ R.frames ∧ 8 + (maxL + 11) + rm.locals ≤ R.locals)
    (hk : ks.map (fun i => ws[i]?) = wc.map some) (hnd : va_nd ks = true) (hd : decode cc pc = .ok (.invokestatic index, 3)) (hst : st0 = As.reverse ++ rest) (hrm : (rest.map fun v => v.category).sum ≤ 8) (hf : cells + mc ≤ R.cells ∧ slots + ms ≤ R.slots) :
    jRun p l e R s m args below meth c A g nL cells slots mc ms pc L st0 rest ws (fun z => Qc z As.toArray) fr := fun H locs ls h1 h2 h3 => by
  obtain ⟨c2, c3⟩ := j_cut (g := g) hk hnd h2 h3
  exact va_runS (As := As) (rest := rest) ⟨C.1, C.2.1, C.2.2.1, C.2.2.2.1, C.2.2.2.2.1⟩ (hM H.size) (va_cwS As.length C.2.2.2.2.1 hG hw hrc hrs hds hR) ⟨jPc.blind, fun U hU hW => ⟨rfl, by rw [hU], by rw [hU]; exact c2, C.2.2.2.2.2.2.1.warm hW, c3⟩⟩ rfl rfl h1.1 hst (lv_room hrm) hd hf
theorem j_runIN {y : MethodName} {wsy wsr : List Cond} {rm : Room} {Qc : Nat → Array Value → State → Outcome → State → Prop} {fr : Nat → Nat → Prop} {mc ms index : Nat} {bytes : ByteArray} {maxL : Nat} {As st0 rest : List Value} {wc : va_W} {b : Nat} (ks : List Nat) {host : String} (C : jC p s m args meth c cc Ts own nL A g) (hM : ∀ sz, Met l y wsy rm (jPc g (.ref b :: As) wc sz) (Qc sz) mc ms (fr sz)) (hG : GoodIn Ts wsy) (hw : wsy = Cond.code y bytes maxL none :: wsr) (hrc : rm.cells = mc) (hrs : rm.slots = ms) (hl : va_Nw (.methodLinkNest own index y host) s) (hini : Cond.initialized y.cls ∈ Ts) (hin : Cond.instanceMethod y ∈ Ts) (hyn : y.name = "<init>")
    (hds : y.cls ≠ "java/lang/invoke/MethodHandle" ∧ y.cls ≠ "java/lang/invoke/VarHandle" ∧ (parseMethodDescriptor y.desc).map (fun d => d.parameters.length) = some As.length) (hR : rm.frames + 1 ≤ R.frames ∧ 8 + (maxL + 11) + rm.locals ≤ R.locals)
    (hk : ks.map (fun i => ws[i]?) = wc.map some) (hnd : va_nd ks = true) (hd : decode cc pc = .ok (.invokespecial index, 3)) (hst : st0 = As.reverse ++ .ref b :: rest) (hrm : (rest.map fun v => v.category).sum ≤ 8) (hf : cells + mc ≤ R.cells ∧ slots + ms ≤ R.slots) :
    jRun p l e R s m args below meth c A g nL cells slots mc ms pc L st0 rest ws (fun z => Qc z (Value.ref b :: As).toArray) fr := fun H locs ls h1 h2 h3 => by
  obtain ⟨c2, c3⟩ := j_cut (g := g) hk hnd h2 h3
  exact va_runIN (As := As) (rest := rest) ⟨C.1, C.2.1, C.2.2.1, C.2.2.2.1, C.2.2.2.2.1⟩ (hM H.size) ⟨va_cnB As.length C.2.2.2.2.1 hG hw hrc hrs hl (C.2.2.2.2.1 _ hini) hds hR, hyn, C.2.2.2.2.1 _ hin⟩ ⟨jPc.blind, fun U hU hW => ⟨rfl, by rw [hU], by rw [hU]; exact c2, C.2.2.2.2.2.2.1.warm hW, c3⟩⟩ rfl rfl h1.1 hst (lv_room hrm) hd hf
theorem j_aastP {a ci n N x v : Nat} {T : u_T} {f : Nat → Option Nat} {vs : List Value} {i : Int32} {ws' : va_W} (q qv : Nat) (C : jC p s m args meth c cc Ts own nL A g) (hd : decode cc pc = .ok (.aastore, 1)) (hq : ws[q]? = some (a, jaP g n f)) (hv : ws[qv]? = some (v, .inr (ci, vs))) (hc : vwCl[ci]? = some ("LoopJoiner$Program", T, N)) (hi : i = nI x) (hx : x < n) (hn : n < 2 ^ 31) (hs : ws.set q (a, jaP g n (va_up f x (some v))) = ws') (k : jJ p l e R s m args below meth c Q A g (va_S A s.heap) nL cells slots (pc + 1) L st ws') : jJ p l e R s m args below meth c Q A g (va_S A s.heap) nL cells slots pc L (.ref v :: .int i :: .ref a :: st) ws := fun H locs ls h1 h2 h3 h4 => by
  subst hi
  refine va_astq C.1 C.2.1 C.2.2.2.2.2.2.1.1 h2 h3 h4 q 3 qv ci hq rfl hv hc (vp_in_nI hx hn) hd (fun H1 locs1 g2 g3 g4 => ?_)
  rw [nI_clamp (by omega)] at g2 g3
  exact k H1 locs1 ls h1 (hs ▸ g2) (hs ▸ g3) g4
end JROWS6
theorem jm_le {x y : Nat} (hx : x < 2 ^ 30) (hy : y < 2 ^ 30) : nI x - 1 ≤ nI y ↔ x ≤ y + 1 := by
  rw [Int32.le_iff_toInt_le, show (1 : Int32) = nI 1 from rfl, pk_sub_toInt hx (by decide), nI_toInt (by omega)]
  omega
theorem jCs_0 (d v : Nat) : jCs d v 0 = fun _ => 0 := by
  funext i
  unfold jCs jLy
  split
  · rw [Nat.zero_div, Nat.zero_mod]; rfl
  · rfl
/-- what is owed of the class's reasons: under a well program they are the reference's -/
def jEqJ : Prop := ∀ (n : Nat) (f : Nat → Int32), jOk n f → ∀ k a b : Nat, k + 1 < n → f (k * 28 + 3) = nI a → a ≤ 6 → f ((k + 1) * 28 + 3) = nI b → b ≤ 6 → jAJ f k a b = jRJ f k a b
theorem jFj_w {f : Nat → Int32} : ∀ (m k : Nat), jFj f m k < k + m → jWy f (jFj f m k) = 0
  | 0, k, h => by unfold jFj at h; omega
  | m + 1, k, h => by
    rw [jFj_s] at h ⊢
    split
    · assumption
    · rw [if_neg (by assumption)] at h
      exact jFj_w m (k + 1) (by omega)
theorem jFj_z {n x a b : Nat} {f : Nat → Int32} (hok : jOk n f) (hx : x = jFj f (n - 1) 0) (hF : x + 1 < n) (ha : f (x * 28 + 3) = nI a) (ha6 : a ≤ 6) (hb : f ((x + 1) * 28 + 3) = nI b) (hb6 : b ≤ 6) : jRJ f x a b = 0 := by
  rw [← jWy_of ha ha6 hb hb6, hx]
  exact jFj_w _ _ (by omega)
theorem jpl_p2 {F G : Nat → Nat × va_E} {N k : Nat} (hk : k < N) : (F k :: G k :: (jrest F N k ++ jrest G N k)).Perm (jpl F N ++ jpl G N) := by
  have h1 := (jpl_p (F := F) hk).append (jpl_p (F := G) hk)
  refine List.Perm.trans ?_ h1
  rw [List.cons_append]
  exact List.Perm.cons _ (List.perm_middle.symm)
theorem jpl_q2 {F G : Nat → Nat × va_E} {N k : Nat} (hk : k < N) : (jpl F N ++ jpl G N).Perm (F k :: G k :: (jrest F N k ++ jrest G N k)) := (jpl_p2 hk).symm
