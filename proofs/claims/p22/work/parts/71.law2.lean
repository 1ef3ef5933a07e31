/-! LAW 2: rows of the law's own methods -/
theorem jW_join {A0 : Nat → Prop} {D : va_G} {cl : List vw_C} {Fx W w : va_W} {H H1 : Heap} (hP : va_P D cl (Fx ++ W) H) (hD : va_D A0 (Fx ++ W)) (hF : ∀ q, va_A W H.size q → A0 q) (hk : ∀ q : Nat, q < H.size → ¬ va_A W H.size q → H1[q]? = H[q]?) (hP1 : va_P D cl w H1) (hD1 : va_D (va_A W H.size) w) : va_P D cl (Fx ++ w) H1 ∧ va_D A0 (Fx ++ w) := by
  obtain ⟨n0, a0⟩ := jD_iff.mp hD
  obtain ⟨n1, a1⟩ := jD_iff.mp hD1
  rw [List.map_append, List.nodup_append] at n0
  have hfx : ∀ q ∈ Fx, q.1 < H.size ∧ ¬ va_A W H.size q.1 := fun q hq => by
    obtain ⟨i, hi⟩ := List.getElem?_of_mem (List.mem_append_left W hq)
    have hlt := (hP i q hi).lt
    refine ⟨hlt, fun hA => ?_⟩
    rcases jA_mem.mp hA with h | h
    · exact n0.2.2 q.1 (List.mem_map.mpr ⟨q, hq, rfl⟩) q.1 h rfl
    · omega
  refine ⟨jP_iff.mpr fun q hq => ?_, jD_iff.mpr ⟨?_, fun q hq => ?_⟩⟩
  · rcases List.mem_append.mp hq with h | h
    · have h0 := jP_iff.mp hP q (List.mem_append_left _ h)
      exact h0.kept (hk q.1 (hfx q h).1 (hfx q h).2)
    · exact jP_iff.mp hP1 q h
  · rw [List.map_append, List.nodup_append]
    refine ⟨n0.1, n1, fun x hx y hy e => ?_⟩
    subst e
    obtain ⟨z, z1, z2⟩ := List.mem_map.mp hx
    obtain ⟨v, v1, v2⟩ := List.mem_map.mp hy
    refine (hfx z z1).2 ?_
    rw [z2, ← v2]
    exact a1 v v1
  · rcases List.mem_append.mp hq with h | h
    · exact a0 q (List.mem_append_left _ h)
    · exact hF _ (a1 q h)
theorem jW_free {A : Nat → Prop} {s : State} {Fx W ws : va_W} {H : Heap} {locs : List Loc} (hp : ws.Perm (Fx ++ W)) (h3 : va_D A ws) (h4 : va_S A s.heap H locs) (hA : ∀ q : Nat, s.heap.size ≤ q → A q) : ∀ q, va_A W H.size q → A q := by
  intro q hq
  rcases jA_mem.mp hq with h | h
  · obtain ⟨z, z1, z2⟩ := List.mem_map.mp h
    rw [← z2]
    exact (jD_iff.mp h3).2 z (hp.mem_iff.mpr (List.mem_append_right _ z1))
  · exact hA q (Nat.le_trans h4.1 h)
theorem jW_cut {D : va_G} {cl : List vw_C} {A : Nat → Prop} {Fx W ws : va_W} {H : Heap} (hp : ws.Perm (Fx ++ W)) (hP : va_P D cl ws H) (hD : va_D A ws) : va_P D cl W H ∧ va_D (fun _ => True) W := by
  refine ⟨jP_iff.mpr fun q hq => jP_iff.mp hP q (hp.mem_iff.mpr (List.mem_append_right _ hq)), jD_iff.mpr ⟨?_, fun _ _ => trivial⟩⟩
  have h := (jD_iff.mp (jD_perm hp hD)).1
  rw [List.map_append, List.nodup_append] at h
  exact h.2.1
theorem jAssign (vm : Vm) (c : ClassId) : vm.assignable c c = true := by
  unfold Vm.assignable Vm.assignableAux
  simp
section JROWS9
variable {p : Program} {l : Launch} {e : Env} {R : Room} {s : State} {m : MethodId} {args : Array Value} {below : List Frame} {meth : Method} {c : Code} {Q : State → Prop} {A : Nat → Prop} {g : jG} {nL cells slots pc : Nat} {L : List (Nat × Value)} {st : List Value} {ws : va_W} {cc : ByteArray} {Ts : List Cond} {own : String}
variable {y : MethodName} {wsy wsr : List Cond} {rm : Room} {n index : Nat} {bytes : ByteArray} {maxL : Nat} {ret : Option FieldType} {As st0 rest : List Value} {Fx V : va_W} {Cn : String} {b N : Nat} {T : u_T} {v : Value} {Good : va_W → Prop}
theorem j_oBack {a9 : Array Value} {oc : Outcome} {H : Heap} {locs : List Loc} {ls : Array Slot} (C : jC p s m args meth c cc Ts own nL A g) (h1 : lv_has ls nL L) (h2 : va_P g.1 vwCl ws H) (h3 : va_D A ws) (h4 : va_S A s.heap H locs) (hp : ws.Perm (Fx ++ V)) (hoc : oc = .returned (some v))
    (hr : va_Run p l e R s m args below meth c H locs cells slots rm.cells rm.slots (F0 m pc ls st0) rest (jQo oc Good g (va_A V H.size) a9) (va_A V H.size))
    (k : ∀ w, Good w → jJ p l e R s m args below meth c Q A g (va_S A s.heap) nL (cells + rm.cells) (slots + rm.slots) (pc + 3) L (v :: rest) (Fx ++ w)) : W p l e R s m args below meth c H locs cells slots Q (F0 m pc ls st0) := by
  have hFc := jW_free hp h3 h4 C.2.2.2.2.2.2.2
  intro T9 hT X
  obtain ⟨v', st₀, t, T', L9, h0, X', hL, e1, e2, ⟨⟨ho, w, hw, hP1, hD1⟩, hF⟩, st⟩ := hr T9 hT X
  obtain ⟨k1, k2, k3⟩ := vx_keep h0 e1 h4 (fun q _ h => hFc q h) hFc hL hF
  rw [hoc] at ho
  cases ho
  obtain ⟨j1, j2⟩ := jW_join (jP_perm hp h2) (jD_perm hp h3) hFc k2 (by rw [e1]; exact hP1) hD1
  obtain ⟨t2, a1, b1⟩ := k w hw T'.heap (locs ++ L9) ls h1 j1 j2 k3 T' rfl X'
  exact ⟨t2, st t2 a1, b1⟩
theorem j_oV {oc : Outcome} (C : jC p s m args meth c cc Ts own nL A g) (hM : jO l y wsy rm g (.ref b :: As) V oc Good) (hG : GoodIn Ts (wsV own index Cn y wsy)) (hw : wsy = Cond.code y bytes maxL ret :: wsr)
    (hds : y.cls = Cn ∧ y.cls ≠ "java/lang/invoke/MethodHandle" ∧ y.cls ≠ "java/lang/invoke/VarHandle" ∧ (parseMethodDescriptor y.desc).map (fun d => d.parameters.length) = some As.length) (hR : rm.frames + 1 ≤ R.frames ∧ 8 + (maxL + 11) + rm.locals ≤ R.locals)
    (hp : ws.Perm (Fx ++ V)) (hrv : ∃ (i : Nat) (fs : List Value), V[i]? = some (b, (.inr (n, fs) : va_E))) (hcl : vwCl[n]? = some (Cn, T, N)) (hd : decode cc pc = .ok (.invokevirtual index, 3)) (hst : st0 = As.reverse ++ .ref b :: rest) (hrm : (rest.map fun v => v.category).sum ≤ 8) (hf : cells + rm.cells ≤ R.cells ∧ slots + rm.slots ≤ R.slots) (hoc : oc = .returned (some v))
    (k : ∀ w, Good w → jJ p l e R s m args below meth c Q A g (va_S A s.heap) nL (cells + rm.cells) (slots + rm.slots) (pc + 3) L (v :: rest) (Fx ++ w)) : jJ p l e R s m args below meth c Q A g (va_S A s.heap) nL cells slots pc L st0 ws := fun H locs ls h1 h2 h3 h4 => by
  obtain ⟨c2, c3⟩ := jW_cut hp h2 h3
  obtain ⟨i9, fs, hi⟩ := hrv
  exact j_oBack C h1 h2 h3 h4 hp hoc (va_runV (As := As) (rest := rest) ⟨C.1, C.2.1, C.2.2.1, C.2.2.2.1, C.2.2.2.2.1⟩ (hM H.size) (cwV As.length C.2.2.2.2.1 hG hw rfl rfl hds hR) ⟨jPc.blind, va_recv C.2.2.2.2.2.2.1.1 c2 hcl hi, fun U hU hW => ⟨rfl, by rw [hU], by rw [hU]; exact c2, C.2.2.2.2.2.2.1.warm hW, c3⟩⟩ rfl rfl h1.1 hst (lv_room hrm) hd hf) k
theorem j_oS {oc : Outcome} {hh : List (Nat × Nat × Nat × Nat)} (C : jC p s m args meth c cc Ts own nL A g) (hM : jO l y wsy rm g As V oc Good) (hG : GoodIn Ts (va_wsS own index y wsy)) (hw : wsy = Cond.codeWith y bytes maxL ret hh :: wsr)
    (hds : y.cls ≠ "java/lang/invoke/MethodHandle" ∧ y.cls ≠ "java/lang/invoke/VarHandle" ∧ (parseMethodDescriptor y.desc).map (fun d => d.parameters.length) = some As.length) (hR : rm.frames + 1 ≤ R.frames ∧ 8 + (maxL + 11) + rm.locals ≤ R.locals)
    (hp : ws.Perm (Fx ++ V)) (hd : decode cc pc = .ok (.invokestatic index, 3)) (hst : st0 = As.reverse ++ rest) (hrm : (rest.map fun v => v.category).sum ≤ 8) (hf : cells + rm.cells ≤ R.cells ∧ slots + rm.slots ≤ R.slots) (hoc : oc = .returned (some v))
    (k : ∀ w, Good w → jJ p l e R s m args below meth c Q A g (va_S A s.heap) nL (cells + rm.cells) (slots + rm.slots) (pc + 3) L (v :: rest) (Fx ++ w)) : jJ p l e R s m args below meth c Q A g (va_S A s.heap) nL cells slots pc L st0 ws := fun H locs ls h1 h2 h3 h4 => by
  obtain ⟨c2, c3⟩ := jW_cut hp h2 h3
  exact j_oBack C h1 h2 h3 h4 hp hoc (vx_runSW (hh := hh) (As := As) (rest := rest) ⟨C.1, C.2.1, C.2.2.1, C.2.2.2.1, C.2.2.2.2.1⟩ (hM H.size) (vx_cwSW As.length C.2.2.2.2.1 hG hw rfl rfl hds hR) ⟨jPc.blind, fun U hU hW => ⟨rfl, by rw [hU], by rw [hU]; exact c2, C.2.2.2.2.2.2.1.warm hW, c3⟩⟩ rfl rfl h1.1 hst (lv_room hrm) hd hf) k
theorem j_sBack {a9 : Array Value} {GoodS : Outcome → va_W → Prop} {H : Heap} {locs : List Loc} {ls : Array Slot} (C : jC p s m args meth c cc Ts own nL A g) (h1 : lv_has ls nL L) (h2 : va_P g.1 vwCl ws H) (h3 : va_D A ws) (h4 : va_S A s.heap H locs) (hp : ws.Perm (Fx ++ V)) (hgo : ∀ o w, GoodS o w → ∃ v, o = .returned (some v))
    (hr : va_Run p l e R s m args below meth c H locs cells slots rm.cells rm.slots (F0 m pc ls st0) rest (jQs GoodS g (va_A V H.size) a9) (va_A V H.size))
    (k : ∀ v w, GoodS (.returned (some v)) w → jJ p l e R s m args below meth c Q A g (va_S A s.heap) nL (cells + rm.cells) (slots + rm.slots) (pc + 3) L (v :: rest) (Fx ++ w)) : W p l e R s m args below meth c H locs cells slots Q (F0 m pc ls st0) := by
  have hFc := jW_free hp h3 h4 C.2.2.2.2.2.2.2
  intro T9 hT X
  obtain ⟨v', st₀, t, T', L9, h0, X', hL, e1, e2, ⟨⟨w, hw, hP1, hD1⟩, hF⟩, st⟩ := hr T9 hT X
  obtain ⟨k1, k2, k3⟩ := vx_keep h0 e1 h4 (fun q _ h => hFc q h) hFc hL hF
  obtain ⟨v9, hv9⟩ := hgo _ _ hw
  cases hv9
  obtain ⟨j1, j2⟩ := jW_join (jP_perm hp h2) (jD_perm hp h3) hFc k2 (by rw [e1]; exact hP1) hD1
  obtain ⟨t2, a1, b1⟩ := k _ w hw T'.heap (locs ++ L9) ls h1 j1 j2 k3 T' rfl X'
  exact ⟨t2, st t2 a1, b1⟩
/-- a call of one of the law's own methods -/
theorem j_sS {GoodS : Outcome → va_W → Prop} {b9 L9 : Nat} {xs9 : Nat → Int32} (C : jC p s m args meth c cc Ts own nL A g) (K : jSc s b9 L9 xs9 A) (hM : jOs l y wsy rm g b9 L9 xs9 As V GoodS) (hgo : ∀ o w, GoodS o w → ∃ v, o = .returned (some v)) (hG : GoodIn Ts (va_wsS own index y wsy)) (hw : wsy = Cond.code y bytes maxL ret :: wsr)
    (hds : y.cls ≠ "java/lang/invoke/MethodHandle" ∧ y.cls ≠ "java/lang/invoke/VarHandle" ∧ (parseMethodDescriptor y.desc).map (fun d => d.parameters.length) = some As.length) (hR : rm.frames + 1 ≤ R.frames ∧ 8 + (maxL + 11) + rm.locals ≤ R.locals)
    (hp : ws.Perm (Fx ++ V)) (hd : decode cc pc = .ok (.invokestatic index, 3)) (hst : st0 = As.reverse ++ rest) (hrm : (rest.map fun v => v.category).sum ≤ 8) (hf : cells + rm.cells ≤ R.cells ∧ slots + rm.slots ≤ R.slots)
    (k : ∀ v w, GoodS (.returned (some v)) w → jJ p l e R s m args below meth c Q A g (va_S A s.heap) nL (cells + rm.cells) (slots + rm.slots) (pc + 3) L (v :: rest) (Fx ++ w)) : jJ p l e R s m args below meth c Q A g (va_S A s.heap) nL cells slots pc L st0 ws := fun H locs ls h1 h2 h3 h4 => by
  obtain ⟨c2, c3⟩ := jW_cut hp h2 h3
  obtain ⟨K1, K2, K3, K4⟩ := K
  have hFc := jW_free hp h3 h4 C.2.2.2.2.2.2.2
  have hbH : H[b9]? = s.heap[b9]? := h4.2.1 b9 K4 K3
  exact j_sBack C h1 h2 h3 h4 hp hgo (va_runS (As := As) (rest := rest) ⟨C.1, C.2.1, C.2.2.1, C.2.2.2.1, C.2.2.2.2.1⟩ (hM H.size) (va_cwS As.length C.2.2.2.2.1 hG hw rfl rfl hds hR) ⟨jPs.blind, fun U hU hW => ⟨⟨rfl, by rw [hU], by rw [hU]; exact c2, C.2.2.2.2.2.2.1.warm hW, c3⟩, jAOA_warm hW K1, va_X.moved hW.alike (K2.kept (by rw [hU]; exact hbH)), fun z => K3 (hFc b9 z), by rw [hU]; exact Nat.lt_of_lt_of_le K4 h4.1⟩⟩ rfl rfl h1.1 hst (lv_room hrm) hd hf) k
theorem j_iretS {i : Int32} {GoodS : Outcome → va_W → Prop} {rt : FieldType} (C : jC p s m args meth c cc Ts own nL A g) (hr : meth.sig.returnType = some .int) (hd : decode cc pc = .ok (.ireturn, 1)) (hg : GoodS (.returned (some (.int i))) ws) : jJ p l e R s m args below meth c (MQ below (jQs GoodS g A) args s cells slots A) A g (va_S A s.heap) nL cells slots pc L [.int i] ws := fun H locs ls h1 h2 h3 h4 =>
  W.iret C.1 C.2.1 hr (fun t ht hW => ⟨⟨ws, hg, by rw [ht]; exact h2, h3⟩, h4.F ht⟩) h4.2.2 hd (hlocks := C.2.2.2.2.2.1)
theorem j_aretS {q : Nat} {GoodS : Outcome → va_W → Prop} {rt : FieldType} (C : jC p s m args meth c cc Ts own nL A g) (hr : meth.sig.returnType = some rt) (hf : (∃ n, rt = .object n) ∨ ∃ t, rt = .array t) (hd : decode cc pc = .ok (.areturn, 1)) (hg : GoodS (.returned (some (.ref q))) ws) : jJ p l e R s m args below meth c (MQ below (jQs GoodS g A) args s cells slots A) A g (va_S A s.heap) nL cells slots pc L [.ref q] ws := fun H locs ls h1 h2 h3 h4 =>
  W.aret C.1 C.2.1 hr hf (Or.inr ⟨_, rfl⟩) (fun t ht hW => ⟨⟨ws, hg, by rw [ht]; exact h2, h3⟩, h4.F ht⟩) h4.2.2 hd (hlocks := C.2.2.2.2.2.1)
/-- int constants -/
theorem j_ldcI {ix : Nat} {v : Int32} (C : jC p s m args meth c cc Ts own nL A g) (hd : decode cc pc = .ok (.ldc ix, 2)) (hw : Cond.constant own ix v ∈ Ts) (k : jJ p l e R s m args below meth c Q A g (va_S A s.heap) nL cells slots (pc + 2) L (.int v :: st) ws) : jJ p l e R s m args below meth c Q A g (va_S A s.heap) nL cells slots pc L st ws := fun H locs ls h1 h2 h3 h4 => lv_ldc C.1 C.2.1 C.2.2.2.1 (C.2.2.2.2.1 _ hw) hd (k H locs ls h1 h2 h3 h4)
/-- some cells of the world are forgotten -/
theorem j_keep {ws' Z : va_W} (hp : ws.Perm (Z ++ ws')) (k : jJ p l e R s m args below meth c Q A g (va_S A s.heap) nL cells slots pc L st ws') : jJ p l e R s m args below meth c Q A g (va_S A s.heap) nL cells slots pc L st ws := fun H locs ls h1 h2 h3 h4 => by
  refine k H locs ls h1 (jW_cut hp h2 h3).1 ?_ h4
  have hd := jD_perm hp h3
  rw [jD_iff] at hd ⊢
  obtain ⟨d1, d2⟩ := hd
  rw [List.map_append, List.nodup_append] at d1
  exact ⟨d1.2.1, fun q hq => d2 q (List.mem_append_right _ hq)⟩
/-- the script -/
theorem j_sldS {b n x : Nat} {xs : Nat → Int32} {i : Int32} (C : jC p s m args meth c cc Ts own nL A g) (K : jSc s b n xs A) (hd : decode cc pc = .ok (.iaload, 1)) (hi : i = nI x) (hx : x < n) (hn : n < 2 ^ 31) (k : jJ p l e R s m args below meth c Q A g (va_S A s.heap) nL cells slots (pc + 1) L (.int (xs x) :: st) ws) : jJ p l e R s m args below meth c Q A g (va_S A s.heap) nL cells slots pc L (.int i :: .ref b :: st) ws := fun H locs ls h1 h2 h3 h4 => by
  subst hi
  refine va_sld C.1 C.2.1 K.2.1 K.2.2.2 K.2.2.1 h4 (vp_in_nI hx hn) hd ?_
  rw [nI_clamp (by omega)]
  exact k H locs ls h1 h2 h3 h4
theorem j_slenS {b n : Nat} {xs : Nat → Int32} (C : jC p s m args meth c cc Ts own nL A g) (K : jSc s b n xs A) (hd : decode cc pc = .ok (.arraylength, 1)) (k : jJ p l e R s m args below meth c Q A g (va_S A s.heap) nL cells slots (pc + 1) L (.int (nI n) :: st) ws) : jJ p l e R s m args below meth c Q A g (va_S A s.heap) nL cells slots pc L (.ref b :: st) ws := fun H locs ls h1 h2 h3 h4 => va_slen C.1 C.2.1 K.2.1 K.2.2.2 K.2.2.1 h4 hd (k H locs ls h1 h2 h3 h4)
/-- arrays of arrays -/
theorem jR_cls (C : jC p s m args meth c cc Ts own nL A g) (ha : va_AOA .int s) : ∃ k : Class, s.vm.classes[g.2.2.2.2.2]? = some k ∧ k.kind = .array g.2.1 (.array .int) := by
  obtain ⟨comp, cA, kA, h1, h2, h3, h4, h5⟩ := arrayOverA_spec (va_AOA.use (A := #[]) ha)
  have e1 : some comp = some g.2.1 := h1.symm.trans (C.2.2.2.2.2.2.1.1.2 0 _ rfl).2
  have e2 : some cA = some g.2.2.2.2.2 := h5.symm.trans (C.2.2.2.2.2.2.1.1.2 4 _ rfl).2
  cases e1
  cases e2
  exact ⟨kA, h3, h4⟩
theorem j_anewR {n : Int32} {N index : Nat} (C : jC p s m args meth c cc Ts own nL A g) (ha : va_AOA .int s) (hd : decode cc pc = .ok (.anewarray index, 3)) (hw : Cond.classLink own index "[I" ∈ Ts) (hn : n = nI N) (hN : N ≤ 1000) (hf : cells + 1 ≤ R.cells ∧ slots + N ≤ R.slots) (k : ∀ q : Nat, jJ p l e R s m args below meth c Q A g (va_S A s.heap) nL (cells + 1) (slots + N) (pc + 3) L (.ref q :: st) (ws ++ [(q, jaR g N (fun _ => none))])) : jJ p l e R s m args below meth c Q A g (va_S A s.heap) nL cells slots pc L (.int n :: st) ws := fun H locs ls h1 h2 h3 h4 => by
  subst hn
  have hcl : (nI N).toNatClampNeg = N := nI_clamp (by omega)
  refine W.anewA (t := .int) C.1 C.2.1 C.2.2.2.1 (C.2.2.2.2.1 _ hw) (va_AOA.use ha) rfl hd rfl (nI_pos (by omega)) (by rw [hcl]; omega) hf.1 (by rw [hcl]; exact hf.2) fun cA kA comp f1 f2 f3 f4 => ?_
  have e2 : some cA = some g.2.2.2.2.2 := f1.symm.trans (C.2.2.2.2.2.2.1.1.2 4 _ rfl).2
  cases e2
  rw [hcl]
  generalize hH1 : H.push ({ cls := g.2.2.2.2.2, slots := Array.replicate N .null, vm := .none } : Cell) = H1
  have z1 : H1.size = H.size + 1 := by rw [← hH1, Array.size_push]
  have e1 : H1[H.size]? = some (arrV g.2.2.2.2.2 N (fun _ => .null)) := by rw [← hH1, Array.getElem?_push_size, ← arrV_new]
  have o1 : ∀ q : Nat, q < H.size → H1[q]? = H[q]? := fun q hq => by rw [← hH1, Array.getElem?_push, if_neg (Nat.ne_of_lt hq)]
  have hk : ∀ (k : Nat) (x : Nat × va_E), ws[k]? = some x → H1[x.1]? = H[x.1]? := fun k x hx => o1 x.1 ((h2 k x hx).lt)
  refine k H.size H1 locs ls h1 ((h2.kept hk).app (fun k x hx => ?_)) (h3.push h2 rfl (C.2.2.2.2.2.2.2 _ h4.1)) ⟨Nat.le_trans h4.1 (by omega), fun x g1 g2 => (o1 x (Nat.lt_of_lt_of_le g1 h4.1)).trans (h4.2.1 x g1 g2), h4.2.2⟩
  have hz : k < 1 := (List.getElem?_eq_some_iff.mp hx).1
  rw [show k = 0 by omega] at hx
  cases hx
  show H1[H.size]? = some (vp_cell _ _)
  rw [vp_cell_q]
  exact e1
theorem j_astR {a v n x N : Nat} {f : Nat → Option Nat} {fv : Nat → Int32} {i : Int32} {ws' : va_W} (q0 qk : Nat) (C : jC p s m args meth c cc Ts own nL A g) (ha : va_AOA .int s) (hd : decode cc pc = .ok (.aastore, 1)) (hq : ws[q0]? = some (a, jaR g n f)) (hv : ws[qk]? = some (v, jaI g N fv)) (hi : i = nI x) (hx : x < n) (hn : n < 2 ^ 31) (hs : ws.set q0 (a, jaR g n (va_up f x (some v))) = ws') (k : jJ p l e R s m args below meth c Q A g (va_S A s.heap) nL cells slots (pc + 1) L st ws') : jJ p l e R s m args below meth c Q A g (va_S A s.heap) nL cells slots pc L (.ref v :: .int i :: .ref a :: st) ws := fun H locs ls h1 h2 h3 h4 => by
  subst hi; subst hs
  have hin := vp_in_nI hx hn
  have hcl : (nI x).toNatClampNeg = x := nI_clamp (by omega)
  obtain ⟨kA, k1, k2⟩ := jR_cls C ha
  obtain ⟨kI, i1, compI, i3⟩ : ∃ (kI : Class), s.vm.classes[g.2.1]? = some kI ∧ ∃ comp, kI.kind = .array comp .int := by
    obtain ⟨h9, kI, j1, comp, j3⟩ := (C.2.2.2.2.2.2.1.1.2 0 _ rfl).1 0 (fun _ => .int 0)
    exact ⟨kI, j1, comp, j3⟩
  have hcv : H[v]? = some (vp_cell g.2.1 (N, .inl fv)) := h2 qk _ hv
  refine W.aast C.1 C.2.1 (h2 q0 _ hq) (fun q h => by cases h) (fun h => by cases h) k1 k2 rfl i1 ⟨fun z => hin (Or.inl z), by show _ < (arrV _ _ _).slots.size; rw [arrV_size, hcl]; exact hx⟩ hcv (fun q h => by rw [vp_cell_i] at h; cases h) (by rw [vp_cell_i]; exact i1) (jAssign s.vm g.2.1) rfl rfl hd fun H1 e z oq => ?_
  rw [hcl] at e
  refine k H1 _ ls h1 (h2.set h3 hq ?_ oq) (h3.set hq) (h4.put z oq (h3.2 q0 _ hq))
  show H1[a]? = some (vp_cell _ _)
  rw [e]
  rw [vp_cell_q, vp_cell_q, arrV_store]
  congr 2
  funext q
  by_cases hq9 : q = x
  · subst hq9
    simp [updV, va_up, va_rf]
  · simp [updV, va_up, hq9]
theorem j_astRN {a n x : Nat} {f : Nat → Option Nat} : True := trivial
theorem j_alenR {a n : Nat} {f : Nat → Option Nat} (q : Nat) (C : jC p s m args meth c cc Ts own nL A g) (hd : decode cc pc = .ok (.arraylength, 1)) (hq : ws[q]? = some (a, jaR g n f)) (k : jJ p l e R s m args below meth c Q A g (va_S A s.heap) nL cells slots (pc + 1) L (.int (nI n) :: st) ws) : jJ p l e R s m args below meth c Q A g (va_S A s.heap) nL cells slots pc L (.ref a :: st) ws := fun H locs ls h1 h2 h3 h4 =>
  W.alen (ty := .array .int) (n := Int32.ofNat n) C.1 C.2.1 (h2 q _ hq) ((C.2.2.2.2.2.2.1.1.2 4 _ rfl).1 n (fun j => va_rf (f j))) (by show (arrV _ _ _).slots.size.toInt32 = _; rw [arrV_size]) rfl rfl hd (k H locs ls h1 h2 h3 h4)
end JROWS9
