/-! LAW 7: the turns of the law -/
abbrev jLL (b x0 m0 out outD t : Nat) : List (Nat × Value) := [(0, .ref b), (1, .ref x0), (2, .ref m0), (3, .ref out), (4, .ref outD), (5, .int (nI t))]
def jLc (l : Launch) (R : Room) (s : State) (b n : Nat) (xs : Nat → Int32) (A : Nat → Prop) : Prop := jXs s ∧ jXz A s s.heap ∧ jNc s ∧ va_X b n xs s s.heap ∧ b < s.heap.size ∧ ¬ A b ∧ n < 2 ^ 31 ∧ 11 ≤ R.frames ∧ 452 ≤ R.locals ∧ l.stackTraces = false
theorem jLp5 {a b : Nat × va_E} {X Y : va_W} : (a :: b :: (X ++ Y)).Perm ((a :: b :: Y) ++ X) := by
  show (a :: b :: (X ++ Y)).Perm (a :: b :: (Y ++ X))
  exact List.Perm.cons _ (List.Perm.cons _ List.perm_append_comm)
theorem jLp6 {a b : Nat × va_E} {X Y : va_W} : ((a :: b :: Y) ++ X).Perm ((a :: b :: X) ++ Y) := jLp5.symm
theorem hdS_L_addProgram : yL_addProgram.cls ≠ "java/lang/invoke/MethodHandle" ∧ yL_addProgram.cls ≠ "java/lang/invoke/VarHandle" ∧ (parseMethodDescriptor yL_addProgram.desc).map (fun d => d.parameters.length) = some 2 := by decide +kernel
theorem hdS_L_addLoop : yL_addLoop.cls ≠ "java/lang/invoke/MethodHandle" ∧ yL_addLoop.cls ≠ "java/lang/invoke/VarHandle" ∧ (parseMethodDescriptor yL_addLoop.desc).map (fun d => d.parameters.length) = some 6 := by decide +kernel
theorem hdS_L_addStep : yL_addStep.cls ≠ "java/lang/invoke/MethodHandle" ∧ yL_addStep.cls ≠ "java/lang/invoke/VarHandle" ∧ (parseMethodDescriptor yL_addStep.desc).map (fun d => d.parameters.length) = some 8 := by decide +kernel
theorem hdS_L_loop : yL_loop.cls ≠ "java/lang/invoke/MethodHandle" ∧ yL_loop.cls ≠ "java/lang/invoke/VarHandle" ∧ (parseMethodDescriptor yL_loop.desc).map (fun d => d.parameters.length) = some 5 := by decide +kernel
theorem hdS_L_step : yL_step.cls ≠ "java/lang/invoke/MethodHandle" ∧ yL_step.cls ≠ "java/lang/invoke/VarHandle" ∧ (parseMethodDescriptor yL_step.desc).map (fun d => d.parameters.length) = some 6 := by decide +kernel
theorem hdS_L_loops : yL_loops.cls ≠ "java/lang/invoke/MethodHandle" ∧ yL_loops.cls ≠ "java/lang/invoke/VarHandle" ∧ (parseMethodDescriptor yL_loops.desc).map (fun d => d.parameters.length) = some 3 := by decide +kernel
theorem hdS_L_put : yL_put.cls ≠ "java/lang/invoke/MethodHandle" ∧ yL_put.cls ≠ "java/lang/invoke/VarHandle" ∧ (parseMethodDescriptor yL_put.desc).map (fun d => d.parameters.length) = some 3 := by decide +kernel
theorem hdS_L_run : yL_run.cls ≠ "java/lang/invoke/MethodHandle" ∧ yL_run.cls ≠ "java/lang/invoke/VarHandle" ∧ (parseMethodDescriptor yL_run.desc).map (fun d => d.parameters.length) = some 3 := by decide +kernel
theorem hdS_L_ran : yL_ran.cls ≠ "java/lang/invoke/MethodHandle" ∧ yL_ran.cls ≠ "java/lang/invoke/VarHandle" ∧ (parseMethodDescriptor yL_ran.desc).map (fun d => d.parameters.length) = some 3 := by decide +kernel
theorem hdS_L_reason : yL_reason.cls ≠ "java/lang/invoke/MethodHandle" ∧ yL_reason.cls ≠ "java/lang/invoke/VarHandle" ∧ (parseMethodDescriptor yL_reason.desc).map (fun d => d.parameters.length) = some 6 := by decide +kernel
theorem hdS_L_change : yL_change.cls ≠ "java/lang/invoke/MethodHandle" ∧ yL_change.cls ≠ "java/lang/invoke/VarHandle" ∧ (parseMethodDescriptor yL_change.desc).map (fun d => d.parameters.length) = some 6 := by decide +kernel
theorem hdS_L_joinAll : yL_joinAll.cls ≠ "java/lang/invoke/MethodHandle" ∧ yL_joinAll.cls ≠ "java/lang/invoke/VarHandle" ∧ (parseMethodDescriptor yL_joinAll.desc).map (fun d => d.parameters.length) = some 3 := by decide +kernel
theorem hdS_L_differ : yL_differ.cls ≠ "java/lang/invoke/MethodHandle" ∧ yL_differ.cls ≠ "java/lang/invoke/VarHandle" ∧ (parseMethodDescriptor yL_differ.desc).map (fun d => d.parameters.length) = some 6 := by decide +kernel
theorem hdS_L_firstCase : yL_firstCase.cls ≠ "java/lang/invoke/MethodHandle" ∧ yL_firstCase.cls ≠ "java/lang/invoke/VarHandle" ∧ (parseMethodDescriptor yL_firstCase.desc).map (fun d => d.parameters.length) = some 6 := by decide +kernel
theorem hdS_L_cost : yL_cost.cls ≠ "java/lang/invoke/MethodHandle" ∧ yL_cost.cls ≠ "java/lang/invoke/VarHandle" ∧ (parseMethodDescriptor yL_cost.desc).map (fun d => d.parameters.length) = some 6 := by decide +kernel
theorem hdS_L_exits : yL_exits.cls ≠ "java/lang/invoke/MethodHandle" ∧ yL_exits.cls ≠ "java/lang/invoke/VarHandle" ∧ (parseMethodDescriptor yL_exits.desc).map (fun d => d.parameters.length) = some 5 := by decide +kernel
theorem hd5_addProgram : yX5_addProgram.cls = RX5 ∧ yX5_addProgram.cls ≠ "java/lang/invoke/MethodHandle" ∧ yX5_addProgram.cls ≠ "java/lang/invoke/VarHandle" ∧ (parseMethodDescriptor yX5_addProgram.desc).map (fun d => d.parameters.length) = some 0 := by decide +kernel
theorem hd5_addLoop : yX5_addLoop.cls = RX5 ∧ yX5_addLoop.cls ≠ "java/lang/invoke/MethodHandle" ∧ yX5_addLoop.cls ≠ "java/lang/invoke/VarHandle" ∧ (parseMethodDescriptor yX5_addLoop.desc).map (fun d => d.parameters.length) = some 4 := by decide +kernel
theorem hd5_addStep : yX5_addStep.cls = RX5 ∧ yX5_addStep.cls ≠ "java/lang/invoke/MethodHandle" ∧ yX5_addStep.cls ≠ "java/lang/invoke/VarHandle" ∧ (parseMethodDescriptor yX5_addStep.desc).map (fun d => d.parameters.length) = some 6 := by decide +kernel
theorem hd5_loop : yX5_loop.cls = RX5 ∧ yX5_loop.cls ≠ "java/lang/invoke/MethodHandle" ∧ yX5_loop.cls ≠ "java/lang/invoke/VarHandle" ∧ (parseMethodDescriptor yX5_loop.desc).map (fun d => d.parameters.length) = some 3 := by decide +kernel
theorem hd5_step : yX5_step.cls = RX5 ∧ yX5_step.cls ≠ "java/lang/invoke/MethodHandle" ∧ yX5_step.cls ≠ "java/lang/invoke/VarHandle" ∧ (parseMethodDescriptor yX5_step.desc).map (fun d => d.parameters.length) = some 4 := by decide +kernel
theorem hd5_loops : yX5_loops.cls = RX5 ∧ yX5_loops.cls ≠ "java/lang/invoke/MethodHandle" ∧ yX5_loops.cls ≠ "java/lang/invoke/VarHandle" ∧ (parseMethodDescriptor yX5_loops.desc).map (fun d => d.parameters.length) = some 1 := by decide +kernel
theorem hd5_put : yX5_put.cls = RX5 ∧ yX5_put.cls ≠ "java/lang/invoke/MethodHandle" ∧ yX5_put.cls ≠ "java/lang/invoke/VarHandle" ∧ (parseMethodDescriptor yX5_put.desc).map (fun d => d.parameters.length) = some 1 := by decide +kernel
theorem hd5_run : yX5_run.cls = RX5 ∧ yX5_run.cls ≠ "java/lang/invoke/MethodHandle" ∧ yX5_run.cls ≠ "java/lang/invoke/VarHandle" ∧ (parseMethodDescriptor yX5_run.desc).map (fun d => d.parameters.length) = some 1 := by decide +kernel
theorem hd5_ran : yX5_ran.cls = RX5 ∧ yX5_ran.cls ≠ "java/lang/invoke/MethodHandle" ∧ yX5_ran.cls ≠ "java/lang/invoke/VarHandle" ∧ (parseMethodDescriptor yX5_ran.desc).map (fun d => d.parameters.length) = some 1 := by decide +kernel
theorem hd5_reason : yX5_reason.cls = RX5 ∧ yX5_reason.cls ≠ "java/lang/invoke/MethodHandle" ∧ yX5_reason.cls ≠ "java/lang/invoke/VarHandle" ∧ (parseMethodDescriptor yX5_reason.desc).map (fun d => d.parameters.length) = some 4 := by decide +kernel
theorem hd5_change : yX5_change.cls = RX5 ∧ yX5_change.cls ≠ "java/lang/invoke/MethodHandle" ∧ yX5_change.cls ≠ "java/lang/invoke/VarHandle" ∧ (parseMethodDescriptor yX5_change.desc).map (fun d => d.parameters.length) = some 4 := by decide +kernel
theorem hd5_joinAll : yX5_joinAll.cls = RX5 ∧ yX5_joinAll.cls ≠ "java/lang/invoke/MethodHandle" ∧ yX5_joinAll.cls ≠ "java/lang/invoke/VarHandle" ∧ (parseMethodDescriptor yX5_joinAll.desc).map (fun d => d.parameters.length) = some 1 := by decide +kernel
theorem hd5_differ : yX5_differ.cls = RX5 ∧ yX5_differ.cls ≠ "java/lang/invoke/MethodHandle" ∧ yX5_differ.cls ≠ "java/lang/invoke/VarHandle" ∧ (parseMethodDescriptor yX5_differ.desc).map (fun d => d.parameters.length) = some 4 := by decide +kernel
theorem hd5_firstCase : yX5_firstCase.cls = RX5 ∧ yX5_firstCase.cls ≠ "java/lang/invoke/MethodHandle" ∧ yX5_firstCase.cls ≠ "java/lang/invoke/VarHandle" ∧ (parseMethodDescriptor yX5_firstCase.desc).map (fun d => d.parameters.length) = some 4 := by decide +kernel
theorem hd5_cost : yX5_cost.cls = RX5 ∧ yX5_cost.cls ≠ "java/lang/invoke/MethodHandle" ∧ yX5_cost.cls ≠ "java/lang/invoke/VarHandle" ∧ (parseMethodDescriptor yX5_cost.desc).map (fun d => d.parameters.length) = some 4 := by decide +kernel
theorem hd5_exits : yX5_exits.cls = RX5 ∧ yX5_exits.cls ≠ "java/lang/invoke/MethodHandle" ∧ yX5_exits.cls ≠ "java/lang/invoke/VarHandle" ∧ (parseMethodDescriptor yX5_exits.desc).map (fun d => d.parameters.length) = some 3 := by decide +kernel
theorem hd5_programs : yX5_programs.cls = RX5 ∧ yX5_programs.cls ≠ "java/lang/invoke/MethodHandle" ∧ yX5_programs.cls ≠ "java/lang/invoke/VarHandle" ∧ (parseMethodDescriptor yX5_programs.desc).map (fun d => d.parameters.length) = some 0 := by decide +kernel
theorem hd5_empty : yX5_empty.cls = RX5 ∧ yX5_empty.cls ≠ "java/lang/invoke/MethodHandle" ∧ yX5_empty.cls ≠ "java/lang/invoke/VarHandle" ∧ (parseMethodDescriptor yX5_empty.desc).map (fun d => d.parameters.length) = some 0 := by decide +kernel
theorem hd5_digest : yX5_digest.cls = RX5 ∧ yX5_digest.cls ≠ "java/lang/invoke/MethodHandle" ∧ yX5_digest.cls ≠ "java/lang/invoke/VarHandle" ∧ (parseMethodDescriptor yX5_digest.desc).map (fun d => d.parameters.length) = some 0 := by decide +kernel
theorem hd5_thrown : yX5_thrown.cls = RX5 ∧ yX5_thrown.cls ≠ "java/lang/invoke/MethodHandle" ∧ yX5_thrown.cls ≠ "java/lang/invoke/VarHandle" ∧ (parseMethodDescriptor yX5_thrown.desc).map (fun d => d.parameters.length) = some 0 := by decide +kernel
theorem hdD_programs : yX4_programs.cls = RX4 ∧ yX4_programs.cls ≠ "java/lang/invoke/MethodHandle" ∧ yX4_programs.cls ≠ "java/lang/invoke/VarHandle" ∧ (parseMethodDescriptor yX4_programs.desc).map (fun d => d.parameters.length) = some 0 := by decide +kernel
theorem hdD_empty : yX4_empty.cls = RX4 ∧ yX4_empty.cls ≠ "java/lang/invoke/MethodHandle" ∧ yX4_empty.cls ≠ "java/lang/invoke/VarHandle" ∧ (parseMethodDescriptor yX4_empty.desc).map (fun d => d.parameters.length) = some 0 := by decide +kernel
theorem hdD_digest : yX4_digest.cls = RX4 ∧ yX4_digest.cls ≠ "java/lang/invoke/MethodHandle" ∧ yX4_digest.cls ≠ "java/lang/invoke/VarHandle" ∧ (parseMethodDescriptor yX4_digest.desc).map (fun d => d.parameters.length) = some 0 := by decide +kernel
section LAWC
variable {p : Program} {l : Launch} {e : Env} {R : Room} {s : State} {m : MethodId} {args : Array Value} {below : List Frame} {meth : Method} {c : Code} {Q : State → Prop} {A : Nat → Prop} {g : jG} {cells slots b n t x0 m0 out outD : Nat} {xs : Nat → Int32} {ws : va_W}
theorem law_addProgram (C : jC p s m args meth c code wsL_law RL 9 A g) (K : jLc l R s b n xs A) (ht : t + 7 ≤ n) (hroom : cells + 4 ≤ R.cells ∧ slots + 452 ≤ R.slots) (hI : jIW g x0 m0 out outD ws) (k : ∀ ws', jIW g x0 m0 out outD ws' → jJ p l e R s m args below meth c Q A g (va_S A s.heap) 9 (cells + 4) (slots + 452) 1506 (jLL b x0 m0 out outD t) [] ws') : jJ p l e R s m args below meth c Q A g (va_S A s.heap) 9 cells slots 136 (jLL b x0 m0 out outD t) [] ws := by
  obtain ⟨hX, hZ, hN, hS, hbl, hbA, hn, hRf, hRl, hst⟩ := K
  obtain ⟨o, od, Wc, Wr, N, pn, pf, len, row, vv, lk, th, hok, hc, hr, rfl⟩ := hI
  obtain ⟨kk, bb, rm, rm2, N1, pn1, pf1, len1, row1, vv1, lk1, hok1, ⟨f1, l1, c1, s1⟩, ⟨f2, l2, c2, s2⟩, hL, hR⟩ := op_addProgram (out := out) hst hok hc hr  o
  refine j_aload_n 1 C dL_law_136 rfl rfl ?_
  refine j_aload_n 3 C dL_law_137 rfl rfl ?_
  refine j_oS (As := [.ref x0, .ref out]) (rest := []) (Fx := (outD, jaD g 1 od) :: Wr) (V := (out, jaL g 1 o) :: Wc) (v := .int kk) C hX hZ hN hL gL_law_L_addProgram rfl hdS_L_addProgram ⟨by omega, by omega⟩ jLp1 dL_law_138 rfl (Nat.le_of_ble_eq_true rfl) ⟨by omega, by omega⟩ rfl (fun w hw => ?_)
  obtain ⟨o1, w1, rfl, hc1, hv⟩ := hw
  refine j_istore (x := kk) (L' := [(0, .ref b), (1, .ref x0), (2, .ref m0), (3, .ref out), (4, .ref outD), (5, .int (nI t)), (6, .int kk)]) C dL_law_141 (by decide) rfl rfl ?_
  refine j_aload_n 2 C dL_law_143 rfl rfl ?_
  refine j_oV (As := []) (rest := []) (Fx := (outD, jaD g 1 od) :: (out, jaL g 1 o1) :: w1) (V := Wr) (v := .int bb) (Cn := RX5) C hX hZ hN hR gL_law_X5_addProgram rfl hd5_addProgram ⟨by omega, by omega⟩ jLp2 (jRW_m0 hr) (N := 11) (T := TX5) rfl dL_law_144 rfl (Nat.le_of_ble_eq_true rfl) ⟨by omega, by omega⟩ rfl (fun w2 hr1 => ?_)
  refine j_istore (x := bb) (L' := [(0, .ref b), (1, .ref x0), (2, .ref m0), (3, .ref out), (4, .ref outD), (5, .int (nI t)), (6, .int kk), (7, .int bb)]) C dL_law_147 (by decide) rfl rfl ?_
  refine j_aload_n 2 C dL_law_149 rfl rfl ?_
  refine j_oV (As := []) (rest := []) (Fx := (outD, jaD g 1 od) :: (out, jaL g 1 o1) :: w1) (V := w2) (v := .int kk) (Cn := RX5) C hX hZ hN (op_thrown hr1) gL_law_X5_thrown rfl hd5_thrown ⟨by show 0 + 1 ≤ _; omega, by show 8 + (1 + 11) + 0 ≤ _; omega⟩ (List.Perm.refl _) (jRW_m0 hr1) (N := 11) (T := TX5) rfl dL_law_150 rfl (Nat.le_of_ble_eq_true rfl) ⟨by show cells + rm.cells + rm2.cells + 0 ≤ _; omega, by show slots + rm.slots + rm2.slots + 0 ≤ _; omega⟩ rfl (fun w3 hr3 => ?_)
  refine j_iload 6 C dL_law_153 rfl ?_
  refine j_icmp_eq (tgt := 160) C dL_law_155 rfl (fun _ => ?_) (fun h => absurd rfl h)
  refine j_iload 6 C dL_law_160 rfl ?_
  refine j_if_ne (tgt := 177) C dL_law_162 rfl (fun _ => ?_) (fun hk0 => ?_)
  · refine j_goto (tgt := 1506) C dL_law_177 rfl ?_
    refine j_pick [0, 1, 2, 3, 4, 5] rfl ?_
    refine j_widen (k := cells + 4) (n := slots + 452) (by show cells + rm.cells + rm2.cells + 0 ≤ _; omega) (by show slots + rm.slots + rm2.slots + 0 ≤ _; omega) ?_
    exact k _ ⟨o1, od, w1, w3, N1, pn1, pf1, len1, row1, vv1, lk1, kk, hok1, hc1, hr3, rfl⟩
  · skip
    refine j_aload_n 3 C dL_law_165 rfl rfl ?_
    refine j_iconst (v := 0) C dL_law_166 rfl ?_
    refine j_laldN (x := 0) 1 C dL_law_167 rfl rfl (by decide) (by decide) ?_
    refine j_iload 7 C dL_law_168 rfl ?_
    refine j_i2l C dL_law_170 rfl ?_
    refine j_lcmp_eq (tgt := 177) C dL_law_171 dL_law_172 rfl (fun _ => ?_) (fun h => absurd (hv hk0) h)
    refine j_goto (tgt := 1506) C dL_law_177 rfl ?_
    refine j_pick [0, 1, 2, 3, 4, 5] rfl ?_
    refine j_widen (k := cells + 4) (n := slots + 452) (by show cells + rm.cells + rm2.cells + 0 ≤ _; omega) (by show slots + rm.slots + rm2.slots + 0 ≤ _; omega) ?_
    exact k _ ⟨o1, od, w1, w3, N1, pn1, pf1, len1, row1, vv1, lk1, kk, hok1, hc1, hr3, rfl⟩
theorem law_addLoop (C : jC p s m args meth c code wsL_law RL 9 A g) (K : jLc l R s b n xs A) (ht : t + 7 ≤ n) (hroom : cells + 4 ≤ R.cells ∧ slots + 452 ≤ R.slots) (hI : jIW g x0 m0 out outD ws) (k : ∀ ws', jIW g x0 m0 out outD ws' → jJ p l e R s m args below meth c Q A g (va_S A s.heap) 9 (cells + 4) (slots + 452) 1506 (jLL b x0 m0 out outD t) [] ws') : jJ p l e R s m args below meth c Q A g (va_S A s.heap) 9 cells slots 180 (jLL b x0 m0 out outD t) [] ws := by
  obtain ⟨hX, hZ, hN, hS, hbl, hbA, hn, hRf, hRl, hst⟩ := K
  obtain ⟨o, od, Wc, Wr, N, pn, pf, len, row, vv, lk, th, hok, hc, hr, rfl⟩ := hI
  obtain ⟨kk, bb, rm, rm2, N1, pn1, pf1, len1, row1, vv1, lk1, hok1, ⟨f1, l1, c1, s1⟩, ⟨f2, l2, c2, s2⟩, hL, hR⟩ := op_addLoop (out := out) hst hok hc hr (xs (t + 1)) (xs (t + 2)) (xs (t + 3)) (!decide (xs (t + 4) = 0)) o
  refine j_aload_n 1 C dL_law_180 rfl rfl ?_
  refine j_aload_n 0 C dL_law_181 rfl rfl ?_
  refine j_iload 5 C dL_law_182 rfl ?_
  refine j_iconst (v := 1) C dL_law_184 rfl ?_
  refine j_iadd C dL_law_185 (nI_a1 t) ?_
  refine j_sld (x := t + 1) C hS hbl hbA dL_law_186 rfl (by omega) hn ?_
  refine j_aload_n 0 C dL_law_187 rfl rfl ?_
  refine j_iload 5 C dL_law_188 rfl ?_
  refine j_iconst (v := 2) C dL_law_190 rfl ?_
  refine j_iadd C dL_law_191 (nI_a2 t) ?_
  refine j_sld (x := t + 2) C hS hbl hbA dL_law_192 rfl (by omega) hn ?_
  refine j_aload_n 0 C dL_law_193 rfl rfl ?_
  refine j_iload 5 C dL_law_194 rfl ?_
  refine j_iconst (v := 3) C dL_law_196 rfl ?_
  refine j_iadd C dL_law_197 (nI_a3 t) ?_
  refine j_sld (x := t + 3) C hS hbl hbA dL_law_198 rfl (by omega) hn ?_
  refine j_aload_n 0 C dL_law_199 rfl rfl ?_
  refine j_iload 5 C dL_law_200 rfl ?_
  refine j_iconst (v := 4) C dL_law_202 rfl ?_
  refine j_iadd C dL_law_203 (nI_a4 t) ?_
  refine j_sld (x := t + 4) C hS hbl hbA dL_law_204 rfl (by omega) hn ?_
  refine j_bool C dL_law_205 dL_law_208 dL_law_209 dL_law_212 ?_
  refine j_aload_n 3 C dL_law_213 rfl rfl ?_
  refine j_oS (As := [.ref x0, .int (xs (t + 1)), .int (xs (t + 2)), .int (xs (t + 3)), .int (jb (!decide (xs (t + 4) = 0))), .ref out]) (rest := []) (Fx := (outD, jaD g 1 od) :: Wr) (V := (out, jaL g 1 o) :: Wc) (v := .int kk) C hX hZ hN hL gL_law_L_addLoop rfl hdS_L_addLoop ⟨by omega, by omega⟩ jLp1 dL_law_214 rfl (Nat.le_of_ble_eq_true rfl) ⟨by omega, by omega⟩ rfl (fun w hw => ?_)
  obtain ⟨o1, w1, rfl, hc1, hv⟩ := hw
  refine j_istore (x := kk) (L' := [(0, .ref b), (1, .ref x0), (2, .ref m0), (3, .ref out), (4, .ref outD), (5, .int (nI t)), (6, .int kk)]) C dL_law_217 (by decide) rfl rfl ?_
  refine j_aload_n 2 C dL_law_219 rfl rfl ?_
  refine j_aload_n 0 C dL_law_220 rfl rfl ?_
  refine j_iload 5 C dL_law_221 rfl ?_
  refine j_iconst (v := 1) C dL_law_223 rfl ?_
  refine j_iadd C dL_law_224 (nI_a1 t) ?_
  refine j_sld (x := t + 1) C hS hbl hbA dL_law_225 rfl (by omega) hn ?_
  refine j_aload_n 0 C dL_law_226 rfl rfl ?_
  refine j_iload 5 C dL_law_227 rfl ?_
  refine j_iconst (v := 2) C dL_law_229 rfl ?_
  refine j_iadd C dL_law_230 (nI_a2 t) ?_
  refine j_sld (x := t + 2) C hS hbl hbA dL_law_231 rfl (by omega) hn ?_
  refine j_aload_n 0 C dL_law_232 rfl rfl ?_
  refine j_iload 5 C dL_law_233 rfl ?_
  refine j_iconst (v := 3) C dL_law_235 rfl ?_
  refine j_iadd C dL_law_236 (nI_a3 t) ?_
  refine j_sld (x := t + 3) C hS hbl hbA dL_law_237 rfl (by omega) hn ?_
  refine j_aload_n 0 C dL_law_238 rfl rfl ?_
  refine j_iload 5 C dL_law_239 rfl ?_
  refine j_iconst (v := 4) C dL_law_241 rfl ?_
  refine j_iadd C dL_law_242 (nI_a4 t) ?_
  refine j_sld (x := t + 4) C hS hbl hbA dL_law_243 rfl (by omega) hn ?_
  refine j_bool C dL_law_244 dL_law_247 dL_law_248 dL_law_251 ?_
  refine j_oV (As := [.int (xs (t + 1)), .int (xs (t + 2)), .int (xs (t + 3)), .int (jb (!decide (xs (t + 4) = 0)))]) (rest := []) (Fx := (outD, jaD g 1 od) :: (out, jaL g 1 o1) :: w1) (V := Wr) (v := .int bb) (Cn := RX5) C hX hZ hN hR gL_law_X5_addLoop rfl hd5_addLoop ⟨by omega, by omega⟩ jLp2 (jRW_m0 hr) (N := 11) (T := TX5) rfl dL_law_252 rfl (Nat.le_of_ble_eq_true rfl) ⟨by omega, by omega⟩ rfl (fun w2 hr1 => ?_)
  refine j_istore (x := bb) (L' := [(0, .ref b), (1, .ref x0), (2, .ref m0), (3, .ref out), (4, .ref outD), (5, .int (nI t)), (6, .int kk), (7, .int bb)]) C dL_law_255 (by decide) rfl rfl ?_
  refine j_aload_n 2 C dL_law_257 rfl rfl ?_
  refine j_oV (As := []) (rest := []) (Fx := (outD, jaD g 1 od) :: (out, jaL g 1 o1) :: w1) (V := w2) (v := .int kk) (Cn := RX5) C hX hZ hN (op_thrown hr1) gL_law_X5_thrown rfl hd5_thrown ⟨by show 0 + 1 ≤ _; omega, by show 8 + (1 + 11) + 0 ≤ _; omega⟩ (List.Perm.refl _) (jRW_m0 hr1) (N := 11) (T := TX5) rfl dL_law_258 rfl (Nat.le_of_ble_eq_true rfl) ⟨by show cells + rm.cells + rm2.cells + 0 ≤ _; omega, by show slots + rm.slots + rm2.slots + 0 ≤ _; omega⟩ rfl (fun w3 hr3 => ?_)
  refine j_iload 6 C dL_law_261 rfl ?_
  refine j_icmp_eq (tgt := 268) C dL_law_263 rfl (fun _ => ?_) (fun h => absurd rfl h)
  refine j_iload 6 C dL_law_268 rfl ?_
  refine j_if_ne (tgt := 285) C dL_law_270 rfl (fun _ => ?_) (fun hk0 => ?_)
  · refine j_goto (tgt := 1506) C dL_law_285 rfl ?_
    refine j_pick [0, 1, 2, 3, 4, 5] rfl ?_
    refine j_widen (k := cells + 4) (n := slots + 452) (by show cells + rm.cells + rm2.cells + 0 ≤ _; omega) (by show slots + rm.slots + rm2.slots + 0 ≤ _; omega) ?_
    exact k _ ⟨o1, od, w1, w3, N1, pn1, pf1, len1, row1, vv1, lk1, kk, hok1, hc1, hr3, rfl⟩
  · skip
    refine j_aload_n 3 C dL_law_273 rfl rfl ?_
    refine j_iconst (v := 0) C dL_law_274 rfl ?_
    refine j_laldN (x := 0) 1 C dL_law_275 rfl rfl (by decide) (by decide) ?_
    refine j_iload 7 C dL_law_276 rfl ?_
    refine j_i2l C dL_law_278 rfl ?_
    refine j_lcmp_eq (tgt := 285) C dL_law_279 dL_law_280 rfl (fun _ => ?_) (fun h => absurd (hv hk0) h)
    refine j_goto (tgt := 1506) C dL_law_285 rfl ?_
    refine j_pick [0, 1, 2, 3, 4, 5] rfl ?_
    refine j_widen (k := cells + 4) (n := slots + 452) (by show cells + rm.cells + rm2.cells + 0 ≤ _; omega) (by show slots + rm.slots + rm2.slots + 0 ≤ _; omega) ?_
    exact k _ ⟨o1, od, w1, w3, N1, pn1, pf1, len1, row1, vv1, lk1, kk, hok1, hc1, hr3, rfl⟩
theorem law_addStep (C : jC p s m args meth c code wsL_law RL 9 A g) (K : jLc l R s b n xs A) (ht : t + 7 ≤ n) (hroom : cells + 4 ≤ R.cells ∧ slots + 452 ≤ R.slots) (hI : jIW g x0 m0 out outD ws) (k : ∀ ws', jIW g x0 m0 out outD ws' → jJ p l e R s m args below meth c Q A g (va_S A s.heap) 9 (cells + 4) (slots + 452) 1506 (jLL b x0 m0 out outD t) [] ws') : jJ p l e R s m args below meth c Q A g (va_S A s.heap) 9 cells slots 288 (jLL b x0 m0 out outD t) [] ws := by
  obtain ⟨hX, hZ, hN, hS, hbl, hbA, hn, hRf, hRl, hst⟩ := K
  obtain ⟨o, od, Wc, Wr, N, pn, pf, len, row, vv, lk, th, hok, hc, hr, rfl⟩ := hI
  obtain ⟨kk, bb, rm, rm2, N1, pn1, pf1, len1, row1, vv1, lk1, hok1, ⟨f1, l1, c1, s1⟩, ⟨f2, l2, c2, s2⟩, hL, hR⟩ := op_addStep (out := out) hst hok hc hr (xs (t + 1)) (xs (t + 2)) (xs (t + 3)) (xs (t + 4)) (xs (t + 5)) (xs (t + 6)) o
  refine j_aload_n 1 C dL_law_288 rfl rfl ?_
  refine j_aload_n 0 C dL_law_289 rfl rfl ?_
  refine j_iload 5 C dL_law_290 rfl ?_
  refine j_iconst (v := 1) C dL_law_292 rfl ?_
  refine j_iadd C dL_law_293 (nI_a1 t) ?_
  refine j_sld (x := t + 1) C hS hbl hbA dL_law_294 rfl (by omega) hn ?_
  refine j_aload_n 0 C dL_law_295 rfl rfl ?_
  refine j_iload 5 C dL_law_296 rfl ?_
  refine j_iconst (v := 2) C dL_law_298 rfl ?_
  refine j_iadd C dL_law_299 (nI_a2 t) ?_
  refine j_sld (x := t + 2) C hS hbl hbA dL_law_300 rfl (by omega) hn ?_
  refine j_aload_n 0 C dL_law_301 rfl rfl ?_
  refine j_iload 5 C dL_law_302 rfl ?_
  refine j_iconst (v := 3) C dL_law_304 rfl ?_
  refine j_iadd C dL_law_305 (nI_a3 t) ?_
  refine j_sld (x := t + 3) C hS hbl hbA dL_law_306 rfl (by omega) hn ?_
  refine j_aload_n 0 C dL_law_307 rfl rfl ?_
  refine j_iload 5 C dL_law_308 rfl ?_
  refine j_iconst (v := 4) C dL_law_310 rfl ?_
  refine j_iadd C dL_law_311 (nI_a4 t) ?_
  refine j_sld (x := t + 4) C hS hbl hbA dL_law_312 rfl (by omega) hn ?_
  refine j_aload_n 0 C dL_law_313 rfl rfl ?_
  refine j_iload 5 C dL_law_314 rfl ?_
  refine j_iconst (v := 5) C dL_law_316 rfl ?_
  refine j_iadd C dL_law_317 (nI_a5 t) ?_
  refine j_sld (x := t + 5) C hS hbl hbA dL_law_318 rfl (by omega) hn ?_
  refine j_aload_n 0 C dL_law_319 rfl rfl ?_
  refine j_iload 5 C dL_law_320 rfl ?_
  refine j_bipush (v := 6) C dL_law_322 (by decide) ?_
  refine j_iadd C dL_law_324 (nI_a6 t) ?_
  refine j_sld (x := t + 6) C hS hbl hbA dL_law_325 rfl (by omega) hn ?_
  refine j_aload_n 3 C dL_law_326 rfl rfl ?_
  refine j_oS (As := [.ref x0, .int (xs (t + 1)), .int (xs (t + 2)), .int (xs (t + 3)), .int (xs (t + 4)), .int (xs (t + 5)), .int (xs (t + 6)), .ref out]) (rest := []) (Fx := (outD, jaD g 1 od) :: Wr) (V := (out, jaL g 1 o) :: Wc) (v := .int kk) C hX hZ hN hL gL_law_L_addStep rfl hdS_L_addStep ⟨by omega, by omega⟩ jLp1 dL_law_327 rfl (Nat.le_of_ble_eq_true rfl) ⟨by omega, by omega⟩ rfl (fun w hw => ?_)
  obtain ⟨o1, w1, rfl, hc1, hv⟩ := hw
  refine j_istore (x := kk) (L' := [(0, .ref b), (1, .ref x0), (2, .ref m0), (3, .ref out), (4, .ref outD), (5, .int (nI t)), (6, .int kk)]) C dL_law_330 (by decide) rfl rfl ?_
  refine j_aload_n 2 C dL_law_332 rfl rfl ?_
  refine j_aload_n 0 C dL_law_333 rfl rfl ?_
  refine j_iload 5 C dL_law_334 rfl ?_
  refine j_iconst (v := 1) C dL_law_336 rfl ?_
  refine j_iadd C dL_law_337 (nI_a1 t) ?_
  refine j_sld (x := t + 1) C hS hbl hbA dL_law_338 rfl (by omega) hn ?_
  refine j_aload_n 0 C dL_law_339 rfl rfl ?_
  refine j_iload 5 C dL_law_340 rfl ?_
  refine j_iconst (v := 2) C dL_law_342 rfl ?_
  refine j_iadd C dL_law_343 (nI_a2 t) ?_
  refine j_sld (x := t + 2) C hS hbl hbA dL_law_344 rfl (by omega) hn ?_
  refine j_aload_n 0 C dL_law_345 rfl rfl ?_
  refine j_iload 5 C dL_law_346 rfl ?_
  refine j_iconst (v := 3) C dL_law_348 rfl ?_
  refine j_iadd C dL_law_349 (nI_a3 t) ?_
  refine j_sld (x := t + 3) C hS hbl hbA dL_law_350 rfl (by omega) hn ?_
  refine j_aload_n 0 C dL_law_351 rfl rfl ?_
  refine j_iload 5 C dL_law_352 rfl ?_
  refine j_iconst (v := 4) C dL_law_354 rfl ?_
  refine j_iadd C dL_law_355 (nI_a4 t) ?_
  refine j_sld (x := t + 4) C hS hbl hbA dL_law_356 rfl (by omega) hn ?_
  refine j_aload_n 0 C dL_law_357 rfl rfl ?_
  refine j_iload 5 C dL_law_358 rfl ?_
  refine j_iconst (v := 5) C dL_law_360 rfl ?_
  refine j_iadd C dL_law_361 (nI_a5 t) ?_
  refine j_sld (x := t + 5) C hS hbl hbA dL_law_362 rfl (by omega) hn ?_
  refine j_aload_n 0 C dL_law_363 rfl rfl ?_
  refine j_iload 5 C dL_law_364 rfl ?_
  refine j_bipush (v := 6) C dL_law_366 (by decide) ?_
  refine j_iadd C dL_law_368 (nI_a6 t) ?_
  refine j_sld (x := t + 6) C hS hbl hbA dL_law_369 rfl (by omega) hn ?_
  refine j_oV (As := [.int (xs (t + 1)), .int (xs (t + 2)), .int (xs (t + 3)), .int (xs (t + 4)), .int (xs (t + 5)), .int (xs (t + 6))]) (rest := []) (Fx := (outD, jaD g 1 od) :: (out, jaL g 1 o1) :: w1) (V := Wr) (v := .int bb) (Cn := RX5) C hX hZ hN hR gL_law_X5_addStep rfl hd5_addStep ⟨by omega, by omega⟩ jLp2 (jRW_m0 hr) (N := 11) (T := TX5) rfl dL_law_370 rfl (Nat.le_of_ble_eq_true rfl) ⟨by omega, by omega⟩ rfl (fun w2 hr1 => ?_)
  refine j_istore (x := bb) (L' := [(0, .ref b), (1, .ref x0), (2, .ref m0), (3, .ref out), (4, .ref outD), (5, .int (nI t)), (6, .int kk), (7, .int bb)]) C dL_law_373 (by decide) rfl rfl ?_
  refine j_aload_n 2 C dL_law_375 rfl rfl ?_
  refine j_oV (As := []) (rest := []) (Fx := (outD, jaD g 1 od) :: (out, jaL g 1 o1) :: w1) (V := w2) (v := .int kk) (Cn := RX5) C hX hZ hN (op_thrown hr1) gL_law_X5_thrown rfl hd5_thrown ⟨by show 0 + 1 ≤ _; omega, by show 8 + (1 + 11) + 0 ≤ _; omega⟩ (List.Perm.refl _) (jRW_m0 hr1) (N := 11) (T := TX5) rfl dL_law_376 rfl (Nat.le_of_ble_eq_true rfl) ⟨by show cells + rm.cells + rm2.cells + 0 ≤ _; omega, by show slots + rm.slots + rm2.slots + 0 ≤ _; omega⟩ rfl (fun w3 hr3 => ?_)
  refine j_iload 6 C dL_law_379 rfl ?_
  refine j_icmp_eq (tgt := 386) C dL_law_381 rfl (fun _ => ?_) (fun h => absurd rfl h)
  refine j_iload 6 C dL_law_386 rfl ?_
  refine j_if_ne (tgt := 403) C dL_law_388 rfl (fun _ => ?_) (fun hk0 => ?_)
  · refine j_goto (tgt := 1506) C dL_law_403 rfl ?_
    refine j_pick [0, 1, 2, 3, 4, 5] rfl ?_
    refine j_widen (k := cells + 4) (n := slots + 452) (by show cells + rm.cells + rm2.cells + 0 ≤ _; omega) (by show slots + rm.slots + rm2.slots + 0 ≤ _; omega) ?_
    exact k _ ⟨o1, od, w1, w3, N1, pn1, pf1, len1, row1, vv1, lk1, kk, hok1, hc1, hr3, rfl⟩
  · skip
    refine j_aload_n 3 C dL_law_391 rfl rfl ?_
    refine j_iconst (v := 0) C dL_law_392 rfl ?_
    refine j_laldN (x := 0) 1 C dL_law_393 rfl rfl (by decide) (by decide) ?_
    refine j_iload 7 C dL_law_394 rfl ?_
    refine j_i2l C dL_law_396 rfl ?_
    refine j_lcmp_eq (tgt := 403) C dL_law_397 dL_law_398 rfl (fun _ => ?_) (fun h => absurd (hv hk0) h)
    refine j_goto (tgt := 1506) C dL_law_403 rfl ?_
    refine j_pick [0, 1, 2, 3, 4, 5] rfl ?_
    refine j_widen (k := cells + 4) (n := slots + 452) (by show cells + rm.cells + rm2.cells + 0 ≤ _; omega) (by show slots + rm.slots + rm2.slots + 0 ≤ _; omega) ?_
    exact k _ ⟨o1, od, w1, w3, N1, pn1, pf1, len1, row1, vv1, lk1, kk, hok1, hc1, hr3, rfl⟩
theorem law_loop (C : jC p s m args meth c code wsL_law RL 9 A g) (K : jLc l R s b n xs A) (ht : t + 7 ≤ n) (hroom : cells + 4 ≤ R.cells ∧ slots + 452 ≤ R.slots) (hI : jIW g x0 m0 out outD ws) (k : ∀ ws', jIW g x0 m0 out outD ws' → jJ p l e R s m args below meth c Q A g (va_S A s.heap) 9 (cells + 4) (slots + 452) 1506 (jLL b x0 m0 out outD t) [] ws') : jJ p l e R s m args below meth c Q A g (va_S A s.heap) 9 cells slots 406 (jLL b x0 m0 out outD t) [] ws := by
  obtain ⟨hX, hZ, hN, hS, hbl, hbA, hn, hRf, hRl, hst⟩ := K
  obtain ⟨o, od, Wc, Wr, N, pn, pf, len, row, vv, lk, th, hok, hc, hr, rfl⟩ := hI
  obtain ⟨kk, bb, rm, rm2, N1, pn1, pf1, len1, row1, vv1, lk1, hok1, ⟨f1, l1, c1, s1⟩, ⟨f2, l2, c2, s2⟩, hL, hR⟩ := op_loop (out := out) hst hok hc hr (xs (t + 1)) (xs (t + 2)) (xs (t + 3)) o
  refine j_aload_n 1 C dL_law_406 rfl rfl ?_
  refine j_aload_n 0 C dL_law_407 rfl rfl ?_
  refine j_iload 5 C dL_law_408 rfl ?_
  refine j_iconst (v := 1) C dL_law_410 rfl ?_
  refine j_iadd C dL_law_411 (nI_a1 t) ?_
  refine j_sld (x := t + 1) C hS hbl hbA dL_law_412 rfl (by omega) hn ?_
  refine j_aload_n 0 C dL_law_413 rfl rfl ?_
  refine j_iload 5 C dL_law_414 rfl ?_
  refine j_iconst (v := 2) C dL_law_416 rfl ?_
  refine j_iadd C dL_law_417 (nI_a2 t) ?_
  refine j_sld (x := t + 2) C hS hbl hbA dL_law_418 rfl (by omega) hn ?_
  refine j_aload_n 0 C dL_law_419 rfl rfl ?_
  refine j_iload 5 C dL_law_420 rfl ?_
  refine j_iconst (v := 3) C dL_law_422 rfl ?_
  refine j_iadd C dL_law_423 (nI_a3 t) ?_
  refine j_sld (x := t + 3) C hS hbl hbA dL_law_424 rfl (by omega) hn ?_
  refine j_aload_n 3 C dL_law_425 rfl rfl ?_
  refine j_oS (As := [.ref x0, .int (xs (t + 1)), .int (xs (t + 2)), .int (xs (t + 3)), .ref out]) (rest := []) (Fx := (outD, jaD g 1 od) :: Wr) (V := (out, jaL g 1 o) :: Wc) (v := .int kk) C hX hZ hN hL gL_law_L_loop rfl hdS_L_loop ⟨by omega, by omega⟩ jLp1 dL_law_426 rfl (Nat.le_of_ble_eq_true rfl) ⟨by omega, by omega⟩ rfl (fun w hw => ?_)
  obtain ⟨o1, w1, rfl, hc1, hv⟩ := hw
  refine j_istore (x := kk) (L' := [(0, .ref b), (1, .ref x0), (2, .ref m0), (3, .ref out), (4, .ref outD), (5, .int (nI t)), (6, .int kk)]) C dL_law_429 (by decide) rfl rfl ?_
  refine j_aload_n 2 C dL_law_431 rfl rfl ?_
  refine j_aload_n 0 C dL_law_432 rfl rfl ?_
  refine j_iload 5 C dL_law_433 rfl ?_
  refine j_iconst (v := 1) C dL_law_435 rfl ?_
  refine j_iadd C dL_law_436 (nI_a1 t) ?_
  refine j_sld (x := t + 1) C hS hbl hbA dL_law_437 rfl (by omega) hn ?_
  refine j_aload_n 0 C dL_law_438 rfl rfl ?_
  refine j_iload 5 C dL_law_439 rfl ?_
  refine j_iconst (v := 2) C dL_law_441 rfl ?_
  refine j_iadd C dL_law_442 (nI_a2 t) ?_
  refine j_sld (x := t + 2) C hS hbl hbA dL_law_443 rfl (by omega) hn ?_
  refine j_aload_n 0 C dL_law_444 rfl rfl ?_
  refine j_iload 5 C dL_law_445 rfl ?_
  refine j_iconst (v := 3) C dL_law_447 rfl ?_
  refine j_iadd C dL_law_448 (nI_a3 t) ?_
  refine j_sld (x := t + 3) C hS hbl hbA dL_law_449 rfl (by omega) hn ?_
  refine j_oV (As := [.int (xs (t + 1)), .int (xs (t + 2)), .int (xs (t + 3))]) (rest := []) (Fx := (outD, jaD g 1 od) :: (out, jaL g 1 o1) :: w1) (V := Wr) (v := .int bb) (Cn := RX5) C hX hZ hN hR gL_law_X5_loop rfl hd5_loop ⟨by omega, by omega⟩ jLp2 (jRW_m0 hr) (N := 11) (T := TX5) rfl dL_law_450 rfl (Nat.le_of_ble_eq_true rfl) ⟨by omega, by omega⟩ rfl (fun w2 hr1 => ?_)
  refine j_istore (x := bb) (L' := [(0, .ref b), (1, .ref x0), (2, .ref m0), (3, .ref out), (4, .ref outD), (5, .int (nI t)), (6, .int kk), (7, .int bb)]) C dL_law_453 (by decide) rfl rfl ?_
  refine j_aload_n 2 C dL_law_455 rfl rfl ?_
  refine j_oV (As := []) (rest := []) (Fx := (outD, jaD g 1 od) :: (out, jaL g 1 o1) :: w1) (V := w2) (v := .int kk) (Cn := RX5) C hX hZ hN (op_thrown hr1) gL_law_X5_thrown rfl hd5_thrown ⟨by show 0 + 1 ≤ _; omega, by show 8 + (1 + 11) + 0 ≤ _; omega⟩ (List.Perm.refl _) (jRW_m0 hr1) (N := 11) (T := TX5) rfl dL_law_456 rfl (Nat.le_of_ble_eq_true rfl) ⟨by show cells + rm.cells + rm2.cells + 0 ≤ _; omega, by show slots + rm.slots + rm2.slots + 0 ≤ _; omega⟩ rfl (fun w3 hr3 => ?_)
  refine j_iload 6 C dL_law_459 rfl ?_
  refine j_icmp_eq (tgt := 466) C dL_law_461 rfl (fun _ => ?_) (fun h => absurd rfl h)
  refine j_iload 6 C dL_law_466 rfl ?_
  refine j_if_ne (tgt := 483) C dL_law_468 rfl (fun _ => ?_) (fun hk0 => ?_)
  · refine j_goto (tgt := 1506) C dL_law_483 rfl ?_
    refine j_pick [0, 1, 2, 3, 4, 5] rfl ?_
    refine j_widen (k := cells + 4) (n := slots + 452) (by show cells + rm.cells + rm2.cells + 0 ≤ _; omega) (by show slots + rm.slots + rm2.slots + 0 ≤ _; omega) ?_
    exact k _ ⟨o1, od, w1, w3, N1, pn1, pf1, len1, row1, vv1, lk1, kk, hok1, hc1, hr3, rfl⟩
  · skip
    refine j_aload_n 3 C dL_law_471 rfl rfl ?_
    refine j_iconst (v := 0) C dL_law_472 rfl ?_
    refine j_laldN (x := 0) 1 C dL_law_473 rfl rfl (by decide) (by decide) ?_
    refine j_iload 7 C dL_law_474 rfl ?_
    refine j_i2l C dL_law_476 rfl ?_
    refine j_lcmp_eq (tgt := 483) C dL_law_477 dL_law_478 rfl (fun _ => ?_) (fun h => absurd (hv hk0) h)
    refine j_goto (tgt := 1506) C dL_law_483 rfl ?_
    refine j_pick [0, 1, 2, 3, 4, 5] rfl ?_
    refine j_widen (k := cells + 4) (n := slots + 452) (by show cells + rm.cells + rm2.cells + 0 ≤ _; omega) (by show slots + rm.slots + rm2.slots + 0 ≤ _; omega) ?_
    exact k _ ⟨o1, od, w1, w3, N1, pn1, pf1, len1, row1, vv1, lk1, kk, hok1, hc1, hr3, rfl⟩
theorem law_step (C : jC p s m args meth c code wsL_law RL 9 A g) (K : jLc l R s b n xs A) (ht : t + 7 ≤ n) (hroom : cells + 4 ≤ R.cells ∧ slots + 452 ≤ R.slots) (hI : jIW g x0 m0 out outD ws) (k : ∀ ws', jIW g x0 m0 out outD ws' → jJ p l e R s m args below meth c Q A g (va_S A s.heap) 9 (cells + 4) (slots + 452) 1506 (jLL b x0 m0 out outD t) [] ws') : jJ p l e R s m args below meth c Q A g (va_S A s.heap) 9 cells slots 486 (jLL b x0 m0 out outD t) [] ws := by
  obtain ⟨hX, hZ, hN, hS, hbl, hbA, hn, hRf, hRl, hst⟩ := K
  obtain ⟨o, od, Wc, Wr, N, pn, pf, len, row, vv, lk, th, hok, hc, hr, rfl⟩ := hI
  obtain ⟨kk, bb, rm, rm2, N1, pn1, pf1, len1, row1, vv1, lk1, hok1, ⟨f1, l1, c1, s1⟩, ⟨f2, l2, c2, s2⟩, hL, hR⟩ := op_step (out := out) hst hok hc hr (xs (t + 1)) (xs (t + 2)) (xs (t + 3)) (xs (t + 4)) o
  refine j_aload_n 1 C dL_law_486 rfl rfl ?_
  refine j_aload_n 0 C dL_law_487 rfl rfl ?_
  refine j_iload 5 C dL_law_488 rfl ?_
  refine j_iconst (v := 1) C dL_law_490 rfl ?_
  refine j_iadd C dL_law_491 (nI_a1 t) ?_
  refine j_sld (x := t + 1) C hS hbl hbA dL_law_492 rfl (by omega) hn ?_
  refine j_aload_n 0 C dL_law_493 rfl rfl ?_
  refine j_iload 5 C dL_law_494 rfl ?_
  refine j_iconst (v := 2) C dL_law_496 rfl ?_
  refine j_iadd C dL_law_497 (nI_a2 t) ?_
  refine j_sld (x := t + 2) C hS hbl hbA dL_law_498 rfl (by omega) hn ?_
  refine j_aload_n 0 C dL_law_499 rfl rfl ?_
  refine j_iload 5 C dL_law_500 rfl ?_
  refine j_iconst (v := 3) C dL_law_502 rfl ?_
  refine j_iadd C dL_law_503 (nI_a3 t) ?_
  refine j_sld (x := t + 3) C hS hbl hbA dL_law_504 rfl (by omega) hn ?_
  refine j_aload_n 0 C dL_law_505 rfl rfl ?_
  refine j_iload 5 C dL_law_506 rfl ?_
  refine j_iconst (v := 4) C dL_law_508 rfl ?_
  refine j_iadd C dL_law_509 (nI_a4 t) ?_
  refine j_sld (x := t + 4) C hS hbl hbA dL_law_510 rfl (by omega) hn ?_
  refine j_aload_n 3 C dL_law_511 rfl rfl ?_
  refine j_oS (As := [.ref x0, .int (xs (t + 1)), .int (xs (t + 2)), .int (xs (t + 3)), .int (xs (t + 4)), .ref out]) (rest := []) (Fx := (outD, jaD g 1 od) :: Wr) (V := (out, jaL g 1 o) :: Wc) (v := .int kk) C hX hZ hN hL gL_law_L_step rfl hdS_L_step ⟨by omega, by omega⟩ jLp1 dL_law_512 rfl (Nat.le_of_ble_eq_true rfl) ⟨by omega, by omega⟩ rfl (fun w hw => ?_)
  obtain ⟨o1, w1, rfl, hc1, hv⟩ := hw
  refine j_istore (x := kk) (L' := [(0, .ref b), (1, .ref x0), (2, .ref m0), (3, .ref out), (4, .ref outD), (5, .int (nI t)), (6, .int kk)]) C dL_law_515 (by decide) rfl rfl ?_
  refine j_aload_n 2 C dL_law_517 rfl rfl ?_
  refine j_aload_n 0 C dL_law_518 rfl rfl ?_
  refine j_iload 5 C dL_law_519 rfl ?_
  refine j_iconst (v := 1) C dL_law_521 rfl ?_
  refine j_iadd C dL_law_522 (nI_a1 t) ?_
  refine j_sld (x := t + 1) C hS hbl hbA dL_law_523 rfl (by omega) hn ?_
  refine j_aload_n 0 C dL_law_524 rfl rfl ?_
  refine j_iload 5 C dL_law_525 rfl ?_
  refine j_iconst (v := 2) C dL_law_527 rfl ?_
  refine j_iadd C dL_law_528 (nI_a2 t) ?_
  refine j_sld (x := t + 2) C hS hbl hbA dL_law_529 rfl (by omega) hn ?_
  refine j_aload_n 0 C dL_law_530 rfl rfl ?_
  refine j_iload 5 C dL_law_531 rfl ?_
  refine j_iconst (v := 3) C dL_law_533 rfl ?_
  refine j_iadd C dL_law_534 (nI_a3 t) ?_
  refine j_sld (x := t + 3) C hS hbl hbA dL_law_535 rfl (by omega) hn ?_
  refine j_aload_n 0 C dL_law_536 rfl rfl ?_
  refine j_iload 5 C dL_law_537 rfl ?_
  refine j_iconst (v := 4) C dL_law_539 rfl ?_
  refine j_iadd C dL_law_540 (nI_a4 t) ?_
  refine j_sld (x := t + 4) C hS hbl hbA dL_law_541 rfl (by omega) hn ?_
  refine j_oV (As := [.int (xs (t + 1)), .int (xs (t + 2)), .int (xs (t + 3)), .int (xs (t + 4))]) (rest := []) (Fx := (outD, jaD g 1 od) :: (out, jaL g 1 o1) :: w1) (V := Wr) (v := .int bb) (Cn := RX5) C hX hZ hN hR gL_law_X5_step rfl hd5_step ⟨by omega, by omega⟩ jLp2 (jRW_m0 hr) (N := 11) (T := TX5) rfl dL_law_542 rfl (Nat.le_of_ble_eq_true rfl) ⟨by omega, by omega⟩ rfl (fun w2 hr1 => ?_)
  refine j_istore (x := bb) (L' := [(0, .ref b), (1, .ref x0), (2, .ref m0), (3, .ref out), (4, .ref outD), (5, .int (nI t)), (6, .int kk), (7, .int bb)]) C dL_law_545 (by decide) rfl rfl ?_
  refine j_aload_n 2 C dL_law_547 rfl rfl ?_
  refine j_oV (As := []) (rest := []) (Fx := (outD, jaD g 1 od) :: (out, jaL g 1 o1) :: w1) (V := w2) (v := .int kk) (Cn := RX5) C hX hZ hN (op_thrown hr1) gL_law_X5_thrown rfl hd5_thrown ⟨by show 0 + 1 ≤ _; omega, by show 8 + (1 + 11) + 0 ≤ _; omega⟩ (List.Perm.refl _) (jRW_m0 hr1) (N := 11) (T := TX5) rfl dL_law_548 rfl (Nat.le_of_ble_eq_true rfl) ⟨by show cells + rm.cells + rm2.cells + 0 ≤ _; omega, by show slots + rm.slots + rm2.slots + 0 ≤ _; omega⟩ rfl (fun w3 hr3 => ?_)
  refine j_iload 6 C dL_law_551 rfl ?_
  refine j_icmp_eq (tgt := 558) C dL_law_553 rfl (fun _ => ?_) (fun h => absurd rfl h)
  refine j_iload 6 C dL_law_558 rfl ?_
  refine j_if_ne (tgt := 575) C dL_law_560 rfl (fun _ => ?_) (fun hk0 => ?_)
  · refine j_goto (tgt := 1506) C dL_law_575 rfl ?_
    refine j_pick [0, 1, 2, 3, 4, 5] rfl ?_
    refine j_widen (k := cells + 4) (n := slots + 452) (by show cells + rm.cells + rm2.cells + 0 ≤ _; omega) (by show slots + rm.slots + rm2.slots + 0 ≤ _; omega) ?_
    exact k _ ⟨o1, od, w1, w3, N1, pn1, pf1, len1, row1, vv1, lk1, kk, hok1, hc1, hr3, rfl⟩
  · skip
    refine j_aload_n 3 C dL_law_563 rfl rfl ?_
    refine j_iconst (v := 0) C dL_law_564 rfl ?_
    refine j_laldN (x := 0) 1 C dL_law_565 rfl rfl (by decide) (by decide) ?_
    refine j_iload 7 C dL_law_566 rfl ?_
    refine j_i2l C dL_law_568 rfl ?_
    refine j_lcmp_eq (tgt := 575) C dL_law_569 dL_law_570 rfl (fun _ => ?_) (fun h => absurd (hv hk0) h)
    refine j_goto (tgt := 1506) C dL_law_575 rfl ?_
    refine j_pick [0, 1, 2, 3, 4, 5] rfl ?_
    refine j_widen (k := cells + 4) (n := slots + 452) (by show cells + rm.cells + rm2.cells + 0 ≤ _; omega) (by show slots + rm.slots + rm2.slots + 0 ≤ _; omega) ?_
    exact k _ ⟨o1, od, w1, w3, N1, pn1, pf1, len1, row1, vv1, lk1, kk, hok1, hc1, hr3, rfl⟩
theorem law_programs (C : jC p s m args meth c code wsL_law RL 9 A g) (K : jLc l R s b n xs A) (ht : t + 7 ≤ n) (hroom : cells + 4 ≤ R.cells ∧ slots + 452 ≤ R.slots) (hI : jIW g x0 m0 out outD ws) (k : ∀ ws', jIW g x0 m0 out outD ws' → jJ p l e R s m args below meth c Q A g (va_S A s.heap) 9 (cells + 4) (slots + 452) 1506 (jLL b x0 m0 out outD t) [] ws') : jJ p l e R s m args below meth c Q A g (va_S A s.heap) 9 cells slots 578 (jLL b x0 m0 out outD t) [] ws := by
  obtain ⟨hX, hZ, hN, hS, hbl, hbA, hn, hRf, hRl, hst⟩ := K
  obtain ⟨o, od, Wc, Wr, N, pn, pf, len, row, vv, lk, th, hok, hc, hr, rfl⟩ := hI
  obtain ⟨rm, rm2, N1, pn1, pf1, len1, row1, vv1, lk1, hok1, ⟨f1, l1, c1, s1⟩, ⟨f2, l2, c2, s2⟩, hL, hR⟩ := op_programs (l := l) hok hc hr
  refine j_aload_n 1 C dL_law_578 rfl rfl ?_
  refine j_oV (As := []) (rest := []) (Fx := (outD, jaD g 1 od) :: (out, jaL g 1 o) :: Wr) (V := Wc) (v := .int (nI N)) (Cn := RX4) C hX hZ hN hL gL_law_X4_programs rfl hdD_programs ⟨by omega, by omega⟩ jLp5 (jCW_x0 hc) (N := 8) (T := TX4) rfl dL_law_579 rfl (Nat.le_of_ble_eq_true rfl) ⟨by omega, by omega⟩ rfl (fun w1 hc1 => ?_)
  refine j_aload_n 2 C dL_law_582 rfl rfl ?_
  refine j_oV (As := []) (rest := [.int (nI N)]) (Fx := (outD, jaD g 1 od) :: (out, jaL g 1 o) :: w1) (V := Wr) (v := .int (nI N)) (Cn := RX5) C hX hZ hN hR gL_law_X5_programs rfl hd5_programs ⟨by omega, by omega⟩ jLp6 (jRW_m0 hr) (N := 11) (T := TX5) rfl dL_law_583 rfl (Nat.le_of_ble_eq_true rfl) ⟨by omega, by omega⟩ rfl (fun w3 hr3 => ?_)
  refine j_icmp_eq (tgt := 1506) C dL_law_586 rfl (fun _ => ?_) (fun h => absurd rfl h)
  refine j_widen (k := cells + 4) (n := slots + 452) (by omega) (by omega) ?_
  exact k _ ⟨o, od, w1, w3, N1, pn1, pf1, len1, row1, vv1, lk1, 0, hok1, hc1, hr3, rfl⟩
theorem law_loops (C : jC p s m args meth c code wsL_law RL 9 A g) (K : jLc l R s b n xs A) (ht : t + 7 ≤ n) (hroom : cells + 4 ≤ R.cells ∧ slots + 452 ≤ R.slots) (hI : jIW g x0 m0 out outD ws) (k : ∀ ws', jIW g x0 m0 out outD ws' → jJ p l e R s m args below meth c Q A g (va_S A s.heap) 9 (cells + 4) (slots + 452) 1506 (jLL b x0 m0 out outD t) [] ws') : jJ p l e R s m args below meth c Q A g (va_S A s.heap) 9 cells slots 591 (jLL b x0 m0 out outD t) [] ws := by
  obtain ⟨hX, hZ, hN, hS, hbl, hbA, hn, hRf, hRl, hst⟩ := K
  obtain ⟨o, od, Wc, Wr, N, pn, pf, len, row, vv, lk, th, hok, hc, hr, rfl⟩ := hI
  obtain ⟨kk, bb, rm, rm2, N1, pn1, pf1, len1, row1, vv1, lk1, hok1, ⟨f1, l1, c1, s1⟩, ⟨f2, l2, c2, s2⟩, hL, hR⟩ := op_loops (out := out) hst hok hc hr (xs (t + 1)) o
  refine j_aload_n 1 C dL_law_591 rfl rfl ?_
  refine j_aload_n 0 C dL_law_592 rfl rfl ?_
  refine j_iload 5 C dL_law_593 rfl ?_
  refine j_iconst (v := 1) C dL_law_595 rfl ?_
  refine j_iadd C dL_law_596 (nI_a1 t) ?_
  refine j_sld (x := t + 1) C hS hbl hbA dL_law_597 rfl (by omega) hn ?_
  refine j_aload_n 3 C dL_law_598 rfl rfl ?_
  refine j_oS (As := [.ref x0, .int (xs (t + 1)), .ref out]) (rest := []) (Fx := (outD, jaD g 1 od) :: Wr) (V := (out, jaL g 1 o) :: Wc) (v := .int kk) C hX hZ hN hL gL_law_L_loops rfl hdS_L_loops ⟨by omega, by omega⟩ jLp1 dL_law_599 rfl (Nat.le_of_ble_eq_true rfl) ⟨by omega, by omega⟩ rfl (fun w hw => ?_)
  obtain ⟨o1, w1, rfl, hc1, hv⟩ := hw
  refine j_istore (x := kk) (L' := [(0, .ref b), (1, .ref x0), (2, .ref m0), (3, .ref out), (4, .ref outD), (5, .int (nI t)), (6, .int kk)]) C dL_law_602 (by decide) rfl rfl ?_
  refine j_aload_n 2 C dL_law_604 rfl rfl ?_
  refine j_aload_n 0 C dL_law_605 rfl rfl ?_
  refine j_iload 5 C dL_law_606 rfl ?_
  refine j_iconst (v := 1) C dL_law_608 rfl ?_
  refine j_iadd C dL_law_609 (nI_a1 t) ?_
  refine j_sld (x := t + 1) C hS hbl hbA dL_law_610 rfl (by omega) hn ?_
  refine j_oV (As := [.int (xs (t + 1))]) (rest := []) (Fx := (outD, jaD g 1 od) :: (out, jaL g 1 o1) :: w1) (V := Wr) (v := .int bb) (Cn := RX5) C hX hZ hN hR gL_law_X5_loops rfl hd5_loops ⟨by omega, by omega⟩ jLp2 (jRW_m0 hr) (N := 11) (T := TX5) rfl dL_law_611 rfl (Nat.le_of_ble_eq_true rfl) ⟨by omega, by omega⟩ rfl (fun w2 hr1 => ?_)
  refine j_istore (x := bb) (L' := [(0, .ref b), (1, .ref x0), (2, .ref m0), (3, .ref out), (4, .ref outD), (5, .int (nI t)), (6, .int kk), (7, .int bb)]) C dL_law_614 (by decide) rfl rfl ?_
  refine j_aload_n 2 C dL_law_616 rfl rfl ?_
  refine j_oV (As := []) (rest := []) (Fx := (outD, jaD g 1 od) :: (out, jaL g 1 o1) :: w1) (V := w2) (v := .int kk) (Cn := RX5) C hX hZ hN (op_thrown hr1) gL_law_X5_thrown rfl hd5_thrown ⟨by show 0 + 1 ≤ _; omega, by show 8 + (1 + 11) + 0 ≤ _; omega⟩ (List.Perm.refl _) (jRW_m0 hr1) (N := 11) (T := TX5) rfl dL_law_617 rfl (Nat.le_of_ble_eq_true rfl) ⟨by show cells + rm.cells + rm2.cells + 0 ≤ _; omega, by show slots + rm.slots + rm2.slots + 0 ≤ _; omega⟩ rfl (fun w3 hr3 => ?_)
  refine j_iload 6 C dL_law_620 rfl ?_
  refine j_icmp_eq (tgt := 627) C dL_law_622 rfl (fun _ => ?_) (fun h => absurd rfl h)
  refine j_iload 6 C dL_law_627 rfl ?_
  refine j_if_ne (tgt := 644) C dL_law_629 rfl (fun _ => ?_) (fun hk0 => ?_)
  · refine j_goto (tgt := 1506) C dL_law_644 rfl ?_
    refine j_pick [0, 1, 2, 3, 4, 5] rfl ?_
    refine j_widen (k := cells + 4) (n := slots + 452) (by show cells + rm.cells + rm2.cells + 0 ≤ _; omega) (by show slots + rm.slots + rm2.slots + 0 ≤ _; omega) ?_
    exact k _ ⟨o1, od, w1, w3, N1, pn1, pf1, len1, row1, vv1, lk1, kk, hok1, hc1, hr3, rfl⟩
  · skip
    refine j_aload_n 3 C dL_law_632 rfl rfl ?_
    refine j_iconst (v := 0) C dL_law_633 rfl ?_
    refine j_laldN (x := 0) 1 C dL_law_634 rfl rfl (by decide) (by decide) ?_
    refine j_iload 7 C dL_law_635 rfl ?_
    refine j_i2l C dL_law_637 rfl ?_
    refine j_lcmp_eq (tgt := 644) C dL_law_638 dL_law_639 rfl (fun _ => ?_) (fun h => absurd (hv hk0) h)
    refine j_goto (tgt := 1506) C dL_law_644 rfl ?_
    refine j_pick [0, 1, 2, 3, 4, 5] rfl ?_
    refine j_widen (k := cells + 4) (n := slots + 452) (by show cells + rm.cells + rm2.cells + 0 ≤ _; omega) (by show slots + rm.slots + rm2.slots + 0 ≤ _; omega) ?_
    exact k _ ⟨o1, od, w1, w3, N1, pn1, pf1, len1, row1, vv1, lk1, kk, hok1, hc1, hr3, rfl⟩
theorem law_put (C : jC p s m args meth c code wsL_law RL 9 A g) (K : jLc l R s b n xs A) (ht : t + 7 ≤ n) (hroom : cells + 4 ≤ R.cells ∧ slots + 452 ≤ R.slots) (hI : jIW g x0 m0 out outD ws) (k : ∀ ws', jIW g x0 m0 out outD ws' → jJ p l e R s m args below meth c Q A g (va_S A s.heap) 9 (cells + 4) (slots + 452) 1506 (jLL b x0 m0 out outD t) [] ws') : jJ p l e R s m args below meth c Q A g (va_S A s.heap) 9 cells slots 647 (jLL b x0 m0 out outD t) [] ws := by
  obtain ⟨hX, hZ, hN, hS, hbl, hbA, hn, hRf, hRl, hst⟩ := K
  obtain ⟨o, od, Wc, Wr, N, pn, pf, len, row, vv, lk, th, hok, hc, hr, rfl⟩ := hI
  obtain ⟨kk, bb, rm, rm2, N1, pn1, pf1, len1, row1, vv1, lk1, hok1, ⟨f1, l1, c1, s1⟩, ⟨f2, l2, c2, s2⟩, hL, hR⟩ := op_put (out := out) hst hok hc hr ((xs (t + 1)).toInt64 <<< ((32 : Int32).toInt64 &&& 63) ||| ((xs (t + 2)).toInt64 &&& 4294967295)) o
  refine j_aload_n 1 C dL_law_647 rfl rfl ?_
  refine j_aload_n 0 C dL_law_648 rfl rfl ?_
  refine j_iload 5 C dL_law_649 rfl ?_
  refine j_iconst (v := 1) C dL_law_651 rfl ?_
  refine j_iadd C dL_law_652 (nI_a1 t) ?_
  refine j_sld (x := t + 1) C hS hbl hbA dL_law_653 rfl (by omega) hn ?_
  refine j_i2l C dL_law_654 rfl ?_
  refine j_bipush (v := 32) C dL_law_655 (by decide) ?_
  refine j_lshl C dL_law_657 rfl ?_
  refine j_aload_n 0 C dL_law_658 rfl rfl ?_
  refine j_iload 5 C dL_law_659 rfl ?_
  refine j_iconst (v := 2) C dL_law_661 rfl ?_
  refine j_iadd C dL_law_662 (nI_a2 t) ?_
  refine j_sld (x := t + 2) C hS hbl hbA dL_law_663 rfl (by omega) hn ?_
  refine j_i2l C dL_law_664 rfl ?_
  refine j_ldc2 C dL_law_665 (List.mem_of_getElem? (i := 8) rfl) ?_
  refine j_land C dL_law_668 rfl ?_
  refine j_lor C dL_law_669 rfl ?_
  refine j_aload_n 3 C dL_law_670 rfl rfl ?_
  refine j_oS (As := [.ref x0, .long ((xs (t + 1)).toInt64 <<< ((32 : Int32).toInt64 &&& 63) ||| ((xs (t + 2)).toInt64 &&& 4294967295)), .ref out]) (rest := []) (Fx := (outD, jaD g 1 od) :: Wr) (V := (out, jaL g 1 o) :: Wc) (v := .int kk) C hX hZ hN hL gL_law_L_put rfl hdS_L_put ⟨by omega, by omega⟩ jLp1 dL_law_671 rfl (Nat.le_of_ble_eq_true rfl) ⟨by omega, by omega⟩ rfl (fun w hw => ?_)
  obtain ⟨o1, w1, rfl, hc1, hv⟩ := hw
  refine j_istore (x := kk) (L' := [(0, .ref b), (1, .ref x0), (2, .ref m0), (3, .ref out), (4, .ref outD), (5, .int (nI t)), (6, .int kk)]) C dL_law_674 (by decide) rfl rfl ?_
  refine j_aload_n 2 C dL_law_676 rfl rfl ?_
  refine j_aload_n 0 C dL_law_677 rfl rfl ?_
  refine j_iload 5 C dL_law_678 rfl ?_
  refine j_iconst (v := 1) C dL_law_680 rfl ?_
  refine j_iadd C dL_law_681 (nI_a1 t) ?_
  refine j_sld (x := t + 1) C hS hbl hbA dL_law_682 rfl (by omega) hn ?_
  refine j_i2l C dL_law_683 rfl ?_
  refine j_bipush (v := 32) C dL_law_684 (by decide) ?_
  refine j_lshl C dL_law_686 rfl ?_
  refine j_aload_n 0 C dL_law_687 rfl rfl ?_
  refine j_iload 5 C dL_law_688 rfl ?_
  refine j_iconst (v := 2) C dL_law_690 rfl ?_
  refine j_iadd C dL_law_691 (nI_a2 t) ?_
  refine j_sld (x := t + 2) C hS hbl hbA dL_law_692 rfl (by omega) hn ?_
  refine j_i2l C dL_law_693 rfl ?_
  refine j_ldc2 C dL_law_694 (List.mem_of_getElem? (i := 8) rfl) ?_
  refine j_land C dL_law_697 rfl ?_
  refine j_lor C dL_law_698 rfl ?_
  refine j_oV (As := [.long ((xs (t + 1)).toInt64 <<< ((32 : Int32).toInt64 &&& 63) ||| ((xs (t + 2)).toInt64 &&& 4294967295))]) (rest := []) (Fx := (outD, jaD g 1 od) :: (out, jaL g 1 o1) :: w1) (V := Wr) (v := .int bb) (Cn := RX5) C hX hZ hN hR gL_law_X5_put rfl hd5_put ⟨by omega, by omega⟩ jLp2 (jRW_m0 hr) (N := 11) (T := TX5) rfl dL_law_699 rfl (Nat.le_of_ble_eq_true rfl) ⟨by omega, by omega⟩ rfl (fun w2 hr1 => ?_)
  refine j_istore (x := bb) (L' := [(0, .ref b), (1, .ref x0), (2, .ref m0), (3, .ref out), (4, .ref outD), (5, .int (nI t)), (6, .int kk), (7, .int bb)]) C dL_law_702 (by decide) rfl rfl ?_
  refine j_aload_n 2 C dL_law_704 rfl rfl ?_
  refine j_oV (As := []) (rest := []) (Fx := (outD, jaD g 1 od) :: (out, jaL g 1 o1) :: w1) (V := w2) (v := .int kk) (Cn := RX5) C hX hZ hN (op_thrown hr1) gL_law_X5_thrown rfl hd5_thrown ⟨by show 0 + 1 ≤ _; omega, by show 8 + (1 + 11) + 0 ≤ _; omega⟩ (List.Perm.refl _) (jRW_m0 hr1) (N := 11) (T := TX5) rfl dL_law_705 rfl (Nat.le_of_ble_eq_true rfl) ⟨by show cells + rm.cells + rm2.cells + 0 ≤ _; omega, by show slots + rm.slots + rm2.slots + 0 ≤ _; omega⟩ rfl (fun w3 hr3 => ?_)
  refine j_iload 6 C dL_law_708 rfl ?_
  refine j_icmp_eq (tgt := 715) C dL_law_710 rfl (fun _ => ?_) (fun h => absurd rfl h)
  refine j_iload 6 C dL_law_715 rfl ?_
  refine j_if_ne (tgt := 732) C dL_law_717 rfl (fun _ => ?_) (fun hk0 => ?_)
  · refine j_goto (tgt := 1506) C dL_law_732 rfl ?_
    refine j_pick [0, 1, 2, 3, 4, 5] rfl ?_
    refine j_widen (k := cells + 4) (n := slots + 452) (by show cells + rm.cells + rm2.cells + 0 ≤ _; omega) (by show slots + rm.slots + rm2.slots + 0 ≤ _; omega) ?_
    exact k _ ⟨o1, od, w1, w3, N1, pn1, pf1, len1, row1, vv1, lk1, kk, hok1, hc1, hr3, rfl⟩
  · skip
    refine j_aload_n 3 C dL_law_720 rfl rfl ?_
    refine j_iconst (v := 0) C dL_law_721 rfl ?_
    refine j_laldN (x := 0) 1 C dL_law_722 rfl rfl (by decide) (by decide) ?_
    refine j_iload 7 C dL_law_723 rfl ?_
    refine j_i2l C dL_law_725 rfl ?_
    refine j_lcmp_eq (tgt := 732) C dL_law_726 dL_law_727 rfl (fun _ => ?_) (fun h => absurd (hv hk0) h)
    refine j_goto (tgt := 1506) C dL_law_732 rfl ?_
    refine j_pick [0, 1, 2, 3, 4, 5] rfl ?_
    refine j_widen (k := cells + 4) (n := slots + 452) (by show cells + rm.cells + rm2.cells + 0 ≤ _; omega) (by show slots + rm.slots + rm2.slots + 0 ≤ _; omega) ?_
    exact k _ ⟨o1, od, w1, w3, N1, pn1, pf1, len1, row1, vv1, lk1, kk, hok1, hc1, hr3, rfl⟩
theorem law_empty (C : jC p s m args meth c code wsL_law RL 9 A g) (K : jLc l R s b n xs A) (ht : t + 7 ≤ n) (hroom : cells + 4 ≤ R.cells ∧ slots + 452 ≤ R.slots) (hI : jIW g x0 m0 out outD ws) (k : ∀ ws', jIW g x0 m0 out outD ws' → jJ p l e R s m args below meth c Q A g (va_S A s.heap) 9 (cells + 4) (slots + 452) 1506 (jLL b x0 m0 out outD t) [] ws') : jJ p l e R s m args below meth c Q A g (va_S A s.heap) 9 cells slots 735 (jLL b x0 m0 out outD t) [] ws := by
  obtain ⟨hX, hZ, hN, hS, hbl, hbA, hn, hRf, hRl, hst⟩ := K
  obtain ⟨o, od, Wc, Wr, N, pn, pf, len, row, vv, lk, th, hok, hc, hr, rfl⟩ := hI
  obtain ⟨rm, rm2, N1, pn1, pf1, len1, row1, vv1, lk1, hok1, ⟨f1, l1, c1, s1⟩, ⟨f2, l2, c2, s2⟩, hL, hR⟩ := op_empty (l := l) hok hc hr
  refine j_aload_n 1 C dL_law_735 rfl rfl ?_
  refine j_oV (As := []) (rest := []) (Fx := (outD, jaD g 1 od) :: (out, jaL g 1 o) :: Wr) (V := Wc) (v := .int (nI len)) (Cn := RX4) C hX hZ hN hL gL_law_X4_empty rfl hdD_empty ⟨by omega, by omega⟩ jLp5 (jCW_x0 hc) (N := 8) (T := TX4) rfl dL_law_736 rfl (Nat.le_of_ble_eq_true rfl) ⟨by omega, by omega⟩ rfl (fun w1 hc1 => ?_)
  refine j_aload_n 2 C dL_law_739 rfl rfl ?_
  refine j_oV (As := []) (rest := [.int (nI len)]) (Fx := (outD, jaD g 1 od) :: (out, jaL g 1 o) :: w1) (V := Wr) (v := .int (nI len)) (Cn := RX5) C hX hZ hN hR gL_law_X5_empty rfl hd5_empty ⟨by omega, by omega⟩ jLp6 (jRW_m0 hr) (N := 11) (T := TX5) rfl dL_law_740 rfl (Nat.le_of_ble_eq_true rfl) ⟨by omega, by omega⟩ rfl (fun w3 hr3 => ?_)
  refine j_icmp_eq (tgt := 1506) C dL_law_743 rfl (fun _ => ?_) (fun h => absurd rfl h)
  refine j_widen (k := cells + 4) (n := slots + 452) (by omega) (by omega) ?_
  exact k _ ⟨o, od, w1, w3, N1, pn1, pf1, len1, row1, vv1, lk1, 0, hok1, hc1, hr3, rfl⟩
theorem law_run (C : jC p s m args meth c code wsL_law RL 9 A g) (K : jLc l R s b n xs A) (ht : t + 7 ≤ n) (hroom : cells + 4 ≤ R.cells ∧ slots + 452 ≤ R.slots) (hI : jIW g x0 m0 out outD ws) (k : ∀ ws', jIW g x0 m0 out outD ws' → jJ p l e R s m args below meth c Q A g (va_S A s.heap) 9 (cells + 4) (slots + 452) 1506 (jLL b x0 m0 out outD t) [] ws') : jJ p l e R s m args below meth c Q A g (va_S A s.heap) 9 cells slots 748 (jLL b x0 m0 out outD t) [] ws := by
  obtain ⟨hX, hZ, hN, hS, hbl, hbA, hn, hRf, hRl, hst⟩ := K
  obtain ⟨o, od, Wc, Wr, N, pn, pf, len, row, vv, lk, th, hok, hc, hr, rfl⟩ := hI
  obtain ⟨kk, bb, rm, rm2, N1, pn1, pf1, len1, row1, vv1, lk1, hok1, ⟨f1, l1, c1, s1⟩, ⟨f2, l2, c2, s2⟩, hL, hR⟩ := op_run (out := out) hst hok hc hr (xs (t + 1)) o
  refine j_aload_n 1 C dL_law_748 rfl rfl ?_
  refine j_aload_n 0 C dL_law_749 rfl rfl ?_
  refine j_iload 5 C dL_law_750 rfl ?_
  refine j_iconst (v := 1) C dL_law_752 rfl ?_
  refine j_iadd C dL_law_753 (nI_a1 t) ?_
  refine j_sld (x := t + 1) C hS hbl hbA dL_law_754 rfl (by omega) hn ?_
  refine j_aload_n 3 C dL_law_755 rfl rfl ?_
  refine j_oS (As := [.ref x0, .int (xs (t + 1)), .ref out]) (rest := []) (Fx := (outD, jaD g 1 od) :: Wr) (V := (out, jaL g 1 o) :: Wc) (v := .int kk) C hX hZ hN hL gL_law_L_run rfl hdS_L_run ⟨by omega, by omega⟩ jLp1 dL_law_756 rfl (Nat.le_of_ble_eq_true rfl) ⟨by omega, by omega⟩ rfl (fun w hw => ?_)
  obtain ⟨o1, w1, rfl, hc1, hv⟩ := hw
  refine j_istore (x := kk) (L' := [(0, .ref b), (1, .ref x0), (2, .ref m0), (3, .ref out), (4, .ref outD), (5, .int (nI t)), (6, .int kk)]) C dL_law_759 (by decide) rfl rfl ?_
  refine j_aload_n 2 C dL_law_761 rfl rfl ?_
  refine j_aload_n 0 C dL_law_762 rfl rfl ?_
  refine j_iload 5 C dL_law_763 rfl ?_
  refine j_iconst (v := 1) C dL_law_765 rfl ?_
  refine j_iadd C dL_law_766 (nI_a1 t) ?_
  refine j_sld (x := t + 1) C hS hbl hbA dL_law_767 rfl (by omega) hn ?_
  refine j_oV (As := [.int (xs (t + 1))]) (rest := []) (Fx := (outD, jaD g 1 od) :: (out, jaL g 1 o1) :: w1) (V := Wr) (v := .int bb) (Cn := RX5) C hX hZ hN hR gL_law_X5_run rfl hd5_run ⟨by omega, by omega⟩ jLp2 (jRW_m0 hr) (N := 11) (T := TX5) rfl dL_law_768 rfl (Nat.le_of_ble_eq_true rfl) ⟨by omega, by omega⟩ rfl (fun w2 hr1 => ?_)
  refine j_istore (x := bb) (L' := [(0, .ref b), (1, .ref x0), (2, .ref m0), (3, .ref out), (4, .ref outD), (5, .int (nI t)), (6, .int kk), (7, .int bb)]) C dL_law_771 (by decide) rfl rfl ?_
  refine j_aload_n 2 C dL_law_773 rfl rfl ?_
  refine j_oV (As := []) (rest := []) (Fx := (outD, jaD g 1 od) :: (out, jaL g 1 o1) :: w1) (V := w2) (v := .int kk) (Cn := RX5) C hX hZ hN (op_thrown hr1) gL_law_X5_thrown rfl hd5_thrown ⟨by show 0 + 1 ≤ _; omega, by show 8 + (1 + 11) + 0 ≤ _; omega⟩ (List.Perm.refl _) (jRW_m0 hr1) (N := 11) (T := TX5) rfl dL_law_774 rfl (Nat.le_of_ble_eq_true rfl) ⟨by show cells + rm.cells + rm2.cells + 0 ≤ _; omega, by show slots + rm.slots + rm2.slots + 0 ≤ _; omega⟩ rfl (fun w3 hr3 => ?_)
  refine j_iload 6 C dL_law_777 rfl ?_
  refine j_icmp_eq (tgt := 784) C dL_law_779 rfl (fun _ => ?_) (fun h => absurd rfl h)
  refine j_iload 6 C dL_law_784 rfl ?_
  refine j_if_ne (tgt := 801) C dL_law_786 rfl (fun _ => ?_) (fun hk0 => ?_)
  · refine j_goto (tgt := 1506) C dL_law_801 rfl ?_
    refine j_pick [0, 1, 2, 3, 4, 5] rfl ?_
    refine j_widen (k := cells + 4) (n := slots + 452) (by show cells + rm.cells + rm2.cells + 0 ≤ _; omega) (by show slots + rm.slots + rm2.slots + 0 ≤ _; omega) ?_
    exact k _ ⟨o1, od, w1, w3, N1, pn1, pf1, len1, row1, vv1, lk1, kk, hok1, hc1, hr3, rfl⟩
  · skip
    refine j_aload_n 3 C dL_law_789 rfl rfl ?_
    refine j_iconst (v := 0) C dL_law_790 rfl ?_
    refine j_laldN (x := 0) 1 C dL_law_791 rfl rfl (by decide) (by decide) ?_
    refine j_iload 7 C dL_law_792 rfl ?_
    refine j_i2l C dL_law_794 rfl ?_
    refine j_lcmp_eq (tgt := 801) C dL_law_795 dL_law_796 rfl (fun _ => ?_) (fun h => absurd (hv hk0) h)
    refine j_goto (tgt := 1506) C dL_law_801 rfl ?_
    refine j_pick [0, 1, 2, 3, 4, 5] rfl ?_
    refine j_widen (k := cells + 4) (n := slots + 452) (by show cells + rm.cells + rm2.cells + 0 ≤ _; omega) (by show slots + rm.slots + rm2.slots + 0 ≤ _; omega) ?_
    exact k _ ⟨o1, od, w1, w3, N1, pn1, pf1, len1, row1, vv1, lk1, kk, hok1, hc1, hr3, rfl⟩
theorem law_ran (C : jC p s m args meth c code wsL_law RL 9 A g) (K : jLc l R s b n xs A) (ht : t + 7 ≤ n) (hroom : cells + 4 ≤ R.cells ∧ slots + 452 ≤ R.slots) (hI : jIW g x0 m0 out outD ws) (k : ∀ ws', jIW g x0 m0 out outD ws' → jJ p l e R s m args below meth c Q A g (va_S A s.heap) 9 (cells + 4) (slots + 452) 1506 (jLL b x0 m0 out outD t) [] ws') : jJ p l e R s m args below meth c Q A g (va_S A s.heap) 9 cells slots 804 (jLL b x0 m0 out outD t) [] ws := by
  obtain ⟨hX, hZ, hN, hS, hbl, hbA, hn, hRf, hRl, hst⟩ := K
  obtain ⟨o, od, Wc, Wr, N, pn, pf, len, row, vv, lk, th, hok, hc, hr, rfl⟩ := hI
  obtain ⟨kk, bb, rm, rm2, N1, pn1, pf1, len1, row1, vv1, lk1, hok1, ⟨f1, l1, c1, s1⟩, ⟨f2, l2, c2, s2⟩, hL, hR⟩ := op_ran (out := out) hst hok hc hr (xs (t + 1)) o
  refine j_aload_n 1 C dL_law_804 rfl rfl ?_
  refine j_aload_n 0 C dL_law_805 rfl rfl ?_
  refine j_iload 5 C dL_law_806 rfl ?_
  refine j_iconst (v := 1) C dL_law_808 rfl ?_
  refine j_iadd C dL_law_809 (nI_a1 t) ?_
  refine j_sld (x := t + 1) C hS hbl hbA dL_law_810 rfl (by omega) hn ?_
  refine j_aload_n 3 C dL_law_811 rfl rfl ?_
  refine j_oS (As := [.ref x0, .int (xs (t + 1)), .ref out]) (rest := []) (Fx := (outD, jaD g 1 od) :: Wr) (V := (out, jaL g 1 o) :: Wc) (v := .int kk) C hX hZ hN hL gL_law_L_ran rfl hdS_L_ran ⟨by omega, by omega⟩ jLp1 dL_law_812 rfl (Nat.le_of_ble_eq_true rfl) ⟨by omega, by omega⟩ rfl (fun w hw => ?_)
  obtain ⟨o1, w1, rfl, hc1, hv⟩ := hw
  refine j_istore (x := kk) (L' := [(0, .ref b), (1, .ref x0), (2, .ref m0), (3, .ref out), (4, .ref outD), (5, .int (nI t)), (6, .int kk)]) C dL_law_815 (by decide) rfl rfl ?_
  refine j_aload_n 2 C dL_law_817 rfl rfl ?_
  refine j_aload_n 0 C dL_law_818 rfl rfl ?_
  refine j_iload 5 C dL_law_819 rfl ?_
  refine j_iconst (v := 1) C dL_law_821 rfl ?_
  refine j_iadd C dL_law_822 (nI_a1 t) ?_
  refine j_sld (x := t + 1) C hS hbl hbA dL_law_823 rfl (by omega) hn ?_
  refine j_oV (As := [.int (xs (t + 1))]) (rest := []) (Fx := (outD, jaD g 1 od) :: (out, jaL g 1 o1) :: w1) (V := Wr) (v := .long bb) (Cn := RX5) C hX hZ hN hR gL_law_X5_ran rfl hd5_ran ⟨by omega, by omega⟩ jLp2 (jRW_m0 hr) (N := 11) (T := TX5) rfl dL_law_824 rfl (Nat.le_of_ble_eq_true rfl) ⟨by omega, by omega⟩ rfl (fun w2 hr1 => ?_)
  refine j_lstore (x := bb) (L' := [(0, .ref b), (1, .ref x0), (2, .ref m0), (3, .ref out), (4, .ref outD), (5, .int (nI t)), (6, .int kk), (7, .long bb)]) C dL_law_827 (by decide) rfl rfl ?_
  refine j_aload_n 2 C dL_law_829 rfl rfl ?_
  refine j_oV (As := []) (rest := []) (Fx := (outD, jaD g 1 od) :: (out, jaL g 1 o1) :: w1) (V := w2) (v := .int kk) (Cn := RX5) C hX hZ hN (op_thrown hr1) gL_law_X5_thrown rfl hd5_thrown ⟨by show 0 + 1 ≤ _; omega, by show 8 + (1 + 11) + 0 ≤ _; omega⟩ (List.Perm.refl _) (jRW_m0 hr1) (N := 11) (T := TX5) rfl dL_law_830 rfl (Nat.le_of_ble_eq_true rfl) ⟨by show cells + rm.cells + rm2.cells + 0 ≤ _; omega, by show slots + rm.slots + rm2.slots + 0 ≤ _; omega⟩ rfl (fun w3 hr3 => ?_)
  refine j_iload 6 C dL_law_833 rfl ?_
  refine j_icmp_eq (tgt := 840) C dL_law_835 rfl (fun _ => ?_) (fun h => absurd rfl h)
  refine j_iload 6 C dL_law_840 rfl ?_
  refine j_if_ne (tgt := 856) C dL_law_842 rfl (fun _ => ?_) (fun hk0 => ?_)
  · refine j_goto (tgt := 1506) C dL_law_856 rfl ?_
    refine j_pick [0, 1, 2, 3, 4, 5] rfl ?_
    refine j_widen (k := cells + 4) (n := slots + 452) (by show cells + rm.cells + rm2.cells + 0 ≤ _; omega) (by show slots + rm.slots + rm2.slots + 0 ≤ _; omega) ?_
    exact k _ ⟨o1, od, w1, w3, N1, pn1, pf1, len1, row1, vv1, lk1, kk, hok1, hc1, hr3, rfl⟩
  · skip
    refine j_aload_n 3 C dL_law_845 rfl rfl ?_
    refine j_iconst (v := 0) C dL_law_846 rfl ?_
    refine j_laldN (x := 0) 1 C dL_law_847 rfl rfl (by decide) (by decide) ?_
    refine j_lload 7 C dL_law_848 rfl ?_
    refine j_lcmp_eq (tgt := 856) C dL_law_850 dL_law_851 rfl (fun _ => ?_) (fun h => absurd (hv hk0) h)
    refine j_goto (tgt := 1506) C dL_law_856 rfl ?_
    refine j_pick [0, 1, 2, 3, 4, 5] rfl ?_
    refine j_widen (k := cells + 4) (n := slots + 452) (by show cells + rm.cells + rm2.cells + 0 ≤ _; omega) (by show slots + rm.slots + rm2.slots + 0 ≤ _; omega) ?_
    exact k _ ⟨o1, od, w1, w3, N1, pn1, pf1, len1, row1, vv1, lk1, kk, hok1, hc1, hr3, rfl⟩
theorem law_reason (C : jC p s m args meth c code wsL_law RL 9 A g) (K : jLc l R s b n xs A) (ht : t + 7 ≤ n) (hroom : cells + 4 ≤ R.cells ∧ slots + 452 ≤ R.slots) (hI : jIW g x0 m0 out outD ws) (k : ∀ ws', jIW g x0 m0 out outD ws' → jJ p l e R s m args below meth c Q A g (va_S A s.heap) 9 (cells + 4) (slots + 452) 1506 (jLL b x0 m0 out outD t) [] ws') : jJ p l e R s m args below meth c Q A g (va_S A s.heap) 9 cells slots 859 (jLL b x0 m0 out outD t) [] ws := by
  obtain ⟨hX, hZ, hN, hS, hbl, hbA, hn, hRf, hRl, hst⟩ := K
  obtain ⟨o, od, Wc, Wr, N, pn, pf, len, row, vv, lk, th, hok, hc, hr, rfl⟩ := hI
  obtain ⟨kk, bb, rm, rm2, N1, pn1, pf1, len1, row1, vv1, lk1, hok1, ⟨f1, l1, c1, s1⟩, ⟨f2, l2, c2, s2⟩, hL, hR⟩ := op_reason (out := out) hst hok hc hr (xs (t + 1)) (xs (t + 2)) (xs (t + 3)) (xs (t + 4)) o
  refine j_aload_n 1 C dL_law_859 rfl rfl ?_
  refine j_aload_n 0 C dL_law_860 rfl rfl ?_
  refine j_iload 5 C dL_law_861 rfl ?_
  refine j_iconst (v := 1) C dL_law_863 rfl ?_
  refine j_iadd C dL_law_864 (nI_a1 t) ?_
  refine j_sld (x := t + 1) C hS hbl hbA dL_law_865 rfl (by omega) hn ?_
  refine j_aload_n 0 C dL_law_866 rfl rfl ?_
  refine j_iload 5 C dL_law_867 rfl ?_
  refine j_iconst (v := 2) C dL_law_869 rfl ?_
  refine j_iadd C dL_law_870 (nI_a2 t) ?_
  refine j_sld (x := t + 2) C hS hbl hbA dL_law_871 rfl (by omega) hn ?_
  refine j_aload_n 0 C dL_law_872 rfl rfl ?_
  refine j_iload 5 C dL_law_873 rfl ?_
  refine j_iconst (v := 3) C dL_law_875 rfl ?_
  refine j_iadd C dL_law_876 (nI_a3 t) ?_
  refine j_sld (x := t + 3) C hS hbl hbA dL_law_877 rfl (by omega) hn ?_
  refine j_aload_n 0 C dL_law_878 rfl rfl ?_
  refine j_iload 5 C dL_law_879 rfl ?_
  refine j_iconst (v := 4) C dL_law_881 rfl ?_
  refine j_iadd C dL_law_882 (nI_a4 t) ?_
  refine j_sld (x := t + 4) C hS hbl hbA dL_law_883 rfl (by omega) hn ?_
  refine j_aload_n 3 C dL_law_884 rfl rfl ?_
  refine j_oS (As := [.ref x0, .int (xs (t + 1)), .int (xs (t + 2)), .int (xs (t + 3)), .int (xs (t + 4)), .ref out]) (rest := []) (Fx := (outD, jaD g 1 od) :: Wr) (V := (out, jaL g 1 o) :: Wc) (v := .int kk) C hX hZ hN hL gL_law_L_reason rfl hdS_L_reason ⟨by omega, by omega⟩ jLp1 dL_law_885 rfl (Nat.le_of_ble_eq_true rfl) ⟨by omega, by omega⟩ rfl (fun w hw => ?_)
  obtain ⟨o1, w1, rfl, hc1, hv⟩ := hw
  refine j_istore (x := kk) (L' := [(0, .ref b), (1, .ref x0), (2, .ref m0), (3, .ref out), (4, .ref outD), (5, .int (nI t)), (6, .int kk)]) C dL_law_888 (by decide) rfl rfl ?_
  refine j_aload_n 2 C dL_law_890 rfl rfl ?_
  refine j_aload_n 0 C dL_law_891 rfl rfl ?_
  refine j_iload 5 C dL_law_892 rfl ?_
  refine j_iconst (v := 1) C dL_law_894 rfl ?_
  refine j_iadd C dL_law_895 (nI_a1 t) ?_
  refine j_sld (x := t + 1) C hS hbl hbA dL_law_896 rfl (by omega) hn ?_
  refine j_aload_n 0 C dL_law_897 rfl rfl ?_
  refine j_iload 5 C dL_law_898 rfl ?_
  refine j_iconst (v := 2) C dL_law_900 rfl ?_
  refine j_iadd C dL_law_901 (nI_a2 t) ?_
  refine j_sld (x := t + 2) C hS hbl hbA dL_law_902 rfl (by omega) hn ?_
  refine j_aload_n 0 C dL_law_903 rfl rfl ?_
  refine j_iload 5 C dL_law_904 rfl ?_
  refine j_iconst (v := 3) C dL_law_906 rfl ?_
  refine j_iadd C dL_law_907 (nI_a3 t) ?_
  refine j_sld (x := t + 3) C hS hbl hbA dL_law_908 rfl (by omega) hn ?_
  refine j_aload_n 0 C dL_law_909 rfl rfl ?_
  refine j_iload 5 C dL_law_910 rfl ?_
  refine j_iconst (v := 4) C dL_law_912 rfl ?_
  refine j_iadd C dL_law_913 (nI_a4 t) ?_
  refine j_sld (x := t + 4) C hS hbl hbA dL_law_914 rfl (by omega) hn ?_
  refine j_oV (As := [.int (xs (t + 1)), .int (xs (t + 2)), .int (xs (t + 3)), .int (xs (t + 4))]) (rest := []) (Fx := (outD, jaD g 1 od) :: (out, jaL g 1 o1) :: w1) (V := Wr) (v := .int bb) (Cn := RX5) C hX hZ hN hR gL_law_X5_reason rfl hd5_reason ⟨by omega, by omega⟩ jLp2 (jRW_m0 hr) (N := 11) (T := TX5) rfl dL_law_915 rfl (Nat.le_of_ble_eq_true rfl) ⟨by omega, by omega⟩ rfl (fun w2 hr1 => ?_)
  refine j_istore (x := bb) (L' := [(0, .ref b), (1, .ref x0), (2, .ref m0), (3, .ref out), (4, .ref outD), (5, .int (nI t)), (6, .int kk), (7, .int bb)]) C dL_law_918 (by decide) rfl rfl ?_
  refine j_aload_n 2 C dL_law_920 rfl rfl ?_
  refine j_oV (As := []) (rest := []) (Fx := (outD, jaD g 1 od) :: (out, jaL g 1 o1) :: w1) (V := w2) (v := .int kk) (Cn := RX5) C hX hZ hN (op_thrown hr1) gL_law_X5_thrown rfl hd5_thrown ⟨by show 0 + 1 ≤ _; omega, by show 8 + (1 + 11) + 0 ≤ _; omega⟩ (List.Perm.refl _) (jRW_m0 hr1) (N := 11) (T := TX5) rfl dL_law_921 rfl (Nat.le_of_ble_eq_true rfl) ⟨by show cells + rm.cells + rm2.cells + 0 ≤ _; omega, by show slots + rm.slots + rm2.slots + 0 ≤ _; omega⟩ rfl (fun w3 hr3 => ?_)
  refine j_iload 6 C dL_law_924 rfl ?_
  refine j_icmp_eq (tgt := 931) C dL_law_926 rfl (fun _ => ?_) (fun h => absurd rfl h)
  refine j_iload 6 C dL_law_931 rfl ?_
  refine j_if_ne (tgt := 948) C dL_law_933 rfl (fun _ => ?_) (fun hk0 => ?_)
  · refine j_goto (tgt := 1506) C dL_law_948 rfl ?_
    refine j_pick [0, 1, 2, 3, 4, 5] rfl ?_
    refine j_widen (k := cells + 4) (n := slots + 452) (by show cells + rm.cells + rm2.cells + 0 ≤ _; omega) (by show slots + rm.slots + rm2.slots + 0 ≤ _; omega) ?_
    exact k _ ⟨o1, od, w1, w3, N1, pn1, pf1, len1, row1, vv1, lk1, kk, hok1, hc1, hr3, rfl⟩
  · skip
    refine j_aload_n 3 C dL_law_936 rfl rfl ?_
    refine j_iconst (v := 0) C dL_law_937 rfl ?_
    refine j_laldN (x := 0) 1 C dL_law_938 rfl rfl (by decide) (by decide) ?_
    refine j_iload 7 C dL_law_939 rfl ?_
    refine j_i2l C dL_law_941 rfl ?_
    refine j_lcmp_eq (tgt := 948) C dL_law_942 dL_law_943 rfl (fun _ => ?_) (fun h => absurd (hv hk0) h)
    refine j_goto (tgt := 1506) C dL_law_948 rfl ?_
    refine j_pick [0, 1, 2, 3, 4, 5] rfl ?_
    refine j_widen (k := cells + 4) (n := slots + 452) (by show cells + rm.cells + rm2.cells + 0 ≤ _; omega) (by show slots + rm.slots + rm2.slots + 0 ≤ _; omega) ?_
    exact k _ ⟨o1, od, w1, w3, N1, pn1, pf1, len1, row1, vv1, lk1, kk, hok1, hc1, hr3, rfl⟩
theorem law_change (C : jC p s m args meth c code wsL_law RL 9 A g) (K : jLc l R s b n xs A) (ht : t + 7 ≤ n) (hroom : cells + 4 ≤ R.cells ∧ slots + 452 ≤ R.slots) (hI : jIW g x0 m0 out outD ws) (k : ∀ ws', jIW g x0 m0 out outD ws' → jJ p l e R s m args below meth c Q A g (va_S A s.heap) 9 (cells + 4) (slots + 452) 1506 (jLL b x0 m0 out outD t) [] ws') : jJ p l e R s m args below meth c Q A g (va_S A s.heap) 9 cells slots 951 (jLL b x0 m0 out outD t) [] ws := by
  obtain ⟨hX, hZ, hN, hS, hbl, hbA, hn, hRf, hRl, hst⟩ := K
  obtain ⟨o, od, Wc, Wr, N, pn, pf, len, row, vv, lk, th, hok, hc, hr, rfl⟩ := hI
  obtain ⟨kk, bb, rm, rm2, N1, pn1, pf1, len1, row1, vv1, lk1, hok1, ⟨f1, l1, c1, s1⟩, ⟨f2, l2, c2, s2⟩, hL, hR⟩ := op_change (out := out) hst hok hc hr (xs (t + 1)) (xs (t + 2)) (xs (t + 3)) (xs (t + 4)) o
  refine j_aload_n 1 C dL_law_951 rfl rfl ?_
  refine j_aload_n 0 C dL_law_952 rfl rfl ?_
  refine j_iload 5 C dL_law_953 rfl ?_
  refine j_iconst (v := 1) C dL_law_955 rfl ?_
  refine j_iadd C dL_law_956 (nI_a1 t) ?_
  refine j_sld (x := t + 1) C hS hbl hbA dL_law_957 rfl (by omega) hn ?_
  refine j_aload_n 0 C dL_law_958 rfl rfl ?_
  refine j_iload 5 C dL_law_959 rfl ?_
  refine j_iconst (v := 2) C dL_law_961 rfl ?_
  refine j_iadd C dL_law_962 (nI_a2 t) ?_
  refine j_sld (x := t + 2) C hS hbl hbA dL_law_963 rfl (by omega) hn ?_
  refine j_aload_n 0 C dL_law_964 rfl rfl ?_
  refine j_iload 5 C dL_law_965 rfl ?_
  refine j_iconst (v := 3) C dL_law_967 rfl ?_
  refine j_iadd C dL_law_968 (nI_a3 t) ?_
  refine j_sld (x := t + 3) C hS hbl hbA dL_law_969 rfl (by omega) hn ?_
  refine j_aload_n 0 C dL_law_970 rfl rfl ?_
  refine j_iload 5 C dL_law_971 rfl ?_
  refine j_iconst (v := 4) C dL_law_973 rfl ?_
  refine j_iadd C dL_law_974 (nI_a4 t) ?_
  refine j_sld (x := t + 4) C hS hbl hbA dL_law_975 rfl (by omega) hn ?_
  refine j_aload_n 3 C dL_law_976 rfl rfl ?_
  refine j_oS (As := [.ref x0, .int (xs (t + 1)), .int (xs (t + 2)), .int (xs (t + 3)), .int (xs (t + 4)), .ref out]) (rest := []) (Fx := (outD, jaD g 1 od) :: Wr) (V := (out, jaL g 1 o) :: Wc) (v := .int kk) C hX hZ hN hL gL_law_L_change rfl hdS_L_change ⟨by omega, by omega⟩ jLp1 dL_law_977 rfl (Nat.le_of_ble_eq_true rfl) ⟨by omega, by omega⟩ rfl (fun w hw => ?_)
  obtain ⟨o1, w1, rfl, hc1, hv⟩ := hw
  refine j_istore (x := kk) (L' := [(0, .ref b), (1, .ref x0), (2, .ref m0), (3, .ref out), (4, .ref outD), (5, .int (nI t)), (6, .int kk)]) C dL_law_980 (by decide) rfl rfl ?_
  refine j_aload_n 2 C dL_law_982 rfl rfl ?_
  refine j_aload_n 0 C dL_law_983 rfl rfl ?_
  refine j_iload 5 C dL_law_984 rfl ?_
  refine j_iconst (v := 1) C dL_law_986 rfl ?_
  refine j_iadd C dL_law_987 (nI_a1 t) ?_
  refine j_sld (x := t + 1) C hS hbl hbA dL_law_988 rfl (by omega) hn ?_
  refine j_aload_n 0 C dL_law_989 rfl rfl ?_
  refine j_iload 5 C dL_law_990 rfl ?_
  refine j_iconst (v := 2) C dL_law_992 rfl ?_
  refine j_iadd C dL_law_993 (nI_a2 t) ?_
  refine j_sld (x := t + 2) C hS hbl hbA dL_law_994 rfl (by omega) hn ?_
  refine j_aload_n 0 C dL_law_995 rfl rfl ?_
  refine j_iload 5 C dL_law_996 rfl ?_
  refine j_iconst (v := 3) C dL_law_998 rfl ?_
  refine j_iadd C dL_law_999 (nI_a3 t) ?_
  refine j_sld (x := t + 3) C hS hbl hbA dL_law_1000 rfl (by omega) hn ?_
  refine j_aload_n 0 C dL_law_1001 rfl rfl ?_
  refine j_iload 5 C dL_law_1002 rfl ?_
  refine j_iconst (v := 4) C dL_law_1004 rfl ?_
  refine j_iadd C dL_law_1005 (nI_a4 t) ?_
  refine j_sld (x := t + 4) C hS hbl hbA dL_law_1006 rfl (by omega) hn ?_
  refine j_oV (As := [.int (xs (t + 1)), .int (xs (t + 2)), .int (xs (t + 3)), .int (xs (t + 4))]) (rest := []) (Fx := (outD, jaD g 1 od) :: (out, jaL g 1 o1) :: w1) (V := Wr) (v := .int bb) (Cn := RX5) C hX hZ hN hR gL_law_X5_change rfl hd5_change ⟨by omega, by omega⟩ jLp2 (jRW_m0 hr) (N := 11) (T := TX5) rfl dL_law_1007 rfl (Nat.le_of_ble_eq_true rfl) ⟨by omega, by omega⟩ rfl (fun w2 hr1 => ?_)
  refine j_istore (x := bb) (L' := [(0, .ref b), (1, .ref x0), (2, .ref m0), (3, .ref out), (4, .ref outD), (5, .int (nI t)), (6, .int kk), (7, .int bb)]) C dL_law_1010 (by decide) rfl rfl ?_
  refine j_aload_n 2 C dL_law_1012 rfl rfl ?_
  refine j_oV (As := []) (rest := []) (Fx := (outD, jaD g 1 od) :: (out, jaL g 1 o1) :: w1) (V := w2) (v := .int kk) (Cn := RX5) C hX hZ hN (op_thrown hr1) gL_law_X5_thrown rfl hd5_thrown ⟨by show 0 + 1 ≤ _; omega, by show 8 + (1 + 11) + 0 ≤ _; omega⟩ (List.Perm.refl _) (jRW_m0 hr1) (N := 11) (T := TX5) rfl dL_law_1013 rfl (Nat.le_of_ble_eq_true rfl) ⟨by show cells + rm.cells + rm2.cells + 0 ≤ _; omega, by show slots + rm.slots + rm2.slots + 0 ≤ _; omega⟩ rfl (fun w3 hr3 => ?_)
  refine j_iload 6 C dL_law_1016 rfl ?_
  refine j_icmp_eq (tgt := 1023) C dL_law_1018 rfl (fun _ => ?_) (fun h => absurd rfl h)
  refine j_iload 6 C dL_law_1023 rfl ?_
  refine j_if_ne (tgt := 1040) C dL_law_1025 rfl (fun _ => ?_) (fun hk0 => ?_)
  · refine j_goto (tgt := 1506) C dL_law_1040 rfl ?_
    refine j_pick [0, 1, 2, 3, 4, 5] rfl ?_
    refine j_widen (k := cells + 4) (n := slots + 452) (by show cells + rm.cells + rm2.cells + 0 ≤ _; omega) (by show slots + rm.slots + rm2.slots + 0 ≤ _; omega) ?_
    exact k _ ⟨o1, od, w1, w3, N1, pn1, pf1, len1, row1, vv1, lk1, kk, hok1, hc1, hr3, rfl⟩
  · skip
    refine j_aload_n 3 C dL_law_1028 rfl rfl ?_
    refine j_iconst (v := 0) C dL_law_1029 rfl ?_
    refine j_laldN (x := 0) 1 C dL_law_1030 rfl rfl (by decide) (by decide) ?_
    refine j_iload 7 C dL_law_1031 rfl ?_
    refine j_i2l C dL_law_1033 rfl ?_
    refine j_lcmp_eq (tgt := 1040) C dL_law_1034 dL_law_1035 rfl (fun _ => ?_) (fun h => absurd (hv hk0) h)
    refine j_goto (tgt := 1506) C dL_law_1040 rfl ?_
    refine j_pick [0, 1, 2, 3, 4, 5] rfl ?_
    refine j_widen (k := cells + 4) (n := slots + 452) (by show cells + rm.cells + rm2.cells + 0 ≤ _; omega) (by show slots + rm.slots + rm2.slots + 0 ≤ _; omega) ?_
    exact k _ ⟨o1, od, w1, w3, N1, pn1, pf1, len1, row1, vv1, lk1, kk, hok1, hc1, hr3, rfl⟩
theorem law_joinAll (C : jC p s m args meth c code wsL_law RL 9 A g) (K : jLc l R s b n xs A) (ht : t + 7 ≤ n) (hroom : cells + 4 ≤ R.cells ∧ slots + 452 ≤ R.slots) (hI : jIW g x0 m0 out outD ws) (k : ∀ ws', jIW g x0 m0 out outD ws' → jJ p l e R s m args below meth c Q A g (va_S A s.heap) 9 (cells + 4) (slots + 452) 1506 (jLL b x0 m0 out outD t) [] ws') : jJ p l e R s m args below meth c Q A g (va_S A s.heap) 9 cells slots 1043 (jLL b x0 m0 out outD t) [] ws := by
  obtain ⟨hX, hZ, hN, hS, hbl, hbA, hn, hRf, hRl, hst⟩ := K
  obtain ⟨o, od, Wc, Wr, N, pn, pf, len, row, vv, lk, th, hok, hc, hr, rfl⟩ := hI
  obtain ⟨kk, bb, rm, rm2, N1, pn1, pf1, len1, row1, vv1, lk1, hok1, ⟨f1, l1, c1, s1⟩, ⟨f2, l2, c2, s2⟩, hL, hR⟩ := op_joinAll (out := out) hst hok hc hr (xs (t + 1)) o
  refine j_aload_n 1 C dL_law_1043 rfl rfl ?_
  refine j_aload_n 0 C dL_law_1044 rfl rfl ?_
  refine j_iload 5 C dL_law_1045 rfl ?_
  refine j_iconst (v := 1) C dL_law_1047 rfl ?_
  refine j_iadd C dL_law_1048 (nI_a1 t) ?_
  refine j_sld (x := t + 1) C hS hbl hbA dL_law_1049 rfl (by omega) hn ?_
  refine j_aload_n 3 C dL_law_1050 rfl rfl ?_
  refine j_oS (As := [.ref x0, .int (xs (t + 1)), .ref out]) (rest := []) (Fx := (outD, jaD g 1 od) :: Wr) (V := (out, jaL g 1 o) :: Wc) (v := .int kk) C hX hZ hN hL gL_law_L_joinAll rfl hdS_L_joinAll ⟨by omega, by omega⟩ jLp1 dL_law_1051 rfl (Nat.le_of_ble_eq_true rfl) ⟨by omega, by omega⟩ rfl (fun w hw => ?_)
  obtain ⟨o1, w1, rfl, hc1, hv⟩ := hw
  refine j_istore (x := kk) (L' := [(0, .ref b), (1, .ref x0), (2, .ref m0), (3, .ref out), (4, .ref outD), (5, .int (nI t)), (6, .int kk)]) C dL_law_1054 (by decide) rfl rfl ?_
  refine j_aload_n 2 C dL_law_1056 rfl rfl ?_
  refine j_aload_n 0 C dL_law_1057 rfl rfl ?_
  refine j_iload 5 C dL_law_1058 rfl ?_
  refine j_iconst (v := 1) C dL_law_1060 rfl ?_
  refine j_iadd C dL_law_1061 (nI_a1 t) ?_
  refine j_sld (x := t + 1) C hS hbl hbA dL_law_1062 rfl (by omega) hn ?_
  refine j_oV (As := [.int (xs (t + 1))]) (rest := []) (Fx := (outD, jaD g 1 od) :: (out, jaL g 1 o1) :: w1) (V := Wr) (v := .int bb) (Cn := RX5) C hX hZ hN hR gL_law_X5_joinAll rfl hd5_joinAll ⟨by omega, by omega⟩ jLp2 (jRW_m0 hr) (N := 11) (T := TX5) rfl dL_law_1063 rfl (Nat.le_of_ble_eq_true rfl) ⟨by omega, by omega⟩ rfl (fun w2 hr1 => ?_)
  refine j_istore (x := bb) (L' := [(0, .ref b), (1, .ref x0), (2, .ref m0), (3, .ref out), (4, .ref outD), (5, .int (nI t)), (6, .int kk), (7, .int bb)]) C dL_law_1066 (by decide) rfl rfl ?_
  refine j_aload_n 2 C dL_law_1068 rfl rfl ?_
  refine j_oV (As := []) (rest := []) (Fx := (outD, jaD g 1 od) :: (out, jaL g 1 o1) :: w1) (V := w2) (v := .int kk) (Cn := RX5) C hX hZ hN (op_thrown hr1) gL_law_X5_thrown rfl hd5_thrown ⟨by show 0 + 1 ≤ _; omega, by show 8 + (1 + 11) + 0 ≤ _; omega⟩ (List.Perm.refl _) (jRW_m0 hr1) (N := 11) (T := TX5) rfl dL_law_1069 rfl (Nat.le_of_ble_eq_true rfl) ⟨by show cells + rm.cells + rm2.cells + 0 ≤ _; omega, by show slots + rm.slots + rm2.slots + 0 ≤ _; omega⟩ rfl (fun w3 hr3 => ?_)
  refine j_iload 6 C dL_law_1072 rfl ?_
  refine j_icmp_eq (tgt := 1079) C dL_law_1074 rfl (fun _ => ?_) (fun h => absurd rfl h)
  refine j_iload 6 C dL_law_1079 rfl ?_
  refine j_if_ne (tgt := 1096) C dL_law_1081 rfl (fun _ => ?_) (fun hk0 => ?_)
  · refine j_goto (tgt := 1506) C dL_law_1096 rfl ?_
    refine j_pick [0, 1, 2, 3, 4, 5] rfl ?_
    refine j_widen (k := cells + 4) (n := slots + 452) (by show cells + rm.cells + rm2.cells + 0 ≤ _; omega) (by show slots + rm.slots + rm2.slots + 0 ≤ _; omega) ?_
    exact k _ ⟨o1, od, w1, w3, N1, pn1, pf1, len1, row1, vv1, lk1, kk, hok1, hc1, hr3, rfl⟩
  · skip
    refine j_aload_n 3 C dL_law_1084 rfl rfl ?_
    refine j_iconst (v := 0) C dL_law_1085 rfl ?_
    refine j_laldN (x := 0) 1 C dL_law_1086 rfl rfl (by decide) (by decide) ?_
    refine j_iload 7 C dL_law_1087 rfl ?_
    refine j_i2l C dL_law_1089 rfl ?_
    refine j_lcmp_eq (tgt := 1096) C dL_law_1090 dL_law_1091 rfl (fun _ => ?_) (fun h => absurd (hv hk0) h)
    refine j_goto (tgt := 1506) C dL_law_1096 rfl ?_
    refine j_pick [0, 1, 2, 3, 4, 5] rfl ?_
    refine j_widen (k := cells + 4) (n := slots + 452) (by show cells + rm.cells + rm2.cells + 0 ≤ _; omega) (by show slots + rm.slots + rm2.slots + 0 ≤ _; omega) ?_
    exact k _ ⟨o1, od, w1, w3, N1, pn1, pf1, len1, row1, vv1, lk1, kk, hok1, hc1, hr3, rfl⟩
theorem law_differ (C : jC p s m args meth c code wsL_law RL 9 A g) (K : jLc l R s b n xs A) (ht : t + 7 ≤ n) (hroom : cells + 4 ≤ R.cells ∧ slots + 452 ≤ R.slots) (hI : jIW g x0 m0 out outD ws) (k : ∀ ws', jIW g x0 m0 out outD ws' → jJ p l e R s m args below meth c Q A g (va_S A s.heap) 9 (cells + 4) (slots + 452) 1506 (jLL b x0 m0 out outD t) [] ws') : jJ p l e R s m args below meth c Q A g (va_S A s.heap) 9 cells slots 1099 (jLL b x0 m0 out outD t) [] ws := by
  obtain ⟨hX, hZ, hN, hS, hbl, hbA, hn, hRf, hRl, hst⟩ := K
  obtain ⟨o, od, Wc, Wr, N, pn, pf, len, row, vv, lk, th, hok, hc, hr, rfl⟩ := hI
  obtain ⟨kk, bb, rm, rm2, N1, pn1, pf1, len1, row1, vv1, lk1, hok1, ⟨f1, l1, c1, s1⟩, ⟨f2, l2, c2, s2⟩, hL, hR⟩ := op_differ (out := out) hst hok hc hr (xs (t + 1)) (xs (t + 2)) (xs (t + 3)) (xs (t + 4)) o
  refine j_aload_n 1 C dL_law_1099 rfl rfl ?_
  refine j_aload_n 0 C dL_law_1100 rfl rfl ?_
  refine j_iload 5 C dL_law_1101 rfl ?_
  refine j_iconst (v := 1) C dL_law_1103 rfl ?_
  refine j_iadd C dL_law_1104 (nI_a1 t) ?_
  refine j_sld (x := t + 1) C hS hbl hbA dL_law_1105 rfl (by omega) hn ?_
  refine j_aload_n 0 C dL_law_1106 rfl rfl ?_
  refine j_iload 5 C dL_law_1107 rfl ?_
  refine j_iconst (v := 2) C dL_law_1109 rfl ?_
  refine j_iadd C dL_law_1110 (nI_a2 t) ?_
  refine j_sld (x := t + 2) C hS hbl hbA dL_law_1111 rfl (by omega) hn ?_
  refine j_aload_n 0 C dL_law_1112 rfl rfl ?_
  refine j_iload 5 C dL_law_1113 rfl ?_
  refine j_iconst (v := 3) C dL_law_1115 rfl ?_
  refine j_iadd C dL_law_1116 (nI_a3 t) ?_
  refine j_sld (x := t + 3) C hS hbl hbA dL_law_1117 rfl (by omega) hn ?_
  refine j_aload_n 0 C dL_law_1118 rfl rfl ?_
  refine j_iload 5 C dL_law_1119 rfl ?_
  refine j_iconst (v := 4) C dL_law_1121 rfl ?_
  refine j_iadd C dL_law_1122 (nI_a4 t) ?_
  refine j_sld (x := t + 4) C hS hbl hbA dL_law_1123 rfl (by omega) hn ?_
  refine j_aload_n 3 C dL_law_1124 rfl rfl ?_
  refine j_oS (As := [.ref x0, .int (xs (t + 1)), .int (xs (t + 2)), .int (xs (t + 3)), .int (xs (t + 4)), .ref out]) (rest := []) (Fx := (outD, jaD g 1 od) :: Wr) (V := (out, jaL g 1 o) :: Wc) (v := .int kk) C hX hZ hN hL gL_law_L_differ rfl hdS_L_differ ⟨by omega, by omega⟩ jLp1 dL_law_1125 rfl (Nat.le_of_ble_eq_true rfl) ⟨by omega, by omega⟩ rfl (fun w hw => ?_)
  obtain ⟨o1, w1, rfl, hc1, hv⟩ := hw
  refine j_istore (x := kk) (L' := [(0, .ref b), (1, .ref x0), (2, .ref m0), (3, .ref out), (4, .ref outD), (5, .int (nI t)), (6, .int kk)]) C dL_law_1128 (by decide) rfl rfl ?_
  refine j_aload_n 2 C dL_law_1130 rfl rfl ?_
  refine j_aload_n 0 C dL_law_1131 rfl rfl ?_
  refine j_iload 5 C dL_law_1132 rfl ?_
  refine j_iconst (v := 1) C dL_law_1134 rfl ?_
  refine j_iadd C dL_law_1135 (nI_a1 t) ?_
  refine j_sld (x := t + 1) C hS hbl hbA dL_law_1136 rfl (by omega) hn ?_
  refine j_aload_n 0 C dL_law_1137 rfl rfl ?_
  refine j_iload 5 C dL_law_1138 rfl ?_
  refine j_iconst (v := 2) C dL_law_1140 rfl ?_
  refine j_iadd C dL_law_1141 (nI_a2 t) ?_
  refine j_sld (x := t + 2) C hS hbl hbA dL_law_1142 rfl (by omega) hn ?_
  refine j_aload_n 0 C dL_law_1143 rfl rfl ?_
  refine j_iload 5 C dL_law_1144 rfl ?_
  refine j_iconst (v := 3) C dL_law_1146 rfl ?_
  refine j_iadd C dL_law_1147 (nI_a3 t) ?_
  refine j_sld (x := t + 3) C hS hbl hbA dL_law_1148 rfl (by omega) hn ?_
  refine j_aload_n 0 C dL_law_1149 rfl rfl ?_
  refine j_iload 5 C dL_law_1150 rfl ?_
  refine j_iconst (v := 4) C dL_law_1152 rfl ?_
  refine j_iadd C dL_law_1153 (nI_a4 t) ?_
  refine j_sld (x := t + 4) C hS hbl hbA dL_law_1154 rfl (by omega) hn ?_
  refine j_oV (As := [.int (xs (t + 1)), .int (xs (t + 2)), .int (xs (t + 3)), .int (xs (t + 4))]) (rest := []) (Fx := (outD, jaD g 1 od) :: (out, jaL g 1 o1) :: w1) (V := Wr) (v := .int bb) (Cn := RX5) C hX hZ hN hR gL_law_X5_differ rfl hd5_differ ⟨by omega, by omega⟩ jLp2 (jRW_m0 hr) (N := 11) (T := TX5) rfl dL_law_1155 rfl (Nat.le_of_ble_eq_true rfl) ⟨by omega, by omega⟩ rfl (fun w2 hr1 => ?_)
  refine j_istore (x := bb) (L' := [(0, .ref b), (1, .ref x0), (2, .ref m0), (3, .ref out), (4, .ref outD), (5, .int (nI t)), (6, .int kk), (7, .int bb)]) C dL_law_1158 (by decide) rfl rfl ?_
  refine j_aload_n 2 C dL_law_1160 rfl rfl ?_
  refine j_oV (As := []) (rest := []) (Fx := (outD, jaD g 1 od) :: (out, jaL g 1 o1) :: w1) (V := w2) (v := .int kk) (Cn := RX5) C hX hZ hN (op_thrown hr1) gL_law_X5_thrown rfl hd5_thrown ⟨by show 0 + 1 ≤ _; omega, by show 8 + (1 + 11) + 0 ≤ _; omega⟩ (List.Perm.refl _) (jRW_m0 hr1) (N := 11) (T := TX5) rfl dL_law_1161 rfl (Nat.le_of_ble_eq_true rfl) ⟨by show cells + rm.cells + rm2.cells + 0 ≤ _; omega, by show slots + rm.slots + rm2.slots + 0 ≤ _; omega⟩ rfl (fun w3 hr3 => ?_)
  refine j_iload 6 C dL_law_1164 rfl ?_
  refine j_icmp_eq (tgt := 1171) C dL_law_1166 rfl (fun _ => ?_) (fun h => absurd rfl h)
  refine j_iload 6 C dL_law_1171 rfl ?_
  refine j_if_ne (tgt := 1188) C dL_law_1173 rfl (fun _ => ?_) (fun hk0 => ?_)
  · refine j_goto (tgt := 1506) C dL_law_1188 rfl ?_
    refine j_pick [0, 1, 2, 3, 4, 5] rfl ?_
    refine j_widen (k := cells + 4) (n := slots + 452) (by show cells + rm.cells + rm2.cells + 0 ≤ _; omega) (by show slots + rm.slots + rm2.slots + 0 ≤ _; omega) ?_
    exact k _ ⟨o1, od, w1, w3, N1, pn1, pf1, len1, row1, vv1, lk1, kk, hok1, hc1, hr3, rfl⟩
  · skip
    refine j_aload_n 3 C dL_law_1176 rfl rfl ?_
    refine j_iconst (v := 0) C dL_law_1177 rfl ?_
    refine j_laldN (x := 0) 1 C dL_law_1178 rfl rfl (by decide) (by decide) ?_
    refine j_iload 7 C dL_law_1179 rfl ?_
    refine j_i2l C dL_law_1181 rfl ?_
    refine j_lcmp_eq (tgt := 1188) C dL_law_1182 dL_law_1183 rfl (fun _ => ?_) (fun h => absurd (hv hk0) h)
    refine j_goto (tgt := 1506) C dL_law_1188 rfl ?_
    refine j_pick [0, 1, 2, 3, 4, 5] rfl ?_
    refine j_widen (k := cells + 4) (n := slots + 452) (by show cells + rm.cells + rm2.cells + 0 ≤ _; omega) (by show slots + rm.slots + rm2.slots + 0 ≤ _; omega) ?_
    exact k _ ⟨o1, od, w1, w3, N1, pn1, pf1, len1, row1, vv1, lk1, kk, hok1, hc1, hr3, rfl⟩
theorem law_firstCase (C : jC p s m args meth c code wsL_law RL 9 A g) (K : jLc l R s b n xs A) (ht : t + 7 ≤ n) (hroom : cells + 4 ≤ R.cells ∧ slots + 452 ≤ R.slots) (hI : jIW g x0 m0 out outD ws) (k : ∀ ws', jIW g x0 m0 out outD ws' → jJ p l e R s m args below meth c Q A g (va_S A s.heap) 9 (cells + 4) (slots + 452) 1506 (jLL b x0 m0 out outD t) [] ws') : jJ p l e R s m args below meth c Q A g (va_S A s.heap) 9 cells slots 1191 (jLL b x0 m0 out outD t) [] ws := by
  obtain ⟨hX, hZ, hN, hS, hbl, hbA, hn, hRf, hRl, hst⟩ := K
  obtain ⟨o, od, Wc, Wr, N, pn, pf, len, row, vv, lk, th, hok, hc, hr, rfl⟩ := hI
  obtain ⟨kk, bb, rm, rm2, N1, pn1, pf1, len1, row1, vv1, lk1, hok1, ⟨f1, l1, c1, s1⟩, ⟨f2, l2, c2, s2⟩, hL, hR⟩ := op_firstCase (out := out) hst hok hc hr (xs (t + 1)) (xs (t + 2)) (xs (t + 3)) (xs (t + 4)) o
  refine j_aload_n 1 C dL_law_1191 rfl rfl ?_
  refine j_aload_n 0 C dL_law_1192 rfl rfl ?_
  refine j_iload 5 C dL_law_1193 rfl ?_
  refine j_iconst (v := 1) C dL_law_1195 rfl ?_
  refine j_iadd C dL_law_1196 (nI_a1 t) ?_
  refine j_sld (x := t + 1) C hS hbl hbA dL_law_1197 rfl (by omega) hn ?_
  refine j_aload_n 0 C dL_law_1198 rfl rfl ?_
  refine j_iload 5 C dL_law_1199 rfl ?_
  refine j_iconst (v := 2) C dL_law_1201 rfl ?_
  refine j_iadd C dL_law_1202 (nI_a2 t) ?_
  refine j_sld (x := t + 2) C hS hbl hbA dL_law_1203 rfl (by omega) hn ?_
  refine j_aload_n 0 C dL_law_1204 rfl rfl ?_
  refine j_iload 5 C dL_law_1205 rfl ?_
  refine j_iconst (v := 3) C dL_law_1207 rfl ?_
  refine j_iadd C dL_law_1208 (nI_a3 t) ?_
  refine j_sld (x := t + 3) C hS hbl hbA dL_law_1209 rfl (by omega) hn ?_
  refine j_aload_n 0 C dL_law_1210 rfl rfl ?_
  refine j_iload 5 C dL_law_1211 rfl ?_
  refine j_iconst (v := 4) C dL_law_1213 rfl ?_
  refine j_iadd C dL_law_1214 (nI_a4 t) ?_
  refine j_sld (x := t + 4) C hS hbl hbA dL_law_1215 rfl (by omega) hn ?_
  refine j_aload_n 3 C dL_law_1216 rfl rfl ?_
  refine j_oS (As := [.ref x0, .int (xs (t + 1)), .int (xs (t + 2)), .int (xs (t + 3)), .int (xs (t + 4)), .ref out]) (rest := []) (Fx := (outD, jaD g 1 od) :: Wr) (V := (out, jaL g 1 o) :: Wc) (v := .int kk) C hX hZ hN hL gL_law_L_firstCase rfl hdS_L_firstCase ⟨by omega, by omega⟩ jLp1 dL_law_1217 rfl (Nat.le_of_ble_eq_true rfl) ⟨by omega, by omega⟩ rfl (fun w hw => ?_)
  obtain ⟨o1, w1, rfl, hc1, hv⟩ := hw
  refine j_istore (x := kk) (L' := [(0, .ref b), (1, .ref x0), (2, .ref m0), (3, .ref out), (4, .ref outD), (5, .int (nI t)), (6, .int kk)]) C dL_law_1220 (by decide) rfl rfl ?_
  refine j_aload_n 2 C dL_law_1222 rfl rfl ?_
  refine j_aload_n 0 C dL_law_1223 rfl rfl ?_
  refine j_iload 5 C dL_law_1224 rfl ?_
  refine j_iconst (v := 1) C dL_law_1226 rfl ?_
  refine j_iadd C dL_law_1227 (nI_a1 t) ?_
  refine j_sld (x := t + 1) C hS hbl hbA dL_law_1228 rfl (by omega) hn ?_
  refine j_aload_n 0 C dL_law_1229 rfl rfl ?_
  refine j_iload 5 C dL_law_1230 rfl ?_
  refine j_iconst (v := 2) C dL_law_1232 rfl ?_
  refine j_iadd C dL_law_1233 (nI_a2 t) ?_
  refine j_sld (x := t + 2) C hS hbl hbA dL_law_1234 rfl (by omega) hn ?_
  refine j_aload_n 0 C dL_law_1235 rfl rfl ?_
  refine j_iload 5 C dL_law_1236 rfl ?_
  refine j_iconst (v := 3) C dL_law_1238 rfl ?_
  refine j_iadd C dL_law_1239 (nI_a3 t) ?_
  refine j_sld (x := t + 3) C hS hbl hbA dL_law_1240 rfl (by omega) hn ?_
  refine j_aload_n 0 C dL_law_1241 rfl rfl ?_
  refine j_iload 5 C dL_law_1242 rfl ?_
  refine j_iconst (v := 4) C dL_law_1244 rfl ?_
  refine j_iadd C dL_law_1245 (nI_a4 t) ?_
  refine j_sld (x := t + 4) C hS hbl hbA dL_law_1246 rfl (by omega) hn ?_
  refine j_oV (As := [.int (xs (t + 1)), .int (xs (t + 2)), .int (xs (t + 3)), .int (xs (t + 4))]) (rest := []) (Fx := (outD, jaD g 1 od) :: (out, jaL g 1 o1) :: w1) (V := Wr) (v := .int bb) (Cn := RX5) C hX hZ hN hR gL_law_X5_firstCase rfl hd5_firstCase ⟨by omega, by omega⟩ jLp2 (jRW_m0 hr) (N := 11) (T := TX5) rfl dL_law_1247 rfl (Nat.le_of_ble_eq_true rfl) ⟨by omega, by omega⟩ rfl (fun w2 hr1 => ?_)
  refine j_istore (x := bb) (L' := [(0, .ref b), (1, .ref x0), (2, .ref m0), (3, .ref out), (4, .ref outD), (5, .int (nI t)), (6, .int kk), (7, .int bb)]) C dL_law_1250 (by decide) rfl rfl ?_
  refine j_aload_n 2 C dL_law_1252 rfl rfl ?_
  refine j_oV (As := []) (rest := []) (Fx := (outD, jaD g 1 od) :: (out, jaL g 1 o1) :: w1) (V := w2) (v := .int kk) (Cn := RX5) C hX hZ hN (op_thrown hr1) gL_law_X5_thrown rfl hd5_thrown ⟨by show 0 + 1 ≤ _; omega, by show 8 + (1 + 11) + 0 ≤ _; omega⟩ (List.Perm.refl _) (jRW_m0 hr1) (N := 11) (T := TX5) rfl dL_law_1253 rfl (Nat.le_of_ble_eq_true rfl) ⟨by show cells + rm.cells + rm2.cells + 0 ≤ _; omega, by show slots + rm.slots + rm2.slots + 0 ≤ _; omega⟩ rfl (fun w3 hr3 => ?_)
  refine j_iload 6 C dL_law_1256 rfl ?_
  refine j_icmp_eq (tgt := 1263) C dL_law_1258 rfl (fun _ => ?_) (fun h => absurd rfl h)
  refine j_iload 6 C dL_law_1263 rfl ?_
  refine j_if_ne (tgt := 1280) C dL_law_1265 rfl (fun _ => ?_) (fun hk0 => ?_)
  · refine j_goto (tgt := 1506) C dL_law_1280 rfl ?_
    refine j_pick [0, 1, 2, 3, 4, 5] rfl ?_
    refine j_widen (k := cells + 4) (n := slots + 452) (by show cells + rm.cells + rm2.cells + 0 ≤ _; omega) (by show slots + rm.slots + rm2.slots + 0 ≤ _; omega) ?_
    exact k _ ⟨o1, od, w1, w3, N1, pn1, pf1, len1, row1, vv1, lk1, kk, hok1, hc1, hr3, rfl⟩
  · skip
    refine j_aload_n 3 C dL_law_1268 rfl rfl ?_
    refine j_iconst (v := 0) C dL_law_1269 rfl ?_
    refine j_laldN (x := 0) 1 C dL_law_1270 rfl rfl (by decide) (by decide) ?_
    refine j_iload 7 C dL_law_1271 rfl ?_
    refine j_i2l C dL_law_1273 rfl ?_
    refine j_lcmp_eq (tgt := 1280) C dL_law_1274 dL_law_1275 rfl (fun _ => ?_) (fun h => absurd (hv hk0) h)
    refine j_goto (tgt := 1506) C dL_law_1280 rfl ?_
    refine j_pick [0, 1, 2, 3, 4, 5] rfl ?_
    refine j_widen (k := cells + 4) (n := slots + 452) (by show cells + rm.cells + rm2.cells + 0 ≤ _; omega) (by show slots + rm.slots + rm2.slots + 0 ≤ _; omega) ?_
    exact k _ ⟨o1, od, w1, w3, N1, pn1, pf1, len1, row1, vv1, lk1, kk, hok1, hc1, hr3, rfl⟩
theorem law_cost (C : jC p s m args meth c code wsL_law RL 9 A g) (K : jLc l R s b n xs A) (ht : t + 7 ≤ n) (hroom : cells + 4 ≤ R.cells ∧ slots + 452 ≤ R.slots) (hI : jIW g x0 m0 out outD ws) (k : ∀ ws', jIW g x0 m0 out outD ws' → jJ p l e R s m args below meth c Q A g (va_S A s.heap) 9 (cells + 4) (slots + 452) 1506 (jLL b x0 m0 out outD t) [] ws') : jJ p l e R s m args below meth c Q A g (va_S A s.heap) 9 cells slots 1283 (jLL b x0 m0 out outD t) [] ws := by
  obtain ⟨hX, hZ, hN, hS, hbl, hbA, hn, hRf, hRl, hst⟩ := K
  obtain ⟨o, od, Wc, Wr, N, pn, pf, len, row, vv, lk, th, hok, hc, hr, rfl⟩ := hI
  obtain ⟨kk, bb, rm, rm2, N1, pn1, pf1, len1, row1, vv1, lk1, hok1, ⟨f1, l1, c1, s1⟩, ⟨f2, l2, c2, s2⟩, hL, hR⟩ := op_cost (out := out) hst hok hc hr (xs (t + 1)) (xs (t + 2)) (xs (t + 3)) (!decide (xs (t + 4) = 0)) o
  refine j_aload_n 1 C dL_law_1283 rfl rfl ?_
  refine j_aload_n 0 C dL_law_1284 rfl rfl ?_
  refine j_iload 5 C dL_law_1285 rfl ?_
  refine j_iconst (v := 1) C dL_law_1287 rfl ?_
  refine j_iadd C dL_law_1288 (nI_a1 t) ?_
  refine j_sld (x := t + 1) C hS hbl hbA dL_law_1289 rfl (by omega) hn ?_
  refine j_aload_n 0 C dL_law_1290 rfl rfl ?_
  refine j_iload 5 C dL_law_1291 rfl ?_
  refine j_iconst (v := 2) C dL_law_1293 rfl ?_
  refine j_iadd C dL_law_1294 (nI_a2 t) ?_
  refine j_sld (x := t + 2) C hS hbl hbA dL_law_1295 rfl (by omega) hn ?_
  refine j_aload_n 0 C dL_law_1296 rfl rfl ?_
  refine j_iload 5 C dL_law_1297 rfl ?_
  refine j_iconst (v := 3) C dL_law_1299 rfl ?_
  refine j_iadd C dL_law_1300 (nI_a3 t) ?_
  refine j_sld (x := t + 3) C hS hbl hbA dL_law_1301 rfl (by omega) hn ?_
  refine j_aload_n 0 C dL_law_1302 rfl rfl ?_
  refine j_iload 5 C dL_law_1303 rfl ?_
  refine j_iconst (v := 4) C dL_law_1305 rfl ?_
  refine j_iadd C dL_law_1306 (nI_a4 t) ?_
  refine j_sld (x := t + 4) C hS hbl hbA dL_law_1307 rfl (by omega) hn ?_
  refine j_bool C dL_law_1308 dL_law_1311 dL_law_1312 dL_law_1315 ?_
  refine j_aload_n 3 C dL_law_1316 rfl rfl ?_
  refine j_oS (As := [.ref x0, .int (xs (t + 1)), .int (xs (t + 2)), .int (xs (t + 3)), .int (jb (!decide (xs (t + 4) = 0))), .ref out]) (rest := []) (Fx := (outD, jaD g 1 od) :: Wr) (V := (out, jaL g 1 o) :: Wc) (v := .int kk) C hX hZ hN hL gL_law_L_cost rfl hdS_L_cost ⟨by omega, by omega⟩ jLp1 dL_law_1317 rfl (Nat.le_of_ble_eq_true rfl) ⟨by omega, by omega⟩ rfl (fun w hw => ?_)
  obtain ⟨o1, w1, rfl, hc1, hv⟩ := hw
  refine j_istore (x := kk) (L' := [(0, .ref b), (1, .ref x0), (2, .ref m0), (3, .ref out), (4, .ref outD), (5, .int (nI t)), (6, .int kk)]) C dL_law_1320 (by decide) rfl rfl ?_
  refine j_aload_n 2 C dL_law_1322 rfl rfl ?_
  refine j_aload_n 0 C dL_law_1323 rfl rfl ?_
  refine j_iload 5 C dL_law_1324 rfl ?_
  refine j_iconst (v := 1) C dL_law_1326 rfl ?_
  refine j_iadd C dL_law_1327 (nI_a1 t) ?_
  refine j_sld (x := t + 1) C hS hbl hbA dL_law_1328 rfl (by omega) hn ?_
  refine j_aload_n 0 C dL_law_1329 rfl rfl ?_
  refine j_iload 5 C dL_law_1330 rfl ?_
  refine j_iconst (v := 2) C dL_law_1332 rfl ?_
  refine j_iadd C dL_law_1333 (nI_a2 t) ?_
  refine j_sld (x := t + 2) C hS hbl hbA dL_law_1334 rfl (by omega) hn ?_
  refine j_aload_n 0 C dL_law_1335 rfl rfl ?_
  refine j_iload 5 C dL_law_1336 rfl ?_
  refine j_iconst (v := 3) C dL_law_1338 rfl ?_
  refine j_iadd C dL_law_1339 (nI_a3 t) ?_
  refine j_sld (x := t + 3) C hS hbl hbA dL_law_1340 rfl (by omega) hn ?_
  refine j_aload_n 0 C dL_law_1341 rfl rfl ?_
  refine j_iload 5 C dL_law_1342 rfl ?_
  refine j_iconst (v := 4) C dL_law_1344 rfl ?_
  refine j_iadd C dL_law_1345 (nI_a4 t) ?_
  refine j_sld (x := t + 4) C hS hbl hbA dL_law_1346 rfl (by omega) hn ?_
  refine j_bool C dL_law_1347 dL_law_1350 dL_law_1351 dL_law_1354 ?_
  refine j_oV (As := [.int (xs (t + 1)), .int (xs (t + 2)), .int (xs (t + 3)), .int (jb (!decide (xs (t + 4) = 0)))]) (rest := []) (Fx := (outD, jaD g 1 od) :: (out, jaL g 1 o1) :: w1) (V := Wr) (v := .int bb) (Cn := RX5) C hX hZ hN hR gL_law_X5_cost rfl hd5_cost ⟨by omega, by omega⟩ jLp2 (jRW_m0 hr) (N := 11) (T := TX5) rfl dL_law_1355 rfl (Nat.le_of_ble_eq_true rfl) ⟨by omega, by omega⟩ rfl (fun w2 hr1 => ?_)
  refine j_istore (x := bb) (L' := [(0, .ref b), (1, .ref x0), (2, .ref m0), (3, .ref out), (4, .ref outD), (5, .int (nI t)), (6, .int kk), (7, .int bb)]) C dL_law_1358 (by decide) rfl rfl ?_
  refine j_aload_n 2 C dL_law_1360 rfl rfl ?_
  refine j_oV (As := []) (rest := []) (Fx := (outD, jaD g 1 od) :: (out, jaL g 1 o1) :: w1) (V := w2) (v := .int kk) (Cn := RX5) C hX hZ hN (op_thrown hr1) gL_law_X5_thrown rfl hd5_thrown ⟨by show 0 + 1 ≤ _; omega, by show 8 + (1 + 11) + 0 ≤ _; omega⟩ (List.Perm.refl _) (jRW_m0 hr1) (N := 11) (T := TX5) rfl dL_law_1361 rfl (Nat.le_of_ble_eq_true rfl) ⟨by show cells + rm.cells + rm2.cells + 0 ≤ _; omega, by show slots + rm.slots + rm2.slots + 0 ≤ _; omega⟩ rfl (fun w3 hr3 => ?_)
  refine j_iload 6 C dL_law_1364 rfl ?_
  refine j_icmp_eq (tgt := 1371) C dL_law_1366 rfl (fun _ => ?_) (fun h => absurd rfl h)
  refine j_iload 6 C dL_law_1371 rfl ?_
  refine j_if_ne (tgt := 1388) C dL_law_1373 rfl (fun _ => ?_) (fun hk0 => ?_)
  · refine j_goto (tgt := 1506) C dL_law_1388 rfl ?_
    refine j_pick [0, 1, 2, 3, 4, 5] rfl ?_
    refine j_widen (k := cells + 4) (n := slots + 452) (by show cells + rm.cells + rm2.cells + 0 ≤ _; omega) (by show slots + rm.slots + rm2.slots + 0 ≤ _; omega) ?_
    exact k _ ⟨o1, od, w1, w3, N1, pn1, pf1, len1, row1, vv1, lk1, kk, hok1, hc1, hr3, rfl⟩
  · skip
    refine j_aload_n 3 C dL_law_1376 rfl rfl ?_
    refine j_iconst (v := 0) C dL_law_1377 rfl ?_
    refine j_laldN (x := 0) 1 C dL_law_1378 rfl rfl (by decide) (by decide) ?_
    refine j_iload 7 C dL_law_1379 rfl ?_
    refine j_i2l C dL_law_1381 rfl ?_
    refine j_lcmp_eq (tgt := 1388) C dL_law_1382 dL_law_1383 rfl (fun _ => ?_) (fun h => absurd (hv hk0) h)
    refine j_goto (tgt := 1506) C dL_law_1388 rfl ?_
    refine j_pick [0, 1, 2, 3, 4, 5] rfl ?_
    refine j_widen (k := cells + 4) (n := slots + 452) (by show cells + rm.cells + rm2.cells + 0 ≤ _; omega) (by show slots + rm.slots + rm2.slots + 0 ≤ _; omega) ?_
    exact k _ ⟨o1, od, w1, w3, N1, pn1, pf1, len1, row1, vv1, lk1, kk, hok1, hc1, hr3, rfl⟩
theorem law_exits (C : jC p s m args meth c code wsL_law RL 9 A g) (K : jLc l R s b n xs A) (ht : t + 7 ≤ n) (hroom : cells + 4 ≤ R.cells ∧ slots + 452 ≤ R.slots) (hI : jIW g x0 m0 out outD ws) (k : ∀ ws', jIW g x0 m0 out outD ws' → jJ p l e R s m args below meth c Q A g (va_S A s.heap) 9 (cells + 4) (slots + 452) 1506 (jLL b x0 m0 out outD t) [] ws') : jJ p l e R s m args below meth c Q A g (va_S A s.heap) 9 cells slots 1391 (jLL b x0 m0 out outD t) [] ws := by
  obtain ⟨hX, hZ, hN, hS, hbl, hbA, hn, hRf, hRl, hst⟩ := K
  obtain ⟨o, od, Wc, Wr, N, pn, pf, len, row, vv, lk, th, hok, hc, hr, rfl⟩ := hI
  obtain ⟨kk, bb, rm, rm2, N1, pn1, pf1, len1, row1, vv1, lk1, hok1, ⟨f1, l1, c1, s1⟩, ⟨f2, l2, c2, s2⟩, hL, hR⟩ := op_exits (out := outD) hst hok hc hr (xs (t + 1)) (xs (t + 2)) (xs (t + 3)) od
  refine j_aload_n 1 C dL_law_1391 rfl rfl ?_
  refine j_aload_n 0 C dL_law_1392 rfl rfl ?_
  refine j_iload 5 C dL_law_1393 rfl ?_
  refine j_iconst (v := 1) C dL_law_1395 rfl ?_
  refine j_iadd C dL_law_1396 (nI_a1 t) ?_
  refine j_sld (x := t + 1) C hS hbl hbA dL_law_1397 rfl (by omega) hn ?_
  refine j_aload_n 0 C dL_law_1398 rfl rfl ?_
  refine j_iload 5 C dL_law_1399 rfl ?_
  refine j_iconst (v := 2) C dL_law_1401 rfl ?_
  refine j_iadd C dL_law_1402 (nI_a2 t) ?_
  refine j_sld (x := t + 2) C hS hbl hbA dL_law_1403 rfl (by omega) hn ?_
  refine j_aload_n 0 C dL_law_1404 rfl rfl ?_
  refine j_iload 5 C dL_law_1405 rfl ?_
  refine j_iconst (v := 3) C dL_law_1407 rfl ?_
  refine j_iadd C dL_law_1408 (nI_a3 t) ?_
  refine j_sld (x := t + 3) C hS hbl hbA dL_law_1409 rfl (by omega) hn ?_
  refine j_aload 4 C dL_law_1410 rfl ?_
  refine j_oS (As := [.ref x0, .int (xs (t + 1)), .int (xs (t + 2)), .int (xs (t + 3)), .ref outD]) (rest := []) (Fx := (out, jaL g 1 o) :: Wr) (V := (outD, jaD g 1 od) :: Wc) (v := .int kk) C hX hZ hN hL gL_law_L_exits rfl hdS_L_exits ⟨by omega, by omega⟩ (jLp3 (X := Wc) (Y := Wr)) dL_law_1412 rfl (Nat.le_of_ble_eq_true rfl) ⟨by omega, by omega⟩ rfl (fun w hw => ?_)
  obtain ⟨o1, w1, rfl, hc1, hv⟩ := hw
  refine j_perm (ws' := (outD, jaD g 1 o1) :: (out, jaL g 1 o) :: (w1 ++ Wr)) jLp3 ?_
  refine j_istore (x := kk) (L' := [(0, .ref b), (1, .ref x0), (2, .ref m0), (3, .ref out), (4, .ref outD), (5, .int (nI t)), (6, .int kk)]) C dL_law_1415 (by decide) rfl rfl ?_
  refine j_aload_n 2 C dL_law_1417 rfl rfl ?_
  refine j_aload_n 0 C dL_law_1418 rfl rfl ?_
  refine j_iload 5 C dL_law_1419 rfl ?_
  refine j_iconst (v := 1) C dL_law_1421 rfl ?_
  refine j_iadd C dL_law_1422 (nI_a1 t) ?_
  refine j_sld (x := t + 1) C hS hbl hbA dL_law_1423 rfl (by omega) hn ?_
  refine j_aload_n 0 C dL_law_1424 rfl rfl ?_
  refine j_iload 5 C dL_law_1425 rfl ?_
  refine j_iconst (v := 2) C dL_law_1427 rfl ?_
  refine j_iadd C dL_law_1428 (nI_a2 t) ?_
  refine j_sld (x := t + 2) C hS hbl hbA dL_law_1429 rfl (by omega) hn ?_
  refine j_aload_n 0 C dL_law_1430 rfl rfl ?_
  refine j_iload 5 C dL_law_1431 rfl ?_
  refine j_iconst (v := 3) C dL_law_1433 rfl ?_
  refine j_iadd C dL_law_1434 (nI_a3 t) ?_
  refine j_sld (x := t + 3) C hS hbl hbA dL_law_1435 rfl (by omega) hn ?_
  refine j_oV (As := [.int (xs (t + 1)), .int (xs (t + 2)), .int (xs (t + 3))]) (rest := []) (Fx := (outD, jaD g 1 o1) :: (out, jaL g 1 o) :: w1) (V := Wr) (v := .double bb) (Cn := RX5) C hX hZ hN hR gL_law_X5_exits rfl hd5_exits ⟨by omega, by omega⟩ (List.Perm.refl _) (jRW_m0 hr) (N := 11) (T := TX5) rfl dL_law_1436 rfl (Nat.le_of_ble_eq_true rfl) ⟨by omega, by omega⟩ rfl (fun w2 hr1 => ?_)
  refine j_dstore (x := bb) (L' := [(0, .ref b), (1, .ref x0), (2, .ref m0), (3, .ref out), (4, .ref outD), (5, .int (nI t)), (6, .int kk), (7, .double bb)]) C dL_law_1439 (by decide) rfl rfl ?_
  refine j_aload_n 2 C dL_law_1441 rfl rfl ?_
  refine j_oV (As := []) (rest := []) (Fx := (outD, jaD g 1 o1) :: (out, jaL g 1 o) :: w1) (V := w2) (v := .int kk) (Cn := RX5) C hX hZ hN (op_thrown hr1) gL_law_X5_thrown rfl hd5_thrown ⟨by show 0 + 1 ≤ _; omega, by show 8 + (1 + 11) + 0 ≤ _; omega⟩ (List.Perm.refl _) (jRW_m0 hr1) (N := 11) (T := TX5) rfl dL_law_1442 rfl (Nat.le_of_ble_eq_true rfl) ⟨by show cells + rm.cells + rm2.cells + 0 ≤ _; omega, by show slots + rm.slots + rm2.slots + 0 ≤ _; omega⟩ rfl (fun w3 hr3 => ?_)
  refine j_iload 6 C dL_law_1445 rfl ?_
  refine j_icmp_eq (tgt := 1452) C dL_law_1447 rfl (fun _ => ?_) (fun h => absurd rfl h)
  refine j_iload 6 C dL_law_1452 rfl ?_
  refine j_if_ne (tgt := 1489) C dL_law_1454 rfl (fun _ => ?_) (fun hk0 => ?_)
  · refine j_goto (tgt := 1506) C dL_law_1489 rfl ?_
    refine j_pick [0, 1, 2, 3, 4, 5] rfl ?_
    refine j_widen (k := cells + 4) (n := slots + 452) (by show cells + rm.cells + rm2.cells + 0 ≤ _; omega) (by show slots + rm.slots + rm2.slots + 0 ≤ _; omega) ?_
    exact k _ ⟨o, o1, w1, w3, N1, pn1, pf1, len1, row1, vv1, lk1, kk, hok1, hc1, hr3, rfl⟩
  · skip
    have hv1 := hv hk0
    refine j_aload 4 C dL_law_1457 rfl ?_
    refine j_iconst (v := 0) C dL_law_1459 rfl ?_
    refine j_dald 0 C dL_law_1460 rfl (vp_in_nI (n := 0) (N := 1) (by decide) (by decide)) ?_
    refine j_dload 7 C dL_law_1461 rfl ?_
    refine j_dcmp C dL_law_1463 ?_
    refine j_if_eq (tgt := 1489) C dL_law_1464 rfl (fun _ => ?_) (fun hz => ?_)
    · refine j_goto (tgt := 1506) C dL_law_1489 rfl ?_
      refine j_pick [0, 1, 2, 3, 4, 5] rfl ?_
      refine j_widen (k := cells + 4) (n := slots + 452) (by show cells + rm.cells + rm2.cells + 0 ≤ _; omega) (by show slots + rm.slots + rm2.slots + 0 ≤ _; omega) ?_
      exact k _ ⟨o, o1, w1, w3, N1, pn1, pf1, len1, row1, vv1, lk1, kk, hok1, hc1, hr3, rfl⟩
    · have hz : ¬ Op.cmpValue (FP.dcmp (o1 0) bb) CmpOp.l = 0 := hz
      rw [hv1] at hz
      refine j_aload 4 C dL_law_1467 rfl ?_
      refine j_iconst (v := 0) C dL_law_1469 rfl ?_
      refine j_dald 0 C dL_law_1470 rfl (vp_in_nI (n := 0) (N := 1) (by decide) (by decide)) ?_
      refine j_aload 4 C dL_law_1471 rfl ?_
      refine j_iconst (v := 0) C dL_law_1473 rfl ?_
      refine j_dald 0 C dL_law_1474 rfl (vp_in_nI (n := 0) (N := 1) (by decide) (by decide)) ?_
      refine j_dcmp C dL_law_1475 ?_
      refine j_if_eq (tgt := 1487) C dL_law_1476 rfl (fun hz2 => ?_) (fun _ => ?_)
      · have hz2 : Op.cmpValue (FP.dcmp (o1 0) (o1 0)) CmpOp.l = 0 := hz2
        rw [hv1] at hz2
        exact absurd hz2 hz
      · skip
        refine j_dload 7 C dL_law_1479 rfl ?_
        refine j_dload 7 C dL_law_1481 rfl ?_
        refine j_dcmp C dL_law_1483 ?_
        refine j_if_ne (tgt := 1489) C dL_law_1484 rfl (fun _ => ?_) (fun hz3 => absurd hz3 hz)
        refine j_goto (tgt := 1506) C dL_law_1489 rfl ?_
        refine j_pick [0, 1, 2, 3, 4, 5] rfl ?_
        refine j_widen (k := cells + 4) (n := slots + 452) (by show cells + rm.cells + rm2.cells + 0 ≤ _; omega) (by show slots + rm.slots + rm2.slots + 0 ≤ _; omega) ?_
        exact k _ ⟨o, o1, w1, w3, N1, pn1, pf1, len1, row1, vv1, lk1, kk, hok1, hc1, hr3, rfl⟩
theorem law_digest (C : jC p s m args meth c code wsL_law RL 9 A g) (K : jLc l R s b n xs A) (ht : t + 7 ≤ n) (hroom : cells + 4 ≤ R.cells ∧ slots + 452 ≤ R.slots) (hI : jIW g x0 m0 out outD ws) (k : ∀ ws', jIW g x0 m0 out outD ws' → jJ p l e R s m args below meth c Q A g (va_S A s.heap) 9 (cells + 4) (slots + 452) 1506 (jLL b x0 m0 out outD t) [] ws') : jJ p l e R s m args below meth c Q A g (va_S A s.heap) 9 cells slots 1492 (jLL b x0 m0 out outD t) [] ws := by
  obtain ⟨hX, hZ, hN, hS, hbl, hbA, hn, hRf, hRl, hst⟩ := K
  obtain ⟨o, od, Wc, Wr, N, pn, pf, len, row, vv, lk, th, hok, hc, hr, rfl⟩ := hI
  obtain ⟨rm, rm2, N1, pn1, pf1, len1, row1, vv1, lk1, hok1, ⟨f1, l1, c1, s1⟩, ⟨f2, l2, c2, s2⟩, hL, hR⟩ := op_digest (l := l) hok hc hr
  refine j_aload_n 1 C dL_law_1492 rfl rfl ?_
  refine j_oV (As := []) (rest := []) (Fx := (outD, jaD g 1 od) :: (out, jaL g 1 o) :: Wr) (V := Wc) (v := .long (jDG N pn pf row len (jRan vv lk))) (Cn := RX4) C hX hZ hN hL gL_law_X4_digest rfl hdD_digest ⟨by omega, by omega⟩ jLp5 (jCW_x0 hc) (N := 8) (T := TX4) rfl dL_law_1493 rfl (Nat.le_of_ble_eq_true rfl) ⟨by omega, by omega⟩ rfl (fun w1 hc1 => ?_)
  refine j_aload_n 2 C dL_law_1496 rfl rfl ?_
  refine j_oV (As := []) (rest := [.long (jDG N pn pf row len (jRan vv lk))]) (Fx := (outD, jaD g 1 od) :: (out, jaL g 1 o) :: w1) (V := Wr) (v := .long (jDG N pn pf row len (jRan vv lk))) (Cn := RX5) C hX hZ hN hR gL_law_X5_digest rfl hd5_digest ⟨by omega, by omega⟩ jLp6 (jRW_m0 hr) (N := 11) (T := TX5) rfl dL_law_1497 rfl (Nat.le_of_ble_eq_true rfl) ⟨by omega, by omega⟩ rfl (fun w3 hr3 => ?_)
  refine j_lcmp_eq (tgt := 1506) C dL_law_1500 dL_law_1501 rfl (fun _ => ?_) (fun h => absurd rfl h)
  refine j_widen (k := cells + 4) (n := slots + 452) (by omega) (by omega) ?_
  exact k _ ⟨o, od, w1, w3, N1, pn1, pf1, len1, row1, vv1, lk1, 0, hok1, hc1, hr3, rfl⟩
end LAWC
