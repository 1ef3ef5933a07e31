/-! LAW 6: build -/
theorem hl_addProgram : yX4_addProgram.cls = RX4 ∧ yX4_addProgram.cls ≠ "java/lang/invoke/MethodHandle" ∧ yX4_addProgram.cls ≠ "java/lang/invoke/VarHandle" ∧ (parseMethodDescriptor yX4_addProgram.desc).map (fun d => d.parameters.length) = some 0 := by decide +kernel
theorem hl_addLoop : yX4_addLoop.cls = RX4 ∧ yX4_addLoop.cls ≠ "java/lang/invoke/MethodHandle" ∧ yX4_addLoop.cls ≠ "java/lang/invoke/VarHandle" ∧ (parseMethodDescriptor yX4_addLoop.desc).map (fun d => d.parameters.length) = some 4 := by decide +kernel
theorem hl_addStep : yX4_addStep.cls = RX4 ∧ yX4_addStep.cls ≠ "java/lang/invoke/MethodHandle" ∧ yX4_addStep.cls ≠ "java/lang/invoke/VarHandle" ∧ (parseMethodDescriptor yX4_addStep.desc).map (fun d => d.parameters.length) = some 6 := by decide +kernel
theorem hl_loops : yX4_loops.cls = RX4 ∧ yX4_loops.cls ≠ "java/lang/invoke/MethodHandle" ∧ yX4_loops.cls ≠ "java/lang/invoke/VarHandle" ∧ (parseMethodDescriptor yX4_loops.desc).map (fun d => d.parameters.length) = some 1 := by decide +kernel
theorem hl_loop : yX4_loop.cls = RX4 ∧ yX4_loop.cls ≠ "java/lang/invoke/MethodHandle" ∧ yX4_loop.cls ≠ "java/lang/invoke/VarHandle" ∧ (parseMethodDescriptor yX4_loop.desc).map (fun d => d.parameters.length) = some 3 := by decide +kernel
theorem hl_reason : yX4_reason.cls = RX4 ∧ yX4_reason.cls ≠ "java/lang/invoke/MethodHandle" ∧ yX4_reason.cls ≠ "java/lang/invoke/VarHandle" ∧ (parseMethodDescriptor yX4_reason.desc).map (fun d => d.parameters.length) = some 4 := by decide +kernel
theorem hl_change : yX4_change.cls = RX4 ∧ yX4_change.cls ≠ "java/lang/invoke/MethodHandle" ∧ yX4_change.cls ≠ "java/lang/invoke/VarHandle" ∧ (parseMethodDescriptor yX4_change.desc).map (fun d => d.parameters.length) = some 4 := by decide +kernel
theorem hl_differ : yX4_differ.cls = RX4 ∧ yX4_differ.cls ≠ "java/lang/invoke/MethodHandle" ∧ yX4_differ.cls ≠ "java/lang/invoke/VarHandle" ∧ (parseMethodDescriptor yX4_differ.desc).map (fun d => d.parameters.length) = some 4 := by decide +kernel
theorem hl_firstCase : yX4_firstCase.cls = RX4 ∧ yX4_firstCase.cls ≠ "java/lang/invoke/MethodHandle" ∧ yX4_firstCase.cls ≠ "java/lang/invoke/VarHandle" ∧ (parseMethodDescriptor yX4_firstCase.desc).map (fun d => d.parameters.length) = some 4 := by decide +kernel
theorem hl_exits : yX4_exits.cls = RX4 ∧ yX4_exits.cls ≠ "java/lang/invoke/MethodHandle" ∧ yX4_exits.cls ≠ "java/lang/invoke/VarHandle" ∧ (parseMethodDescriptor yX4_exits.desc).map (fun d => d.parameters.length) = some 3 := by decide +kernel
theorem hl_cost : yX4_cost.cls = RX4 ∧ yX4_cost.cls ≠ "java/lang/invoke/MethodHandle" ∧ yX4_cost.cls ≠ "java/lang/invoke/VarHandle" ∧ (parseMethodDescriptor yX4_cost.desc).map (fun d => d.parameters.length) = some 4 := by decide +kernel
theorem hl_programs : yX4_programs.cls = RX4 ∧ yX4_programs.cls ≠ "java/lang/invoke/MethodHandle" ∧ yX4_programs.cls ≠ "java/lang/invoke/VarHandle" ∧ (parseMethodDescriptor yX4_programs.desc).map (fun d => d.parameters.length) = some 0 := by decide +kernel
/-- a loop's row of the law: its first three numbers -/
def bGd (M : Nat) (F : Nat → Int32) : Prop := (∃ v, v ≤ 5 ∧ F 0 = nI v) ∧ (∃ v, v ≤ 5 ∧ F 1 = nI v) ∧ (F 2 = 0 ∨ F 2 = 1) ∧ 3 ≤ M
theorem bGd_more {M : Nat} {F F' : Nat → Int32} (h : bGd M F) (hF : ∀ i, i < M → F' i = F i) : bGd (M + 4) F' := by
  obtain ⟨h0, h1, h2, h3⟩ := h
  refine ⟨?_, ?_, ?_, by omega⟩
  · rw [hF 0 (by omega)]; exact h0
  · rw [hF 1 (by omega)]; exact h1
  · rw [hF 2 (by omega)]; exact h2
/-- the class's world with one program of k loops, the last of them with i steps -/
def bW (g : jG) (x0 len : Nat) (row vv : Nat → Int64) (lk : Int32) (k : Nat) (w : va_W) : Prop := ∃ (pn : Nat → Nat) (pf : Nat → Nat → Int32), jMok 1 pn pf len ∧ jCW g x0 1 pn pf len row vv lk w ∧ pn 0 = k
def bS (g : jG) (x0 len : Nat) (row vv : Nat → Int64) (lk : Int32) (k i : Nat) (w : va_W) : Prop := ∃ (pn : Nat → Nat) (pf : Nat → Nat → Int32), jMok 1 pn pf len ∧ jCW g x0 1 pn pf len row vv lk w ∧ pn 0 = k + 1 ∧ pf 0 (k * 28 + 3) = nI i
theorem jBt_of {v n : Nat} (h : v ≤ n) (hn : n ≤ 1000) : jBt (nI v) 0 (nI n) = true := jBt_m h hn
section BUILD
variable {p : Program} {l : Launch} {e : Env} {R : Room} {s : State} {m : MethodId} {args : Array Value} {below : List Frame} {meth : Method} {c : Code} {Q : State → Prop} {A : Nat → Prop} {g : jG} {cells slots x0 b Ln len : Nat} {xs : Nat → Int32} {row vv : Nat → Int64} {lk : Int32} {L : List (Nat × Value)} {st : List Value} {ws Fx w : va_W}
theorem b_addLoop {k : Nat} {s0 e0 : Int32} {up : Bool} (C : jC p s m args meth c cL_build wsL_build RL 17 A g) (K : jSc s b Ln xs A) (hR : 5 ≤ R.frames ∧ 118 ≤ R.locals) (hf : cells ≤ R.cells ∧ slots ≤ R.slots) (h1 : jBt s0 0 5 = true) (h2 : jBt e0 0 5 = true) (hk : k < 8) (hw : bW g x0 len row vv lk k w) (hrm : (st.map fun v => v.category).sum ≤ 8)
    (kk : ∀ w', bS g x0 len row vv lk k 0 w' → jJ p l e R s m args below meth c Q A g (va_S A s.heap) 17 cells slots 215 L (.int (nI k) :: st) (Fx ++ w')) : jJ p l e R s m args below meth c Q A g (va_S A s.heap) 17 cells slots 212 L (.int (jb up) :: .int e0 :: .int s0 :: .int 0 :: .ref x0 :: st) (Fx ++ w) := by
  obtain ⟨pn, pf, hok, hc, hpn⟩ := hw
  have hq := q_addLoop (l := l) hok hc (k := 0) (by decide) (up := up) h1 h2 (by omega)
  rw [hpn] at hq
  refine j_oV (Fx := Fx) (V := w) (As := [.int (nI 0), .int s0, .int e0, .int (jb up)]) (rest := st) (n := 3) (T := TX4) (N := 8) C hq gL_build_X4_addLoop rfl hl_addLoop ⟨by show 3 + 1 ≤ R.frames; omega, by show 8 + (6 + 11) + 69 ≤ R.locals; omega⟩ (List.Perm.refl _) (jCW_x0 hc) rfl dL_build_212 rfl hrm hf rfl (fun w' hc' => ?_)
  refine kk w' ⟨_, _, jMok_k hok (by decide) ?_, hc', up1_eq, ?_⟩
  · have h9 := jOk_add (hok.2.2.1 0 (by decide)) (up := up) (show pn 0 < 8 by omega) h1 h2
    rw [hpn] at h9
    exact h9
  · rw [up1_eq]
    exact if_pos rfl
theorem b_addStep {k i : Nat} {v0 v1 v2 v3 : Int32} (C : jC p s m args meth c cL_build wsL_build RL 17 A g) (K : jSc s b Ln xs A) (hR : 5 ≤ R.frames ∧ 118 ≤ R.locals) (hf : cells ≤ R.cells ∧ slots ≤ R.slots) (hb : ((jBt v0 0 4 && (jBt v1 (-100) 100 || jBt v1 1000 1003)) && (jBt v2 0 5 && jBt v3 0 (if v2 = 4 then 0 else if v2 = 5 then 100 else 3))) = true) (hi : i < 6) (hw : bS g x0 len row vv lk k i w) (hrm : (st.map fun v => v.category).sum ≤ 8)
    (kk : ∀ w', bS g x0 len row vv lk k (i + 1) w' → jJ p l e R s m args below meth c Q A g (va_S A s.heap) 17 cells slots 422 L (.int (nI i) :: st) (Fx ++ w')) : jJ p l e R s m args below meth c Q A g (va_S A s.heap) 17 cells slots 419 L (.int v3 :: .int v2 :: .int v1 :: .int v0 :: .int (nI k) :: .int 0 :: .ref x0 :: st) (Fx ++ w) := by
  obtain ⟨pn, pf, hok, hc, hpn, hpf⟩ := hw
  have hq := q_addStep (l := l) hok hc (k := 0) (by decide) (j := k) (by omega) hb hpf hi
  refine j_oV (Fx := Fx) (V := w) (As := [.int (nI 0), .int (nI k), .int v0, .int v1, .int v2, .int v3]) (rest := st) (n := 3) (T := TX4) (N := 8) C hq gL_build_X4_addStep rfl hl_addStep ⟨by show 4 + 1 ≤ R.frames; omega, by show 8 + (8 + 11) + 91 ≤ R.locals; omega⟩ (List.Perm.refl _) (jCW_x0 hc) rfl dL_build_419 rfl hrm hf rfl (fun w' hc' => ?_)
  refine kk w' ⟨_, _, jMok_k hok (by decide) (jOk_stp (hok.2.2.1 0 (by decide)) (by omega) hpf hi hb), hc', ?_, ?_⟩
  · rw [up1_eq]
    exact hpn
  · rw [up1_eq]
    exact if_pos rfl
set_option maxHeartbeats 4000000 in
theorem b_new {k mm P : Nat} {xr : Int32} {T : Nat → Option Nat} {r M : Nat → Nat} {F : Nat → Nat → Int32} (C : jC p s m args meth c cL_build wsL_build RL 17 A g) (K : jSc s b Ln xs A) (hR : 5 ≤ R.frames ∧ 118 ≤ R.locals) (hf : cells + 1 ≤ R.cells ∧ slots + 3 ≤ R.slots) (hk4 : k ≤ 4) (hT : ∀ i, i < k → T i = some (r i)) (hG : ∀ i, i < k → bGd (M i) (F i)) (hM9 : ∀ i, i < k → M i ≤ 1000) (kk : ∀ (q : Nat) (F3 : Nat → Int32), bGd 3 F3 → jJ p l e R s m args below meth c Q A g (va_S A s.heap) 17 (cells + 1) (slots + 3) 187 [(0, .ref x0), (1, .ref b), (2, .int 0), (3, .int 0), (4, .int (nI mm)), (5, .ref P), (6, .int (nI k)), (7, .int xr)] [.ref q] ((q, jaI g 3 F3) :: (P, jaR g k T) :: (jpl (jLF g r M F) k ++ w))) : jJ p l e R s m args below meth c Q A g (va_S A s.heap) 17 cells slots 51 [(0, .ref x0), (1, .ref b), (2, .int 0), (3, .int 0), (4, .int (nI mm)), (5, .ref P), (6, .int (nI k)), (7, .int xr)] [] ((P, jaR g k T) :: (jpl (jLF g r M F) k ++ w)) := by
  have at187 : ∀ (q : Nat) (F3 : Nat → Int32), bGd 3 F3 → jJ p l e R s m args below meth c Q A g (va_S A s.heap) 17 (cells + 1) (slots + 3) 187 [(0, .ref x0), (1, .ref b), (2, .int 0), (3, .int 0), (4, .int (nI mm)), (5, .ref P), (6, .int (nI k)), (7, .int xr)] [.ref q] ((q, jaI g 3 F3) :: (P, jaR g k T) :: (jpl (jLF g r M F) k ++ w)) := kk
  have at70 : ∀ v : Int32, (v = 0 ∨ (v = 1 ∧ 0 < k)) → jJ p l e R s m args below meth c Q A g (va_S A s.heap) 17 cells slots 70 [(0, .ref x0), (1, .ref b), (2, .int 0), (3, .int 0), (4, .int (nI mm)), (5, .ref P), (6, .int (nI k)), (7, .int xr)] [.int v] ((P, jaR g k T) :: (jpl (jLF g r M F) k ++ w)) := fun v hv => by
    refine j_istore (L' := [(0, .ref x0), (1, .ref b), (2, .int 0), (3, .int 0), (4, .int (nI mm)), (5, .ref P), (6, .int (nI k)), (7, .int xr), (8, .int v)]) C dL_build_70 (Nat.le_of_ble_eq_true rfl) rfl rfl ?_
    refine j_iload 8 C dL_build_72 rfl ?_
    refine j_if_eq (tgt := 119) C dL_build_74 (by decide) (fun h9 => ?_) (fun h9 => ?_)
    · skip
      refine j_pick (L' := [(0, .ref x0), (1, .ref b), (2, .int 0), (3, .int 0), (4, .int (nI mm)), (5, .ref P), (6, .int (nI k)), (7, .int xr)]) [0, 1, 2, 3, 4, 5, 6, 7] rfl ?_
      refine j_iconst (v := 3) C dL_build_119 rfl ?_
      refine j_newaI (N := 3) C dL_build_120 (List.mem_of_getElem? (i := 2) rfl) rfl (by decide) ⟨by omega, by omega⟩ (fun q => ?_)
      refine j_perm (ws' := (q, jaI g 3 (fun _ => 0)) :: (P, jaR g k T) :: (jpl (jLF g r M F) k ++ w)) (List.perm_append_singleton _ _).symm ?_
      refine j_dup C dL_build_122 rfl ?_
      refine j_iconst (v := 0) C dL_build_123 rfl ?_
      refine j_iload 7 C dL_build_124 rfl ?_
      refine j_iconst (v := 2) C dL_build_126 rfl ?_
      refine j_ishr (v := xr >>> ((2 : Int32) &&& 31)) C dL_build_127 rfl ?_
      refine j_iconst (v := 4) C dL_build_128 rfl ?_
      refine j_below 4 (by decide) (by decide) C K gL_build_L_below ⟨by omega, by omega⟩ dL_build_129 (Nat.le_of_ble_eq_true rfl) ⟨by omega, by omega⟩ (fun i1 hi1 => ?_)
      have at148 : ∀ v1 : Nat, v1 ≤ 5 → jJ p l e R s m args below meth c Q A g (va_S A s.heap) 17 (cells + 1) (slots + 3) 148 [(0, .ref x0), (1, .ref b), (2, .int 0), (3, .int 0), (4, .int (nI mm)), (5, .ref P), (6, .int (nI k)), (7, .int xr)] [.int (nI v1), .int 0, .ref q, .ref q] ((q, jaI g 3 (fun _ => 0)) :: (P, jaR g k T) :: (jpl (jLF g r M F) k ++ w)) := fun v1 hv1 => by
        refine j_iastN (x := 0) (ws' := (q, jaI g 3 (upd (fun _ => 0) 0 (nI v1))) :: (P, jaR g k T) :: (jpl (jLF g r M F) k ++ w)) 0 C dL_build_148 rfl rfl (by decide) (by decide) rfl ?_
        refine j_dup C dL_build_149 rfl ?_
        refine j_iconst (v := 1) C dL_build_150 rfl ?_
        refine j_iload 7 C dL_build_151 rfl ?_
        refine j_iconst (v := 3) C dL_build_153 rfl ?_
        refine j_ishr (v := xr >>> ((3 : Int32) &&& 31)) C dL_build_154 rfl ?_
        refine j_iconst (v := 4) C dL_build_155 rfl ?_
        refine j_below 4 (by decide) (by decide) C K gL_build_L_below ⟨by omega, by omega⟩ dL_build_156 (Nat.le_of_ble_eq_true rfl) ⟨by omega, by omega⟩ (fun i2 hi2 => ?_)
        have at175 : ∀ v2 : Nat, v2 ≤ 5 → jJ p l e R s m args below meth c Q A g (va_S A s.heap) 17 (cells + 1) (slots + 3) 175 [(0, .ref x0), (1, .ref b), (2, .int 0), (3, .int 0), (4, .int (nI mm)), (5, .ref P), (6, .int (nI k)), (7, .int xr)] [.int (nI v2), .int 1, .ref q, .ref q] ((q, jaI g 3 (upd (fun _ => 0) 0 (nI v1))) :: (P, jaR g k T) :: (jpl (jLF g r M F) k ++ w)) := fun v2 hv2 => by
          refine j_iastN (x := 1) (ws' := (q, jaI g 3 (upd (upd (fun _ => 0) 0 (nI v1)) 1 (nI v2))) :: (P, jaR g k T) :: (jpl (jLF g r M F) k ++ w)) 0 C dL_build_175 rfl rfl (by decide) (by decide) rfl ?_
          refine j_dup C dL_build_176 rfl ?_
          refine j_iconst (v := 2) C dL_build_177 rfl ?_
          refine j_iload 7 C dL_build_178 rfl ?_
          refine j_iconst (v := 4) C dL_build_180 rfl ?_
          refine j_ishr (v := xr >>> ((4 : Int32) &&& 31)) C dL_build_181 rfl ?_
          refine j_iconst (v := 2) C dL_build_182 rfl ?_
          refine j_below 2 (by decide) (by decide) C K gL_build_L_below ⟨by omega, by omega⟩ dL_build_183 (Nat.le_of_ble_eq_true rfl) ⟨by omega, by omega⟩ (fun i3 hi3 => ?_)
          refine j_iastN (x := 2) (ws' := (q, jaI g 3 (upd (upd (upd (fun _ => 0) 0 (nI v1)) 1 (nI v2)) 2 (nI i3))) :: (P, jaR g k T) :: (jpl (jLF g r M F) k ++ w)) 0 C dL_build_186 rfl rfl (by decide) (by decide) rfl ?_
          refine at187 q _ ⟨⟨v1, hv1, rfl⟩, ⟨v2, hv2, rfl⟩, ?_, Nat.le_refl _⟩
          show nI i3 = 0 ∨ nI i3 = 1
          rcases (show i3 = 0 ∨ i3 = 1 by omega) with z | z
          · subst z; exact Or.inl rfl
          · subst z; exact Or.inr rfl
        refine j_if_ne (tgt := 174) C dL_build_159 (by decide) (fun h2 => ?_) (fun h2 => ?_)
        · skip
          refine j_iconst (v := 0) C dL_build_174 rfl ?_
          exact at175 0 (by decide)
        · skip
          refine j_iload 7 C dL_build_162 rfl ?_
          refine j_iconst (v := 5) C dL_build_164 rfl ?_
          refine j_ishr (v := xr >>> ((5 : Int32) &&& 31)) C dL_build_165 rfl ?_
          refine j_bipush (v := 6) C dL_build_166 rfl ?_
          refine j_below 6 (by decide) (by decide) C K gL_build_L_below ⟨by omega, by omega⟩ dL_build_168 (Nat.le_of_ble_eq_true rfl) ⟨by omega, by omega⟩ (fun i4 hi4 => ?_)
          refine j_goto (tgt := 175) C dL_build_171 (by decide) ?_
          exact at175 i4 (by omega)
      refine j_if_ne (tgt := 147) C dL_build_132 (by decide) (fun h1 => ?_) (fun h1 => ?_)
      · skip
        refine j_iconst (v := 0) C dL_build_147 rfl ?_
        exact at148 0 (by decide)
      · skip
        refine j_iload 7 C dL_build_135 rfl ?_
        refine j_iconst (v := 4) C dL_build_137 rfl ?_
        refine j_ishr (v := xr >>> ((4 : Int32) &&& 31)) C dL_build_138 rfl ?_
        refine j_bipush (v := 6) C dL_build_139 rfl ?_
        refine j_below 6 (by decide) (by decide) C K gL_build_L_below ⟨by omega, by omega⟩ dL_build_141 (Nat.le_of_ble_eq_true rfl) ⟨by omega, by omega⟩ (fun i5 hi5 => ?_)
        refine j_goto (tgt := 148) C dL_build_144 (by decide) ?_
        exact at148 i5 (by omega)
    · skip
      have hk0 : 0 < k := by
        rcases hv with z | z
        · exact absurd z h9
        · exact z.2
      refine j_pick (L' := [(0, .ref x0), (1, .ref b), (2, .int 0), (3, .int 0), (4, .int (nI mm)), (5, .ref P), (6, .int (nI k)), (7, .int xr)]) [0, 1, 2, 3, 4, 5, 6, 7] rfl ?_
      obtain ⟨⟨s3, hs3, es3⟩, ⟨e3, he3, ee3⟩, u3, hM3⟩ := hG (k - 1) (by omega)
      refine j_iconst (v := 3) C dL_build_77 rfl ?_
      refine j_newaI (N := 3) C dL_build_78 (List.mem_of_getElem? (i := 2) rfl) rfl (by decide) ⟨by omega, by omega⟩ (fun q => ?_)
      refine j_perm (ws' := (q, jaI g 3 (fun _ => 0)) :: (P, jaR g k T) :: (jpl (jLF g r M F) k ++ w)) (List.perm_append_singleton _ _).symm ?_
      refine j_dup C dL_build_80 rfl ?_
      refine j_iconst (v := 0) C dL_build_81 rfl ?_
      refine j_aload 5 C dL_build_82 rfl ?_
      refine j_iload 6 C dL_build_84 rfl ?_
      refine j_iconst (v := 1) C dL_build_86 rfl ?_
      refine j_isub (v := nI (k - 1)) C dL_build_87 (pk_sub (a := k) (b := 1) (by omega)) ?_
      refine j_aldR (x := k - 1) 1 C dL_build_88 rfl rfl (by omega) (by omega) ?_
      refine j_eq (pc' := 89) (L' := [(0, .ref x0), (1, .ref b), (2, .int 0), (3, .int 0), (4, .int (nI mm)), (5, .ref P), (6, .int (nI k)), (7, .int xr)]) (st' := [.ref (r (k - 1)), .int 0, .ref q, .ref q]) (ws' := (q, jaI g 3 (fun _ => 0)) :: (P, jaR g k T) :: (jpl (jLF g r M F) k ++ w)) ?_ rfl rfl (by rw [hT (k - 1) (by omega)]; rfl) rfl
      refine j_iconst (v := 0) C dL_build_89 rfl ?_
      refine j_ialdN (x := 0) (a := r (k - 1)) (n := M (k - 1)) (f := F (k - 1)) (k - 1 + 2) C dL_build_90 (by show (jpl (jLF g r M F) k ++ w)[k - 1]? = _; rw [List.getElem?_append_left (by unfold jpl; simp; omega)]; exact jpl_at (by omega)) rfl (by omega) (by have := hM9 (k - 1) (by omega); omega) ?_
      refine j_iastN (x := 0) (ws' := (q, jaI g 3 (upd (fun _ => 0) 0 (F (k - 1) 0))) :: (P, jaR g k T) :: (jpl (jLF g r M F) k ++ w)) 0 C dL_build_91 rfl rfl (by decide) (by decide) rfl ?_
      refine j_dup C dL_build_92 rfl ?_
      refine j_iconst (v := 1) C dL_build_93 rfl ?_
      refine j_aload 5 C dL_build_94 rfl ?_
      refine j_iload 6 C dL_build_96 rfl ?_
      refine j_iconst (v := 1) C dL_build_98 rfl ?_
      refine j_isub (v := nI (k - 1)) C dL_build_99 (pk_sub (a := k) (b := 1) (by omega)) ?_
      refine j_aldR (x := k - 1) 1 C dL_build_100 rfl rfl (by omega) (by omega) ?_
      refine j_eq (pc' := 101) (L' := [(0, .ref x0), (1, .ref b), (2, .int 0), (3, .int 0), (4, .int (nI mm)), (5, .ref P), (6, .int (nI k)), (7, .int xr)]) (st' := [.ref (r (k - 1)), .int 1, .ref q, .ref q]) (ws' := (q, jaI g 3 (upd (fun _ => 0) 0 (F (k - 1) 0))) :: (P, jaR g k T) :: (jpl (jLF g r M F) k ++ w)) ?_ rfl rfl (by rw [hT (k - 1) (by omega)]; rfl) rfl
      refine j_iconst (v := 1) C dL_build_101 rfl ?_
      refine j_ialdN (x := 1) (a := r (k - 1)) (n := M (k - 1)) (f := F (k - 1)) (k - 1 + 2) C dL_build_102 (by show (jpl (jLF g r M F) k ++ w)[k - 1]? = _; rw [List.getElem?_append_left (by unfold jpl; simp; omega)]; exact jpl_at (by omega)) rfl (by omega) (by have := hM9 (k - 1) (by omega); omega) ?_
      refine j_iastN (x := 1) (ws' := (q, jaI g 3 (upd (upd (fun _ => 0) 0 (F (k - 1) 0)) 1 (F (k - 1) 1))) :: (P, jaR g k T) :: (jpl (jLF g r M F) k ++ w)) 0 C dL_build_103 rfl rfl (by decide) (by decide) rfl ?_
      refine j_dup C dL_build_104 rfl ?_
      refine j_iconst (v := 2) C dL_build_105 rfl ?_
      refine j_aload 5 C dL_build_106 rfl ?_
      refine j_iload 6 C dL_build_108 rfl ?_
      refine j_iconst (v := 1) C dL_build_110 rfl ?_
      refine j_isub (v := nI (k - 1)) C dL_build_111 (pk_sub (a := k) (b := 1) (by omega)) ?_
      refine j_aldR (x := k - 1) 1 C dL_build_112 rfl rfl (by omega) (by omega) ?_
      refine j_eq (pc' := 113) (L' := [(0, .ref x0), (1, .ref b), (2, .int 0), (3, .int 0), (4, .int (nI mm)), (5, .ref P), (6, .int (nI k)), (7, .int xr)]) (st' := [.ref (r (k - 1)), .int 2, .ref q, .ref q]) (ws' := (q, jaI g 3 (upd (upd (fun _ => 0) 0 (F (k - 1) 0)) 1 (F (k - 1) 1))) :: (P, jaR g k T) :: (jpl (jLF g r M F) k ++ w)) ?_ rfl rfl (by rw [hT (k - 1) (by omega)]; rfl) rfl
      refine j_iconst (v := 2) C dL_build_113 rfl ?_
      refine j_ialdN (x := 2) (a := r (k - 1)) (n := M (k - 1)) (f := F (k - 1)) (k - 1 + 2) C dL_build_114 (by show (jpl (jLF g r M F) k ++ w)[k - 1]? = _; rw [List.getElem?_append_left (by unfold jpl; simp; omega)]; exact jpl_at (by omega)) rfl (by omega) (by have := hM9 (k - 1) (by omega); omega) ?_
      refine j_iastN (x := 2) (ws' := (q, jaI g 3 (upd (upd (upd (fun _ => 0) 0 (F (k - 1) 0)) 1 (F (k - 1) 1)) 2 (F (k - 1) 2))) :: (P, jaR g k T) :: (jpl (jLF g r M F) k ++ w)) 0 C dL_build_115 rfl rfl (by decide) (by decide) rfl ?_
      refine j_goto (tgt := 187) C dL_build_116 (by decide) ?_
      exact at187 q _ ⟨⟨s3, hs3, es3⟩, ⟨e3, he3, ee3⟩, u3, Nat.le_refl _⟩
  refine j_iload 6 C dL_build_51 rfl ?_
  refine j_if_le (tgt := 69) C dL_build_53 (by decide) (fun h0 => ?_) (fun h0 => ?_)
  · skip
    refine j_iconst (v := 0) C dL_build_69 rfl ?_
    exact at70 0 (Or.inl rfl)
  · skip
    have hk0 : 0 < k := Nat.pos_of_ne_zero (fun z => h0 (by rw [z]; decide))
    refine j_iload 7 C dL_build_56 rfl ?_
    refine j_iconst (v := 3) C dL_build_58 rfl ?_
    refine j_below 3 (by decide) (by decide) C K gL_build_L_below ⟨by omega, by omega⟩ dL_build_59 (Nat.le_of_ble_eq_true rfl) ⟨by omega, by omega⟩ (fun i0 hi0 => ?_)
    refine j_if_le (tgt := 69) C dL_build_62 (by decide) (fun h00 => ?_) (fun h00 => ?_)
    · skip
      refine j_iconst (v := 0) C dL_build_69 rfl ?_
      exact at70 0 (Or.inl rfl)
    · skip
      refine j_iconst (v := 1) C dL_build_65 rfl ?_
      refine j_goto (tgt := 70) C dL_build_66 (by decide) ?_
      exact at70 1 (Or.inr ⟨rfl, hk0⟩)
set_option maxHeartbeats 4000000 in
theorem b_loop {k mm P q : Nat} {xr : Int32} {T : Nat → Option Nat} {r M : Nat → Nat} {F : Nat → Nat → Int32} {F3 : Nat → Int32} (C : jC p s m args meth c cL_build wsL_build RL 17 A g) (K : jSc s b Ln xs A) (hR : 5 ≤ R.frames ∧ 118 ≤ R.locals) (hf : cells ≤ R.cells ∧ slots ≤ R.slots) (hk4 : k < 8) (hG : bGd 3 F3) (hw : bW g x0 len row vv lk k w) (kk : ∀ w', bS g x0 len row vv lk k 0 w' → jJ p l e R s m args below meth c Q A g (va_S A s.heap) 17 cells slots 222 [(0, .ref x0), (1, .ref b), (2, .int 0), (3, .int 0), (4, .int (nI mm)), (5, .ref P), (6, .int (nI k)), (7, .int xr), (9, .ref q)] [] ((q, jaI g 3 F3) :: (P, jaR g k T) :: (jpl (jLF g r M F) k ++ w'))) : jJ p l e R s m args below meth c Q A g (va_S A s.heap) 17 cells slots 187 [(0, .ref x0), (1, .ref b), (2, .int 0), (3, .int 0), (4, .int (nI mm)), (5, .ref P), (6, .int (nI k)), (7, .int xr)] [.ref q] ((q, jaI g 3 F3) :: (P, jaR g k T) :: (jpl (jLF g r M F) k ++ w)) := by
  obtain ⟨⟨s3, hs3, es3⟩, ⟨e3, he3, ee3⟩, u3, hM3⟩ := hG
  refine j_astore (L' := [(0, .ref x0), (1, .ref b), (2, .int 0), (3, .int 0), (4, .int (nI mm)), (5, .ref P), (6, .int (nI k)), (7, .int xr), (9, .ref q)]) C dL_build_187 (Nat.le_of_ble_eq_true rfl) rfl rfl ?_
  refine j_aload_n 0 C dL_build_189 rfl rfl ?_
  refine j_iload_n 3 C dL_build_190 rfl rfl ?_
  refine j_aload 8 C dL_build_191 rfl ?_
  refine j_iconst (v := 0) C dL_build_193 rfl ?_
  refine j_ialdN (x := 0) 0 C dL_build_194 rfl rfl (by decide) (by decide) ?_
  refine j_aload 8 C dL_build_195 rfl ?_
  refine j_iconst (v := 1) C dL_build_197 rfl ?_
  refine j_ialdN (x := 1) 0 C dL_build_198 rfl rfl (by decide) (by decide) ?_
  refine j_aload 8 C dL_build_199 rfl ?_
  refine j_iconst (v := 2) C dL_build_201 rfl ?_
  refine j_ialdN (x := 2) 0 C dL_build_202 rfl rfl (by decide) (by decide) ?_
  refine j_iconst (v := 1) C dL_build_203 rfl ?_
  refine j_icmp_ne (tgt := 211) C dL_build_204 (by decide) (fun h2 => ?_) (fun h2 => ?_)
  · skip
    refine j_iconst (v := 0) C dL_build_211 rfl ?_
    refine j_eq (pc' := 212) (L' := [(0, .ref x0), (1, .ref b), (2, .int 0), (3, .int 0), (4, .int (nI mm)), (5, .ref P), (6, .int (nI k)), (7, .int xr), (9, .ref q)]) (st' := [.int (jb false), .int (F3 1), .int (F3 0), .int 0, .ref x0]) (ws' := ((q, jaI g 3 F3) :: (P, jaR g k T) :: jpl (jLF g r M F) k) ++ w) ?_ rfl rfl rfl rfl
    refine b_addLoop (k := k) C K hR hf (by rw [es3]; exact jBt_of hs3 (by decide)) (by rw [ee3]; exact jBt_of he3 (by decide)) (by omega) hw (Nat.le_of_ble_eq_true rfl) (fun w' hw' => ?_)
    refine j_iload 6 C dL_build_215 rfl ?_
    refine j_icmp_eq (tgt := 222) C dL_build_217 (by decide) (fun h3 => ?_) (fun h3 => ?_)
    · skip
      exact kk w' hw'
    · skip
      exact absurd rfl h3
  · skip
    refine j_iconst (v := 1) C dL_build_207 rfl ?_
    refine j_goto (tgt := 212) C dL_build_208 (by decide) ?_
    refine j_eq (pc' := 212) (L' := [(0, .ref x0), (1, .ref b), (2, .int 0), (3, .int 0), (4, .int (nI mm)), (5, .ref P), (6, .int (nI k)), (7, .int xr), (9, .ref q)]) (st' := [.int (jb true), .int (F3 1), .int (F3 0), .int 0, .ref x0]) (ws' := ((q, jaI g 3 F3) :: (P, jaR g k T) :: jpl (jLF g r M F) k) ++ w) ?_ rfl rfl rfl rfl
    refine b_addLoop (k := k) C K hR hf (by rw [es3]; exact jBt_of hs3 (by decide)) (by rw [ee3]; exact jBt_of he3 (by decide)) (by omega) hw (Nat.le_of_ble_eq_true rfl) (fun w' hw' => ?_)
    refine j_iload 6 C dL_build_215 rfl ?_
    refine j_icmp_eq (tgt := 222) C dL_build_217 (by decide) (fun h3 => ?_) (fun h3 => ?_)
    · skip
      exact kk w' hw'
    · skip
      exact absurd rfl h3
set_option maxHeartbeats 4000000 in
theorem b_count {k mm P q : Nat} {xr : Int32} (C : jC p s m args meth c cL_build wsL_build RL 17 A g) (K : jSc s b Ln xs A) (hR : 5 ≤ R.frames ∧ 118 ≤ R.locals) (hf : cells ≤ R.cells ∧ slots ≤ R.slots) (kk : ∀ sn : Nat, sn ≤ 3 → jJ p l e R s m args below meth c Q A g (va_S A s.heap) 17 cells slots 254 [(0, .ref x0), (1, .ref b), (2, .int 0), (3, .int 0), (4, .int (nI mm)), (5, .ref P), (6, .int (nI k)), (7, .int xr), (9, .ref q), (10, .int (nI sn)), (11, .int 0)] [] ws) : jJ p l e R s m args below meth c Q A g (va_S A s.heap) 17 cells slots 222 [(0, .ref x0), (1, .ref b), (2, .int 0), (3, .int 0), (4, .int (nI mm)), (5, .ref P), (6, .int (nI k)), (7, .int xr), (9, .ref q)] [] ws := by
  have at249 : ∀ sn : Nat, sn ≤ 3 → jJ p l e R s m args below meth c Q A g (va_S A s.heap) 17 cells slots 249 [(0, .ref x0), (1, .ref b), (2, .int 0), (3, .int 0), (4, .int (nI mm)), (5, .ref P), (6, .int (nI k)), (7, .int xr), (9, .ref q)] [.int (nI sn)] ws := fun sn hsn => by
    refine j_istore (L' := [(0, .ref x0), (1, .ref b), (2, .int 0), (3, .int 0), (4, .int (nI mm)), (5, .ref P), (6, .int (nI k)), (7, .int xr), (9, .ref q), (10, .int (nI sn))]) C dL_build_249 (Nat.le_of_ble_eq_true rfl) rfl rfl ?_
    refine j_iconst (v := 0) C dL_build_251 rfl ?_
    refine j_istore (L' := [(0, .ref x0), (1, .ref b), (2, .int 0), (3, .int 0), (4, .int (nI mm)), (5, .ref P), (6, .int (nI k)), (7, .int xr), (9, .ref q), (10, .int (nI sn)), (11, .int 0)]) C dL_build_252 (Nat.le_of_ble_eq_true rfl) rfl rfl ?_
    exact kk sn hsn
  refine j_iload 7 C dL_build_222 rfl ?_
  refine j_bipush (v := 6) C dL_build_224 rfl ?_
  refine j_ishr (v := xr >>> ((6 : Int32) &&& 31)) C dL_build_226 rfl ?_
  refine j_iconst (v := 5) C dL_build_227 rfl ?_
  refine j_below 5 (by decide) (by decide) C K gL_build_L_below ⟨by omega, by omega⟩ dL_build_228 (Nat.le_of_ble_eq_true rfl) ⟨by omega, by omega⟩ (fun i1 hi1 => ?_)
  refine j_if_ne (tgt := 238) C dL_build_231 (by decide) (fun h1 => ?_) (fun h1 => ?_)
  · skip
    refine j_iconst (v := 1) C dL_build_238 rfl ?_
    refine j_iload 7 C dL_build_239 rfl ?_
    refine j_bipush (v := 6) C dL_build_241 rfl ?_
    refine j_ishr (v := xr >>> ((6 : Int32) &&& 31)) C dL_build_243 rfl ?_
    refine j_iconst (v := 3) C dL_build_244 rfl ?_
    refine j_below 3 (by decide) (by decide) C K gL_build_L_below ⟨by omega, by omega⟩ dL_build_245 (Nat.le_of_ble_eq_true rfl) ⟨by omega, by omega⟩ (fun i2 hi2 => ?_)
    refine j_iadd (v := nI (1 + i2)) C dL_build_248 (nI_add 1 i2) ?_
    exact at249 (1 + i2) (by omega)
  · skip
    refine j_iconst (v := 0) C dL_build_234 rfl ?_
    refine j_goto (tgt := 249) C dL_build_235 (by decide) ?_
    exact at249 0 (by decide)
set_option maxHeartbeats 4000000 in
theorem b_look {k mm P q sn i : Nat} {xr : Int32} (C : jC p s m args meth c cL_build wsL_build RL 17 A g) (K : jSc s b Ln xs A) (hR : 5 ≤ R.frames ∧ 118 ≤ R.locals) (hf : cells ≤ R.cells ∧ slots ≤ R.slots) (kk : ∀ (y : Int32) (lo : Nat), lo < 5 → jJ p l e R s m args below meth c Q A g (va_S A s.heap) 17 cells slots 284 [(0, .ref x0), (1, .ref b), (2, .int 0), (3, .int 0), (4, .int (nI mm)), (5, .ref P), (6, .int (nI k)), (7, .int xr), (9, .ref q), (10, .int (nI sn)), (11, .int (nI i)), (12, .int y), (13, .int (nI lo))] [] ws) : jJ p l e R s m args below meth c Q A g (va_S A s.heap) 17 cells slots 261 [(0, .ref x0), (1, .ref b), (2, .int 0), (3, .int 0), (4, .int (nI mm)), (5, .ref P), (6, .int (nI k)), (7, .int xr), (9, .ref q), (10, .int (nI sn)), (11, .int (nI i))] [] ws := by
  refine j_iload 7 C dL_build_261 rfl ?_
  refine j_iconst (v := 3) C dL_build_263 rfl ?_
  refine j_iload 10 C dL_build_264 rfl ?_
  refine j_imul (v := nI (3 * i)) C dL_build_266 (pk_mul 3 i) ?_
  refine j_ishr (v := xr >>> ((nI (3 * i)) &&& 31)) C dL_build_267 rfl ?_
  refine j_bipush (v := 7) C dL_build_268 rfl ?_
  refine j_iload 10 C dL_build_270 rfl ?_
  refine j_imul (v := nI (7 * i)) C dL_build_272 (pk_mul 7 i) ?_
  obtain ⟨y, hy⟩ : ∃ y : Int32, y = (xr >>> ((nI (3 * i)) &&& 31)) + (nI (7 * i)) := ⟨_, rfl⟩
  refine j_iadd (v := y) C dL_build_273 hy.symm ?_
  refine j_istore (L' := [(0, .ref x0), (1, .ref b), (2, .int 0), (3, .int 0), (4, .int (nI mm)), (5, .ref P), (6, .int (nI k)), (7, .int xr), (9, .ref q), (10, .int (nI sn)), (11, .int (nI i)), (12, .int y)]) C dL_build_274 (Nat.le_of_ble_eq_true rfl) rfl rfl ?_
  refine j_iload 11 C dL_build_276 rfl ?_
  refine j_iconst (v := 5) C dL_build_278 rfl ?_
  refine j_below 5 (by decide) (by decide) C K gL_build_L_below ⟨by omega, by omega⟩ dL_build_279 (Nat.le_of_ble_eq_true rfl) ⟨by omega, by omega⟩ (fun lo hlo => ?_)
  refine j_istore (L' := [(0, .ref x0), (1, .ref b), (2, .int 0), (3, .int 0), (4, .int (nI mm)), (5, .ref P), (6, .int (nI k)), (7, .int xr), (9, .ref q), (10, .int (nI sn)), (11, .int (nI i)), (12, .int y), (13, .int (nI lo))]) C dL_build_282 (Nat.le_of_ble_eq_true rfl) rfl rfl ?_
  exact kk y lo hlo
set_option maxHeartbeats 4000000 in
theorem b_with {k mm P q sn i lo : Nat} {xr y : Int32} (C : jC p s m args meth c cL_build wsL_build RL 17 A g) (K : jSc s b Ln xs A) (hR : 5 ≤ R.frames ∧ 118 ≤ R.locals) (hf : cells ≤ R.cells ∧ slots ≤ R.slots) (kk : ∀ wi : Int32, (jBt wi (-100) 100 || jBt wi 1000 1003) = true → jJ p l e R s m args below meth c Q A g (va_S A s.heap) 17 cells slots 322 [(0, .ref x0), (1, .ref b), (2, .int 0), (3, .int 0), (4, .int (nI mm)), (5, .ref P), (6, .int (nI k)), (7, .int xr), (9, .ref q), (10, .int (nI sn)), (11, .int (nI i)), (12, .int y), (13, .int (nI lo)), (14, .int wi)] [] ws) : jJ p l e R s m args below meth c Q A g (va_S A s.heap) 17 cells slots 284 [(0, .ref x0), (1, .ref b), (2, .int 0), (3, .int 0), (4, .int (nI mm)), (5, .ref P), (6, .int (nI k)), (7, .int xr), (9, .ref q), (10, .int (nI sn)), (11, .int (nI i)), (12, .int y), (13, .int (nI lo))] [] ws := by
  have at320 : ∀ wi : Int32, (jBt wi (-100) 100 || jBt wi 1000 1003) = true → jJ p l e R s m args below meth c Q A g (va_S A s.heap) 17 cells slots 320 [(0, .ref x0), (1, .ref b), (2, .int 0), (3, .int 0), (4, .int (nI mm)), (5, .ref P), (6, .int (nI k)), (7, .int xr), (9, .ref q), (10, .int (nI sn)), (11, .int (nI i)), (12, .int y), (13, .int (nI lo))] [.int wi] ws := fun wi hwi => by
    refine j_istore (L' := [(0, .ref x0), (1, .ref b), (2, .int 0), (3, .int 0), (4, .int (nI mm)), (5, .ref P), (6, .int (nI k)), (7, .int xr), (9, .ref q), (10, .int (nI sn)), (11, .int (nI i)), (12, .int y), (13, .int (nI lo)), (14, .int wi)]) C dL_build_320 (Nat.le_of_ble_eq_true rfl) rfl rfl ?_
    exact kk wi hwi
  refine j_iload 11 C dL_build_284 rfl ?_
  refine j_iconst (v := 4) C dL_build_286 rfl ?_
  refine j_ishr (v := y >>> ((4 : Int32) &&& 31)) C dL_build_287 rfl ?_
  refine j_iconst (v := 3) C dL_build_288 rfl ?_
  refine j_below 3 (by decide) (by decide) C K gL_build_L_below ⟨by omega, by omega⟩ dL_build_289 (Nat.le_of_ble_eq_true rfl) ⟨by omega, by omega⟩ (fun i1 hi1 => ?_)
  refine j_if_ne (tgt := 310) C dL_build_292 (by decide) (fun h1 => ?_) (fun h1 => ?_)
  · skip
    refine j_iload 11 C dL_build_310 rfl ?_
    refine j_iconst (v := 5) C dL_build_312 rfl ?_
    refine j_ishr (v := y >>> ((5 : Int32) &&& 31)) C dL_build_313 rfl ?_
    refine j_iconst (v := 5) C dL_build_314 rfl ?_
    refine j_below 5 (by decide) (by decide) C K gL_build_L_below ⟨by omega, by omega⟩ dL_build_315 (Nat.le_of_ble_eq_true rfl) ⟨by omega, by omega⟩ (fun i2 hi2 => ?_)
    refine j_iconst (v := 1) C dL_build_318 rfl ?_
    refine j_isub (v := nI i2 - 1) C dL_build_319 rfl ?_
    refine at320 _ ?_
    rcases (show i2 = 0 ∨ i2 = 1 ∨ i2 = 2 ∨ i2 = 3 ∨ i2 = 4 by omega) with z | z | z | z | z <;> subst z <;> decide
  · skip
    refine j_sipush (v := 1000) C dL_build_295 rfl ?_
    refine j_iload 11 C dL_build_298 rfl ?_
    refine j_iconst (v := 5) C dL_build_300 rfl ?_
    refine j_ishr (v := y >>> ((5 : Int32) &&& 31)) C dL_build_301 rfl ?_
    refine j_iconst (v := 4) C dL_build_302 rfl ?_
    refine j_below 4 (by decide) (by decide) C K gL_build_L_below ⟨by omega, by omega⟩ dL_build_303 (Nat.le_of_ble_eq_true rfl) ⟨by omega, by omega⟩ (fun i3 hi3 => ?_)
    refine j_iadd (v := nI (1000 + i3)) C dL_build_306 (nI_add 1000 i3) ?_
    refine j_goto (tgt := 320) C dL_build_307 (by decide) ?_
    refine at320 _ ?_
    rcases (show i3 = 0 ∨ i3 = 1 ∨ i3 = 2 ∨ i3 = 3 by omega) with z | z | z | z <;> subst z <;> decide
set_option maxHeartbeats 4000000 in
theorem b_deed {k mm P q sn i lo : Nat} {xr y wi : Int32} (C : jC p s m args meth c cL_build wsL_build RL 17 A g) (K : jSc s b Ln xs A) (hR : 5 ≤ R.frames ∧ 118 ≤ R.locals) (hf : cells ≤ R.cells ∧ slots ≤ R.slots) (kk : ∀ de : Nat, de ≤ 5 → jJ p l e R s m args below meth c Q A g (va_S A s.heap) 17 cells slots 368 [(0, .ref x0), (1, .ref b), (2, .int 0), (3, .int 0), (4, .int (nI mm)), (5, .ref P), (6, .int (nI k)), (7, .int xr), (9, .ref q), (10, .int (nI sn)), (11, .int (nI i)), (12, .int y), (13, .int (nI lo)), (14, .int wi), (15, .int (nI de))] [] ws) : jJ p l e R s m args below meth c Q A g (va_S A s.heap) 17 cells slots 322 [(0, .ref x0), (1, .ref b), (2, .int 0), (3, .int 0), (4, .int (nI mm)), (5, .ref P), (6, .int (nI k)), (7, .int xr), (9, .ref q), (10, .int (nI sn)), (11, .int (nI i)), (12, .int y), (13, .int (nI lo)), (14, .int wi)] [] ws := by
  have at366 : ∀ de : Nat, de ≤ 5 → jJ p l e R s m args below meth c Q A g (va_S A s.heap) 17 cells slots 366 [(0, .ref x0), (1, .ref b), (2, .int 0), (3, .int 0), (4, .int (nI mm)), (5, .ref P), (6, .int (nI k)), (7, .int xr), (9, .ref q), (10, .int (nI sn)), (11, .int (nI i)), (12, .int y), (13, .int (nI lo)), (14, .int wi)] [.int (nI de)] ws := fun de hde => by
    refine j_istore (L' := [(0, .ref x0), (1, .ref b), (2, .int 0), (3, .int 0), (4, .int (nI mm)), (5, .ref P), (6, .int (nI k)), (7, .int xr), (9, .ref q), (10, .int (nI sn)), (11, .int (nI i)), (12, .int y), (13, .int (nI lo)), (14, .int wi), (15, .int (nI de))]) C dL_build_366 (Nat.le_of_ble_eq_true rfl) rfl rfl ?_
    exact kk de hde
  refine j_iload 11 C dL_build_322 rfl ?_
  refine j_bipush (v := 6) C dL_build_324 rfl ?_
  refine j_ishr (v := y >>> ((6 : Int32) &&& 31)) C dL_build_326 rfl ?_
  refine j_bipush (v := 9) C dL_build_327 rfl ?_
  refine j_below 9 (by decide) (by decide) C K gL_build_L_below ⟨by omega, by omega⟩ dL_build_329 (Nat.le_of_ble_eq_true rfl) ⟨by omega, by omega⟩ (fun i1 hi1 => ?_)
  refine j_if_ne (tgt := 339) C dL_build_332 (by decide) (fun h1 => ?_) (fun h1 => ?_)
  · skip
    refine j_iload 11 C dL_build_339 rfl ?_
    refine j_bipush (v := 6) C dL_build_341 rfl ?_
    refine j_ishr (v := y >>> ((6 : Int32) &&& 31)) C dL_build_343 rfl ?_
    refine j_bipush (v := 9) C dL_build_344 rfl ?_
    refine j_below 9 (by decide) (by decide) C K gL_build_L_below ⟨by omega, by omega⟩ dL_build_346 (Nat.le_of_ble_eq_true rfl) ⟨by omega, by omega⟩ (fun i2 hi2 => ?_)
    refine j_iconst (v := 1) C dL_build_349 rfl ?_
    refine j_icmp_ne (tgt := 357) C dL_build_350 (by decide) (fun h2 => ?_) (fun h2 => ?_)
    · skip
      refine j_iload 11 C dL_build_357 rfl ?_
      refine j_bipush (v := 7) C dL_build_359 rfl ?_
      refine j_ishr (v := y >>> ((7 : Int32) &&& 31)) C dL_build_361 rfl ?_
      refine j_iconst (v := 4) C dL_build_362 rfl ?_
      refine j_below 4 (by decide) (by decide) C K gL_build_L_below ⟨by omega, by omega⟩ dL_build_363 (Nat.le_of_ble_eq_true rfl) ⟨by omega, by omega⟩ (fun i3 hi3 => ?_)
      exact at366 i3 (by omega)
    · skip
      refine j_iconst (v := 4) C dL_build_353 rfl ?_
      refine j_goto (tgt := 366) C dL_build_354 (by decide) ?_
      exact at366 4 (by decide)
  · skip
    refine j_iconst (v := 5) C dL_build_335 rfl ?_
    refine j_goto (tgt := 366) C dL_build_336 (by decide) ?_
    exact at366 5 (by decide)
set_option maxHeartbeats 4000000 in
theorem b_of {k mm P q sn i lo de : Nat} {xr y wi : Int32} (C : jC p s m args meth c cL_build wsL_build RL 17 A g) (K : jSc s b Ln xs A) (hR : 5 ≤ R.frames ∧ 118 ≤ R.locals) (hf : cells ≤ R.cells ∧ slots ≤ R.slots) (hde : de ≤ 5) (kk : ∀ ov : Nat, (jBt (nI de) 0 5 && jBt (nI ov) 0 (if nI de = 4 then 0 else if nI de = 5 then 100 else 3)) = true → jJ p l e R s m args below meth c Q A g (va_S A s.heap) 17 cells slots 407 [(0, .ref x0), (1, .ref b), (2, .int 0), (3, .int 0), (4, .int (nI mm)), (5, .ref P), (6, .int (nI k)), (7, .int xr), (9, .ref q), (10, .int (nI sn)), (11, .int (nI i)), (12, .int y), (13, .int (nI lo)), (14, .int wi), (15, .int (nI de)), (16, .int (nI ov))] [] ws) : jJ p l e R s m args below meth c Q A g (va_S A s.heap) 17 cells slots 368 [(0, .ref x0), (1, .ref b), (2, .int 0), (3, .int 0), (4, .int (nI mm)), (5, .ref P), (6, .int (nI k)), (7, .int xr), (9, .ref q), (10, .int (nI sn)), (11, .int (nI i)), (12, .int y), (13, .int (nI lo)), (14, .int wi), (15, .int (nI de))] [] ws := by
  have at405 : ∀ ov : Nat, (jBt (nI de) 0 5 && jBt (nI ov) 0 (if nI de = 4 then 0 else if nI de = 5 then 100 else 3)) = true → jJ p l e R s m args below meth c Q A g (va_S A s.heap) 17 cells slots 405 [(0, .ref x0), (1, .ref b), (2, .int 0), (3, .int 0), (4, .int (nI mm)), (5, .ref P), (6, .int (nI k)), (7, .int xr), (9, .ref q), (10, .int (nI sn)), (11, .int (nI i)), (12, .int y), (13, .int (nI lo)), (14, .int wi), (15, .int (nI de))] [.int (nI ov)] ws := fun ov hov => by
    refine j_istore (L' := [(0, .ref x0), (1, .ref b), (2, .int 0), (3, .int 0), (4, .int (nI mm)), (5, .ref P), (6, .int (nI k)), (7, .int xr), (9, .ref q), (10, .int (nI sn)), (11, .int (nI i)), (12, .int y), (13, .int (nI lo)), (14, .int wi), (15, .int (nI de)), (16, .int (nI ov))]) C dL_build_405 (Nat.le_of_ble_eq_true rfl) rfl rfl ?_
    exact kk ov hov
  have h50 : jBt (nI de) 0 5 = true := jBt_of hde (by decide)
  refine j_iload 14 C dL_build_368 rfl ?_
  refine j_iconst (v := 4) C dL_build_370 rfl ?_
  refine j_icmp_ne (tgt := 378) C dL_build_371 (by decide) (fun h4 => ?_) (fun h4 => ?_)
  · skip
    refine j_iload 14 C dL_build_378 rfl ?_
    refine j_iconst (v := 5) C dL_build_380 rfl ?_
    refine j_icmp_ne (tgt := 396) C dL_build_381 (by decide) (fun h5 => ?_) (fun h5 => ?_)
    · skip
      refine j_iload 11 C dL_build_396 rfl ?_
      refine j_bipush (v := 8) C dL_build_398 rfl ?_
      refine j_ishr (v := y >>> ((8 : Int32) &&& 31)) C dL_build_400 rfl ?_
      refine j_iconst (v := 4) C dL_build_401 rfl ?_
      refine j_below 4 (by decide) (by decide) C K gL_build_L_below ⟨by omega, by omega⟩ dL_build_402 (Nat.le_of_ble_eq_true rfl) ⟨by omega, by omega⟩ (fun i1 hi1 => ?_)
      refine at405 i1 ?_
      rw [h50, if_neg h4, if_neg h5]; exact jBt_of (n := 3) (by omega) (by decide)
    · skip
      refine j_iload 11 C dL_build_384 rfl ?_
      refine j_bipush (v := 8) C dL_build_386 rfl ?_
      refine j_ishr (v := y >>> ((8 : Int32) &&& 31)) C dL_build_388 rfl ?_
      refine j_iconst (v := 3) C dL_build_389 rfl ?_
      refine j_below 3 (by decide) (by decide) C K gL_build_L_below ⟨by omega, by omega⟩ dL_build_390 (Nat.le_of_ble_eq_true rfl) ⟨by omega, by omega⟩ (fun i2 hi2 => ?_)
      refine j_goto (tgt := 405) C dL_build_393 (by decide) ?_
      refine at405 i2 ?_
      rw [h50, if_neg h4, if_pos h5]; exact jBt_of (n := 100) (by omega) (by decide)
  · skip
    refine j_iconst (v := 0) C dL_build_374 rfl ?_
    refine j_goto (tgt := 405) C dL_build_375 (by decide) ?_
    refine at405 0 ?_
    rw [h50, if_pos h4]; decide
set_option maxHeartbeats 4000000 in
theorem b_step {k mm P q sn i lo de ov Mq : Nat} {xr y wi : Int32} {T : Nat → Option Nat} {r Mr : Nat → Nat} {Fr : Nat → Nat → Int32} {Fq : Nat → Int32} (C : jC p s m args meth c cL_build wsL_build RL 17 A g) (K : jSc s b Ln xs A) (hR : 5 ≤ R.frames ∧ 118 ≤ R.locals) (hf : cells + 1 + 1 ≤ R.cells ∧ slots + 4 + 20 ≤ R.slots) (hlo : lo < 5) (hwi : (jBt wi (-100) 100 || jBt wi 1000 1003) = true) (hov : (jBt (nI de) 0 5 && jBt (nI ov) 0 (if nI de = 4 then 0 else if nI de = 5 then 100 else 3)) = true) (hi : i < 6) (hMq : Mq ≤ 16) (hw : bS g x0 len row vv lk k i w) (kk : ∀ (q9 : Nat) (F9 : Nat → Int32) (w' : va_W), (∀ x, x < Mq → F9 x = Fq x) → bS g x0 len row vv lk k (i + 1) w' → jJ p l e R s m args below meth c Q A g (va_S A s.heap) 17 (cells + 1 + 1) (slots + 4 + 20) 254 [(0, .ref x0), (1, .ref b), (2, .int 0), (3, .int 0), (4, .int (nI mm)), (5, .ref P), (6, .int (nI k)), (7, .int xr), (9, .ref q9), (10, .int (nI sn)), (11, .int (nI (i + 1)))] [] ((q9, jaI g (Mq + 4) F9) :: (P, jaR g k T) :: (jpl (jLF g r Mr Fr) k ++ w'))) : jJ p l e R s m args below meth c Q A g (va_S A s.heap) 17 cells slots 407 [(0, .ref x0), (1, .ref b), (2, .int 0), (3, .int 0), (4, .int (nI mm)), (5, .ref P), (6, .int (nI k)), (7, .int xr), (9, .ref q), (10, .int (nI sn)), (11, .int (nI i)), (12, .int y), (13, .int (nI lo)), (14, .int wi), (15, .int (nI de)), (16, .int (nI ov))] [] ((q, jaI g Mq Fq) :: (P, jaR g k T) :: (jpl (jLF g r Mr Fr) k ++ w)) := by
  refine j_aload_n 0 C dL_build_407 rfl rfl ?_
  refine j_iload_n 3 C dL_build_408 rfl rfl ?_
  refine j_iload 6 C dL_build_409 rfl ?_
  refine j_iload 12 C dL_build_411 rfl ?_
  refine j_iload 13 C dL_build_413 rfl ?_
  refine j_iload 14 C dL_build_415 rfl ?_
  refine j_iload 15 C dL_build_417 rfl ?_
  refine j_eq (pc' := 419) (L' := [(0, .ref x0), (1, .ref b), (2, .int 0), (3, .int 0), (4, .int (nI mm)), (5, .ref P), (6, .int (nI k)), (7, .int xr), (9, .ref q), (10, .int (nI sn)), (11, .int (nI i)), (12, .int y), (13, .int (nI lo)), (14, .int wi), (15, .int (nI de)), (16, .int (nI ov))]) (st' := [.int (nI ov), .int (nI de), .int wi, .int (nI lo), .int (nI k), .int 0, .ref x0]) (ws' := ((q, jaI g Mq Fq) :: (P, jaR g k T) :: jpl (jLF g r Mr Fr) k) ++ w) ?_ rfl rfl rfl rfl
  refine b_addStep (k := k) (i := i) C K hR ⟨by omega, by omega⟩ ?_ (by omega) hw (Nat.le_of_ble_eq_true rfl) (fun w' hw' => ?_)
  · rw [hov, hwi, show jBt (nI lo) 0 4 = true from jBt_of (n := 4) (by omega) (by decide)]; rfl
  refine j_iload 10 C dL_build_422 rfl ?_
  refine j_icmp_eq (tgt := 429) C dL_build_424 (by decide) (fun h3 => ?_) (fun h3 => ?_)
  · skip
    refine j_aload 8 C dL_build_429 rfl ?_
    refine j_iconst (v := 4) C dL_build_431 rfl ?_
    refine j_newaI (N := 4) C dL_build_432 (List.mem_of_getElem? (i := 2) rfl) rfl (by decide) ⟨by omega, by omega⟩ (fun v4 => ?_)
    refine j_perm (ws' := (v4, jaI g 4 (fun _ => 0)) :: (q, jaI g Mq Fq) :: (P, jaR g k T) :: (jpl (jLF g r Mr Fr) k ++ w')) (List.perm_append_singleton _ _).symm ?_
    refine j_dup C dL_build_434 rfl ?_
    refine j_iconst (v := 0) C dL_build_435 rfl ?_
    refine j_iload 12 C dL_build_436 rfl ?_
    refine j_iastN (x := 0) (ws' := (v4, jaI g 4 (upd (fun _ => 0) 0 (nI lo))) :: (q, jaI g Mq Fq) :: (P, jaR g k T) :: (jpl (jLF g r Mr Fr) k ++ w')) 0 C dL_build_438 rfl rfl (by decide) (by decide) rfl ?_
    refine j_dup C dL_build_439 rfl ?_
    refine j_iconst (v := 1) C dL_build_440 rfl ?_
    refine j_iload 13 C dL_build_441 rfl ?_
    refine j_iastN (x := 1) (ws' := (v4, jaI g 4 (upd (upd (fun _ => 0) 0 (nI lo)) 1 wi)) :: (q, jaI g Mq Fq) :: (P, jaR g k T) :: (jpl (jLF g r Mr Fr) k ++ w')) 0 C dL_build_443 rfl rfl (by decide) (by decide) rfl ?_
    refine j_dup C dL_build_444 rfl ?_
    refine j_iconst (v := 2) C dL_build_445 rfl ?_
    refine j_iload 14 C dL_build_446 rfl ?_
    refine j_iastN (x := 2) (ws' := (v4, jaI g 4 (upd (upd (upd (fun _ => 0) 0 (nI lo)) 1 wi) 2 (nI de))) :: (q, jaI g Mq Fq) :: (P, jaR g k T) :: (jpl (jLF g r Mr Fr) k ++ w')) 0 C dL_build_448 rfl rfl (by decide) (by decide) rfl ?_
    refine j_dup C dL_build_449 rfl ?_
    refine j_iconst (v := 3) C dL_build_450 rfl ?_
    refine j_iload 15 C dL_build_451 rfl ?_
    refine j_iastN (x := 3) (ws' := (v4, jaI g 4 (upd (upd (upd (upd (fun _ => 0) 0 (nI lo)) 1 wi) 2 (nI de)) 3 (nI ov))) :: (q, jaI g Mq Fq) :: (P, jaR g k T) :: (jpl (jLF g r Mr Fr) k ++ w')) 0 C dL_build_453 rfl rfl (by decide) (by decide) rfl ?_
    refine j_sS (Fx := (P, jaR g k T) :: (jpl (jLF g r Mr Fr) k ++ w')) (V := [(q, jaI g Mq Fq), (v4, jaI g 4 (upd (upd (upd (upd (fun _ => 0) 0 (nI lo)) 1 wi) 2 (nI de)) 3 (nI ov)))]) (As := [.ref q, .ref v4]) (rest := []) C K (c_L_more l g b Ln xs q v4 Mq Fq (upd (upd (upd (upd (fun _ => 0) 0 (nI lo)) 1 wi) 2 (nI de)) 3 (nI ov)) hMq) (fun o w h => by obtain ⟨q9, F9, h1, -⟩ := h; exact ⟨_, h1⟩) gL_build_L_more rfl hd_L_more ⟨by show 0 + 1 ≤ R.frames; omega, by show 8 + (4 + 11) + 0 ≤ R.locals; omega⟩ ?_ dL_build_454 rfl (Nat.le_of_ble_eq_true rfl) ⟨by show cells + 1 + 1 ≤ R.cells; omega, by show slots + 4 + 20 ≤ R.slots; omega⟩ (fun v9 w9 h => ?_)
    · exact (List.Perm.swap _ _ _).trans (List.perm_append_comm (l₁ := [(q, jaI g Mq Fq), (v4, jaI g 4 (upd (upd (upd (upd (fun _ => 0) 0 (nI lo)) 1 wi) 2 (nI de)) 3 (nI ov)))]))
    obtain ⟨q9, F9, h1, rfl, hF9⟩ := h
    cases h1
    refine j_keep (Z := [(q, jaI g Mq Fq), (v4, jaI g 4 (upd (upd (upd (upd (fun _ => 0) 0 (nI lo)) 1 wi) 2 (nI de)) 3 (nI ov)))]) (ws' := (q9, jaI g (Mq + 4) F9) :: (P, jaR g k T) :: (jpl (jLF g r Mr Fr) k ++ w')) ?_ ?_
    · exact (List.perm_append_comm (l₂ := [(q, jaI g Mq Fq), (v4, jaI g 4 (upd (upd (upd (upd (fun _ => 0) 0 (nI lo)) 1 wi) 2 (nI de)) 3 (nI ov))), (q9, jaI g (Mq + 4) F9)]))
    refine j_astore (L' := [(0, .ref x0), (1, .ref b), (2, .int 0), (3, .int 0), (4, .int (nI mm)), (5, .ref P), (6, .int (nI k)), (7, .int xr), (9, .ref q9), (10, .int (nI sn)), (11, .int (nI i)), (12, .int y), (13, .int (nI lo)), (14, .int wi), (15, .int (nI de)), (16, .int (nI ov))]) C dL_build_457 (Nat.le_of_ble_eq_true rfl) rfl rfl ?_
    refine j_pick (L' := [(0, .ref x0), (1, .ref b), (2, .int 0), (3, .int 0), (4, .int (nI mm)), (5, .ref P), (6, .int (nI k)), (7, .int xr), (9, .ref q9), (10, .int (nI sn)), (11, .int (nI i))]) [0, 1, 2, 3, 4, 5, 6, 7, 8, 9, 10] rfl ?_
    refine j_iinc (v := nI (i + 1)) (L' := [(0, .ref x0), (1, .ref b), (2, .int 0), (3, .int 0), (4, .int (nI mm)), (5, .ref P), (6, .int (nI k)), (7, .int xr), (9, .ref q9), (10, .int (nI sn)), (11, .int (nI (i + 1)))]) 10 C dL_build_459 rfl (nI_add i 1) (Nat.le_of_ble_eq_true rfl) rfl rfl ?_
    refine j_goto (tgt := 254) C dL_build_462 (by decide) ?_
    exact kk q9 F9 w' hF9 hw'
  · skip
    exact absurd rfl h3
set_option maxHeartbeats 4000000 in
theorem b_steps {k mm P sn cE sE : Nat} {xr : Int32} {T : Nat → Option Nat} {r Mr : Nat → Nat} {Fr : Nat → Nat → Int32} (C : jC p s m args meth c cL_build wsL_build RL 17 A g) (K : jSc s b Ln xs A) (hR : 5 ≤ R.frames ∧ 118 ≤ R.locals) (hE : cE ≤ R.cells ∧ sE ≤ R.slots) (hsn : sn ≤ 3) (kk : ∀ (q' M' : Nat) (F' : Nat → Int32) (w' : va_W), bGd M' F' → M' ≤ 15 → bW g x0 len row vv lk (k + 1) w' → jJ p l e R s m args below meth c Q A g (va_S A s.heap) 17 cE sE 465 [(0, .ref x0), (1, .ref b), (2, .int 0), (3, .int 0), (4, .int (nI mm)), (5, .ref P), (6, .int (nI k)), (7, .int xr), (9, .ref q')] [] ((q', jaI g M' F') :: (P, jaR g k T) :: (jpl (jLF g r Mr Fr) k ++ w'))) : ∀ (rr i q Mq cells slots : Nat) (Fq : Nat → Int32) (w : va_W), i + rr = sn → Mq = 3 + 4 * i → bGd Mq Fq → bS g x0 len row vv lk k i w → cells + 2 * rr ≤ cE → slots + 24 * rr ≤ sE → jJ p l e R s m args below meth c Q A g (va_S A s.heap) 17 cells slots 254 [(0, .ref x0), (1, .ref b), (2, .int 0), (3, .int 0), (4, .int (nI mm)), (5, .ref P), (6, .int (nI k)), (7, .int xr), (9, .ref q), (10, .int (nI sn)), (11, .int (nI i))] [] ((q, jaI g Mq Fq) :: (P, jaR g k T) :: (jpl (jLF g r Mr Fr) k ++ w))
  | 0, i, q, Mq, cells, slots, Fq, w, hr, hM, hG, hw, h1, h2 => by
    refine j_iload 10 C dL_build_254 rfl ?_
    refine j_iload 9 C dL_build_256 rfl ?_
    refine j_icmp_ge (tgt := 465) C dL_build_258 (by decide) (fun h => ?_) (fun h => ?_)
    · skip
      refine j_pick (L' := [(0, .ref x0), (1, .ref b), (2, .int 0), (3, .int 0), (4, .int (nI mm)), (5, .ref P), (6, .int (nI k)), (7, .int xr), (9, .ref q)]) [0, 1, 2, 3, 4, 5, 6, 7, 8] rfl ?_
      obtain ⟨pn, pf, a1, a2, a3, -⟩ := hw
      exact j_widen (by omega) (by omega) (kk q Mq Fq w hG (by omega) ⟨pn, pf, a1, a2, a3⟩)
    · skip
      exact absurd ((nI_leI (by omega) (by omega)).mpr (show sn ≤ i by omega)) h
  | rr + 1, i, q, Mq, cells, slots, Fq, w, hr, hM, hG, hw, h1, h2 => by
    refine j_iload 10 C dL_build_254 rfl ?_
    refine j_iload 9 C dL_build_256 rfl ?_
    refine j_icmp_ge (tgt := 465) C dL_build_258 (by decide) (fun h => ?_) (fun h => ?_)
    · skip
      exact absurd ((nI_leI (by omega) (by omega)).mp h) (by omega)
    · skip
      refine b_look C K hR ⟨by omega, by omega⟩ (fun y lo hlo => ?_)
      refine b_with C K hR ⟨by omega, by omega⟩ (fun wi hwi => ?_)
      refine b_deed C K hR ⟨by omega, by omega⟩ (fun de hde => ?_)
      refine b_of C K hR ⟨by omega, by omega⟩ hde (fun ov hov => ?_)
      refine b_step C K hR ⟨by omega, by omega⟩ hlo hwi hov (by omega) (by omega) hw (fun q9 F9 w' hF9 hw' => ?_)
      exact b_steps C K hR hE hsn kk rr (i + 1) q9 (Mq + 4) _ _ F9 w' (by omega) (by omega) (bGd_more hG hF9) hw' (by omega) (by omega)
theorem jBp {α : Type} {a v qq : α} {X w : List α} : (v :: qq :: a :: (X ++ w)).Perm (w ++ (a :: v :: (X ++ [qq]))) := by
  refine List.Perm.trans ?_ (List.perm_append_comm (l₁ := a :: v :: (X ++ [qq])) (l₂ := w))
  show (v :: qq :: a :: (X ++ w)).Perm (a :: v :: ((X ++ [qq]) ++ w))
  rw [List.append_assoc]
  refine List.Perm.trans (List.Perm.cons v (List.Perm.swap a qq _)) ?_
  refine List.Perm.trans (List.Perm.swap a v _) ?_
  exact List.Perm.cons a (List.Perm.cons v (List.perm_middle (a := qq) (l₁ := X) (l₂ := w)).symm)
theorem jBp2 {α : Type} {a v qq : α} {X w : List α} : (w ++ (qq :: a :: v :: X)).Perm ([a, v] ++ (qq :: (X ++ w))) := by
  refine (List.perm_append_comm (l₁ := w) (l₂ := qq :: a :: v :: X)).trans ?_
  show (qq :: a :: v :: (X ++ w)).Perm (a :: v :: qq :: (X ++ w))
  exact (List.Perm.swap a qq _).trans (List.Perm.cons a (List.Perm.swap v qq _))
set_option maxHeartbeats 4000000 in
theorem b_put {k mm P q Mq : Nat} {xr : Int32} {T : Nat → Option Nat} {r Mr : Nat → Nat} {Fr : Nat → Nat → Int32} {Fq : Nat → Int32} (C : jC p s m args meth c cL_build wsL_build RL 17 A g) (K : jSc s b Ln xs A) (hR : 5 ≤ R.frames ∧ 118 ≤ R.locals) (hf : cells + 1 + 1 ≤ R.cells ∧ slots + 1 + 5 ≤ R.slots) (hk4 : k ≤ 4) (hT : ∀ i, i < k → T i = some (r i)) (kk : ∀ (P9 : Nat) (T9 : Nat → Option Nat), (∀ i, i < k + 1 → T9 i = some (up1 r k q i)) → jJ p l e R s m args below meth c Q A g (va_S A s.heap) 17 (cells + 1 + 1) (slots + 1 + 5) 32 [(0, .ref x0), (1, .ref b), (2, .int 0), (3, .int 0), (4, .int (nI mm)), (5, .ref P9), (6, .int (nI (k + 1)))] [] ((P9, jaR g (k + 1) T9) :: (jpl (jLF g (up1 r k q) (up1 Mr k Mq) (up1 Fr k Fq)) (k + 1) ++ w))) : jJ p l e R s m args below meth c Q A g (va_S A s.heap) 17 cells slots 465 [(0, .ref x0), (1, .ref b), (2, .int 0), (3, .int 0), (4, .int (nI mm)), (5, .ref P), (6, .int (nI k)), (7, .int xr), (9, .ref q)] [] ((q, jaI g Mq Fq) :: (P, jaR g k T) :: (jpl (jLF g r Mr Fr) k ++ w)) := by
  refine j_aload 5 C dL_build_465 rfl ?_
  refine j_iload 6 C dL_build_467 rfl ?_
  refine j_iconst (v := 0) C dL_build_469 rfl ?_
  refine j_iconst (v := 1) C dL_build_470 rfl ?_
  refine j_anewR (N := 1) C K.1 dL_build_471 (List.mem_of_getElem? (i := 1) rfl) rfl (by decide) ⟨by omega, by omega⟩ (fun v1 => ?_)
  refine j_perm (ws' := (v1, jaR g 1 (fun _ => none)) :: (q, jaI g Mq Fq) :: (P, jaR g k T) :: (jpl (jLF g r Mr Fr) k ++ w)) (List.perm_append_singleton _ _).symm ?_
  refine j_dup C dL_build_474 rfl ?_
  refine j_iconst (v := 0) C dL_build_475 rfl ?_
  refine j_aload 8 C dL_build_476 rfl ?_
  refine j_astR (x := 0) (N := Mq) (fv := Fq) (ws' := (v1, jaR g 1 (va_up (fun _ => none) 0 (some q))) :: (q, jaI g Mq Fq) :: (P, jaR g k T) :: (jpl (jLF g r Mr Fr) k ++ w)) 0 1 C K.1 dL_build_478 rfl rfl rfl (by decide) (by decide) rfl ?_
  have hpool : jpl (jLF g r Mr Fr) k ++ [(q, jaI g Mq Fq)] = jpl (jLF g (up1 r k q) (up1 Mr k Mq) (up1 Fr k Fq)) (k + 1) := by
    have h9 := jpl_succ (jLF g (up1 r k q) (up1 Mr k Mq) (up1 Fr k Fq)) k
    rw [← h9, jpl_cong (F := jLF g (up1 r k q) (up1 Mr k Mq) (up1 Fr k Fq)) (F' := jLF g r Mr Fr) (fun i hi => by show (up1 r k q i, jaI g (up1 Mr k Mq i) (up1 Fr k Fq i)) = (r i, jaI g (Mr i) (Fr i)); rw [up1_ne (by omega), up1_ne (by omega), up1_ne (by omega)])]
    show _ = _ ++ [(up1 r k q k, jaI g (up1 Mr k Mq k) (up1 Fr k Fq k))]
    rw [up1_eq, up1_eq, up1_eq]
  refine j_sS (Fx := w) (V := (P, jaR g k T) :: (v1, jaR g 1 (va_up (fun _ => none) 0 (some q))) :: jpl (jLF g (up1 r k q) (up1 Mr k Mq) (up1 Fr k Fq)) (k + 1)) (As := [.ref P, .int (nI k), .int 0, .ref v1]) (rest := []) C K (c_L_with l g b Ln xs P v1 k T (va_up (fun _ => none) 0 (some q)) (up1 r k q) (up1 Mr k Mq) (up1 Fr k Fq) hk4 (fun i hi => by rw [up1_ne (by omega)]; exact hT i hi) (by rw [up1_eq]; rfl)) (fun o w h => by obtain ⟨q9, T9, h1, -⟩ := h; exact ⟨_, h1⟩) gL_build_L_with rfl hd_L_with ⟨by show 0 + 1 ≤ R.frames; omega, by show 8 + (6 + 11) + 0 ≤ R.locals; omega⟩ ?_ dL_build_479 rfl (Nat.le_of_ble_eq_true rfl) ⟨by show cells + 1 + 1 ≤ R.cells; omega, by show slots + 1 + 5 ≤ R.slots; omega⟩ (fun v9 w9 h => ?_)
  · rw [← hpool]
    exact jBp
  obtain ⟨P9, T9, h1, rfl, hT9⟩ := h
  cases h1
  refine j_keep (Z := [(P, jaR g k T), (v1, jaR g 1 (va_up (fun _ => none) 0 (some q)))]) (ws' := (P9, jaR g (k + 1) T9) :: (jpl (jLF g (up1 r k q) (up1 Mr k Mq) (up1 Fr k Fq)) (k + 1) ++ w)) jBp2 ?_
  refine j_astore (L' := [(0, .ref x0), (1, .ref b), (2, .int 0), (3, .int 0), (4, .int (nI mm)), (5, .ref P9), (6, .int (nI k)), (7, .int xr), (9, .ref q)]) C dL_build_482 (Nat.le_of_ble_eq_true rfl) rfl rfl ?_
  refine j_pick (L' := [(0, .ref x0), (1, .ref b), (2, .int 0), (3, .int 0), (4, .int (nI mm)), (5, .ref P9), (6, .int (nI k))]) [0, 1, 2, 3, 4, 5, 6] rfl ?_
  refine j_iinc (v := nI (k + 1)) (L' := [(0, .ref x0), (1, .ref b), (2, .int 0), (3, .int 0), (4, .int (nI mm)), (5, .ref P9), (6, .int (nI (k + 1)))]) 6 C dL_build_484 rfl (nI_add k 1) (Nat.le_of_ble_eq_true rfl) rfl rfl ?_
  refine j_goto (tgt := 32) C dL_build_487 (by decide) ?_
  exact kk P9 T9 hT9
set_option maxHeartbeats 4000000 in
theorem b_loops {mm cE sE : Nat} (C : jC p s m args meth c cL_build wsL_build RL 17 A g) (K : jSc s b Ln xs A) (hR : 5 ≤ R.frames ∧ 118 ≤ R.locals) (hLn : Ln < 2 ^ 30) (hE : cE ≤ R.cells ∧ sE ≤ R.slots) (hmm : mm ≤ 4) (kk : ∀ (P' k' : Nat) (T' : Nat → Option Nat) (Z' w' : va_W), bW g x0 len row vv lk k' w' → jJ p l e R s m args below meth c Q A g (va_S A s.heap) 17 cE sE 490 [(5, .ref P')] [] ((P', jaR g k' T') :: (Z' ++ w'))) : ∀ (rr k P cells slots : Nat) (T : Nat → Option Nat) (r Mr : Nat → Nat) (Fr : Nat → Nat → Int32) (w : va_W), k + rr = mm → (∀ i, i < k → T i = some (r i)) → (∀ i, i < k → bGd (Mr i) (Fr i)) → (∀ i, i < k → Mr i ≤ 1000) → bW g x0 len row vv lk k w → cells + 9 * rr ≤ cE → slots + 81 * rr ≤ sE → jJ p l e R s m args below meth c Q A g (va_S A s.heap) 17 cells slots 32 [(0, .ref x0), (1, .ref b), (2, .int 0), (3, .int 0), (4, .int (nI mm)), (5, .ref P), (6, .int (nI k))] [] ((P, jaR g k T) :: (jpl (jLF g r Mr Fr) k ++ w))
  | 0, k, P, cells, slots, T, r, Mr, Fr, w, hr, hT, hG, hM, hw, h1, h2 => by
    refine j_iload 6 C dL_build_32 rfl ?_
    refine j_iload 4 C dL_build_34 rfl ?_
    refine j_icmp_ge (tgt := 490) C dL_build_36 (by decide) (fun h => ?_) (fun h => ?_)
    · skip
      refine j_pick (L' := [(5, .ref P)]) [5] rfl ?_
      exact j_widen (by omega) (by omega) (kk P k T (jpl (jLF g r Mr Fr) k) w hw)
    · skip
      exact absurd ((nI_leI (by omega) (by omega)).mpr (show mm ≤ k by omega)) h
  | rr + 1, k, P, cells, slots, T, r, Mr, Fr, w, hr, hT, hG, hM, hw, h1, h2 => by
    refine j_iload 6 C dL_build_32 rfl ?_
    refine j_iload 4 C dL_build_34 rfl ?_
    refine j_icmp_ge (tgt := 490) C dL_build_36 (by decide) (fun h => ?_) (fun h => ?_)
    · skip
      exact absurd ((nI_leI (by omega) (by omega)).mp h) (by omega)
    · skip
      refine j_aload_n 1 C dL_build_39 rfl rfl ?_
      refine j_iload_n 2 C dL_build_40 rfl rfl ?_
      refine j_iconst (v := 1) C dL_build_41 rfl ?_
      refine j_iadd (v := nI (0 + 1)) C dL_build_42 (nI_add 0 1) ?_
      refine j_iload 6 C dL_build_43 rfl ?_
      refine j_iadd (v := nI (0 + 1 + k)) C dL_build_45 (nI_add (0 + 1) k) ?_
      refine j_scell (0 + 1 + k) (by omega) hLn rfl C K gL_build_L_cell ⟨by omega, by omega⟩ dL_build_46 (Nat.le_of_ble_eq_true rfl) ⟨by omega, by omega⟩ (fun xr => ?_)
      refine j_istore (L' := [(0, .ref x0), (1, .ref b), (2, .int 0), (3, .int 0), (4, .int (nI mm)), (5, .ref P), (6, .int (nI k)), (7, .int xr)]) C dL_build_49 (Nat.le_of_ble_eq_true rfl) rfl rfl ?_
      refine b_new C K hR ⟨by omega, by omega⟩ (by omega) hT hG hM (fun q F3 hF3 => ?_)
      refine b_loop C K hR ⟨by omega, by omega⟩ (by omega) hF3 hw (fun w' hw' => ?_)
      refine b_count C K hR ⟨by omega, by omega⟩ (fun sn hsn => ?_)
      refine b_steps (cE := cells + 1 + 6) (sE := slots + 3 + 72) C K hR ⟨by omega, by omega⟩ hsn (fun q2 M2 F2 w2 hG2 hM2 hw2 => ?_) sn 0 q 3 _ _ F3 w' (by omega) rfl hF3 hw' (by omega) (by omega)
      refine b_put C K hR ⟨by omega, by omega⟩ (by omega) hT (fun P9 T9 hT9 => ?_)
      refine b_loops C K hR hLn hE hmm kk rr (k + 1) P9 _ _ T9 _ _ _ w2 (by omega) hT9 (fun i hi => ?_) (fun i hi => ?_) hw2 (by omega) (by omega)
      · by_cases z : i = k
        · rw [z, up1_eq, up1_eq]; exact hG2
        · rw [up1_ne z, up1_ne z]; exact hG i (by omega)
      · by_cases z : i = k
        · rw [z, up1_eq]; omega
        · rw [up1_ne z]; exact hM i (by omega)
end BUILD
set_option maxHeartbeats 4000000 in
theorem c_L_build (l : Launch) (g : jG) (b Ln : Nat) (xs : Nat → Int32) (hLn : Ln < 2 ^ 30) (x0 len : Nat) (pn : Nat → Nat) (pf : Nat → Nat → Int32) (row vv : Nat → Int64) (lk : Int32) (W : va_W) (hok : jMok 0 pn pf len) (hc : jCW g x0 0 pn pf len row vv lk W) : jOs l yL_build wsL_build ({ frames := 5, cells := 40, slots := 600, locals := 118 }) g b Ln xs [.ref x0, .ref b, .int 0, .int 0] W (fun o w => (∃ q : Nat, o = .returned (some (.ref q))) ∧ ∃ (pn' : Nat → Nat) (pf' : Nat → Nat → Int32), jMok 1 pn' pf' len ∧ jCW g x0 1 pn' pf' len row vv lk w) := by
  refine j_enterS (cc := cL_build) (maxL := 17) (ret := (some (.array (.array .int)))) (own := RL) (L := [(0, .ref x0), (1, .ref b), (2, .int 0), (3, .int 0)]) (by decide) rfl rfl (Nat.le_of_ble_eq_true rfl) rfl (fun p e s m args below meth c C hr K => ?_)
  have hR : 5 ≤ (headSpec wsL_build ({ frames := 5, cells := 40, slots := 600, locals := 118 } : Room)).room.frames ∧ 118 ≤ (headSpec wsL_build ({ frames := 5, cells := 40, slots := 600, locals := 118 } : Room)).room.locals := ⟨Nat.le_refl _, Nat.le_refl _⟩
  have hE : 40 ≤ (headSpec wsL_build ({ frames := 5, cells := 40, slots := 600, locals := 118 } : Room)).room.cells ∧ 600 ≤ (headSpec wsL_build ({ frames := 5, cells := 40, slots := 600, locals := 118 } : Room)).room.slots := ⟨Nat.le_refl _, Nat.le_refl _⟩
  refine j_aload_n 0 C dL_build_0 rfl rfl ?_
  refine j_oV (Fx := []) (V := W) (As := []) (rest := []) (n := 3) (T := TX4) (N := 8) C (q_addProgram hok hc (by decide)) gL_build_X4_addProgram rfl hl_addProgram ⟨Nat.le_of_ble_eq_true rfl, Nat.le_of_ble_eq_true rfl⟩ (List.Perm.refl _) (jCW_x0 hc) rfl dL_build_1 rfl (Nat.le_of_ble_eq_true rfl) ⟨Nat.le_of_ble_eq_true rfl, Nat.le_of_ble_eq_true rfl⟩ rfl (fun w hc1 => ?_)
  have hw : bW g x0 len row vv lk 0 w := ⟨_, _, jMok_g hok (by decide) jOk_0, hc1, up1_eq⟩
  refine j_widen (k := 2) (n := 226) (Nat.le_refl _) (Nat.le_refl _) ?_
  show jJ p l e _ s m args below meth c _ _ g _ 17 2 226 4 [(0, .ref x0), (1, .ref b), (2, .int 0), (3, .int 0)] [.int (nI 0)] w
  refine j_iload_n 3 C dL_build_4 rfl rfl ?_
  refine j_icmp_eq (tgt := 10) C dL_build_5 (by decide) (fun h => ?_) (fun h => absurd rfl h)
  refine j_iconst (v := 1) C dL_build_10 rfl ?_
  refine j_aload_n 1 C dL_build_11 rfl rfl ?_
  refine j_iload_n 2 C dL_build_12 rfl rfl ?_
  refine j_scell 0 (by decide) hLn rfl C K gL_build_L_cell ⟨Nat.le_of_ble_eq_true rfl, Nat.le_of_ble_eq_true rfl⟩ dL_build_13 (Nat.le_of_ble_eq_true rfl) ⟨Nat.le_of_ble_eq_true rfl, Nat.le_of_ble_eq_true rfl⟩ (fun r0 => ?_)
  refine j_iconst (v := 4) C dL_build_16 rfl ?_
  refine j_below 4 (by decide) (by decide) C K gL_build_L_below ⟨Nat.le_of_ble_eq_true rfl, Nat.le_of_ble_eq_true rfl⟩ dL_build_17 (Nat.le_of_ble_eq_true rfl) ⟨Nat.le_of_ble_eq_true rfl, Nat.le_of_ble_eq_true rfl⟩ (fun i0 hi0 => ?_)
  refine j_iadd (v := nI (1 + i0)) C dL_build_20 (nI_add 1 i0) ?_
  refine j_istore (L' := [(0, .ref x0), (1, .ref b), (2, .int 0), (3, .int 0), (4, .int (nI (1 + i0)))]) C dL_build_21 (Nat.le_of_ble_eq_true rfl) rfl rfl ?_
  refine j_iconst (v := 0) C dL_build_23 rfl ?_
  refine j_anewR (N := 0) C K.1 dL_build_24 (List.mem_of_getElem? (i := 1) rfl) rfl (by decide) ⟨Nat.le_of_ble_eq_true rfl, Nat.le_of_ble_eq_true rfl⟩ (fun P => ?_)
  refine j_perm (ws' := (P, jaR g 0 (fun _ => none)) :: (jpl (jLF g (fun _ => 0) (fun _ => 0) (fun _ _ => 0)) 0 ++ w)) (List.perm_append_singleton _ _).symm ?_
  refine j_astore (L' := [(0, .ref x0), (1, .ref b), (2, .int 0), (3, .int 0), (4, .int (nI (1 + i0))), (5, .ref P)]) C dL_build_27 (Nat.le_of_ble_eq_true rfl) rfl rfl ?_
  refine j_iconst (v := 0) C dL_build_29 rfl ?_
  refine j_istore (L' := [(0, .ref x0), (1, .ref b), (2, .int 0), (3, .int 0), (4, .int (nI (1 + i0))), (5, .ref P), (6, .int (nI 0))]) C dL_build_30 (Nat.le_of_ble_eq_true rfl) rfl rfl ?_
  refine b_loops (cE := 40) (sE := 600) C K hR hLn hE (by omega) (fun P' k' T' Z' w' hw' => ?_) (1 + i0) 0 P _ _ _ _ _ _ w (by omega) (fun i hi => absurd hi (Nat.not_lt_zero _)) (fun i hi => absurd hi (Nat.not_lt_zero _)) (fun i hi => absurd hi (Nat.not_lt_zero _)) hw (by omega) (by omega)
  refine j_aload 0 C dL_build_490 rfl ?_
  refine j_keep (Z := (P', jaR g k' T') :: Z') (ws' := w') (List.Perm.refl _) ?_
  obtain ⟨pn', pf', a1, a2, -⟩ := hw'
  exact j_aretS C hr (Or.inr ⟨_, rfl⟩) dL_build_492 ⟨⟨P', rfl⟩, pn', pf', a1, a2⟩
