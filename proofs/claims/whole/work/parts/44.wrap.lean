/-! LAW 3: the wrappers that call the class and catch what it throws -/
theorem hdL_X4_addProgram : yX4_addProgram.cls = RX4 ∧ yX4_addProgram.cls ≠ "java/lang/invoke/MethodHandle" ∧ yX4_addProgram.cls ≠ "java/lang/invoke/VarHandle" ∧ (parseMethodDescriptor yX4_addProgram.desc).map (fun d => d.parameters.length) = some 0 := by decide +kernel
theorem L_addProgram_g {l : Launch} {g : jG} {x0 out : Nat}  {o : Nat → Int64} {W : va_W} {rm : Room} {v : Int32} {Good : va_W → Prop} (hM : jO l yX4_addProgram wsX4_addProgram rm g [.ref x0] W (jOi v) Good) (hR : rm.frames + 1 ≤ 10 ∧ 8 + (1 + 11) + rm.locals ≤ 420) (hx : ∃ (i : Nat) (fs : List Value), W[i]? = some (x0, (.inr (3, fs) : va_E))) : jO l yL_addProgram wsL_addProgram ({ frames := 10, cells := rm.cells, slots := rm.slots, locals := 420 } : Room) g [.ref x0, .ref out] ((out, jaL g 1 o) :: W) (jOi 0) (fun w => ∃ w1, Good w1 ∧ w = (out, jaL g 1 (vp_updL o 0 v.toInt64)) :: w1) := by
  refine j_enterH (rm := ({ frames := 10, cells := rm.cells, slots := rm.slots, locals := 420 } : Room)) (cc := cL_addProgram) (maxL := 3) (ret := some .int) (hh := [(0, 8, 11, 13)]) (own := RL) (L := [(0, .ref x0), (1, .ref out)]) (by decide +kernel) rfl rfl (Nat.le_of_ble_eq_true rfl) rfl ?_
  intro p e s m args below meth c C hr htab hX hZ hN
  refine j_aload_n 1 C dL_addProgram_0 rfl rfl ?_
  refine j_iconst (v := 0) C dL_addProgram_1 rfl ?_
  refine j_aload_n 0 C dL_addProgram_2 rfl rfl ?_
  refine j_oV (As := []) (Fx := [(out, jaL g 1 o)]) (V := W) (rest := [.int 0, .ref out]) (v := .int v) (Cn := RX4) C hX hZ hN hM gL_addProgram_X4_addProgram rfl hdL_X4_addProgram hR (List.Perm.refl _) hx (N := 8) (T := TX4) rfl dL_addProgram_3 rfl (Nat.le_of_ble_eq_true rfl) ⟨Nat.le_of_eq (Nat.zero_add _), Nat.le_of_eq (Nat.zero_add _)⟩ rfl (fun w hw => ?_)
  refine j_i2l C dL_addProgram_6 rfl ?_
  refine j_lastN (x := 0) 0 C dL_addProgram_7 rfl rfl (by decide) (by decide) rfl ?_
  refine j_goto (tgt := 14) C dL_addProgram_8 rfl ?_
  refine j_iconst (v := 0) C dL_addProgram_14 rfl ?_
  refine j_widen (Nat.le_of_eq (Nat.zero_add _)) (Nat.le_of_eq (Nat.zero_add _)) ?_
  exact j_iretO C hr dL_addProgram_15 ⟨w, hw, rfl⟩
theorem L_addProgram_x1 {l : Launch} {g : jG} {x0 out : Nat}  {o : Nat → Int64} {W : va_W} {rm : Room} (hM : jOx l yX4_addProgram wsX4_addProgram rm g [.ref x0] W "java/lang/IllegalStateException") (hR : rm.frames + 1 ≤ 10 ∧ 8 + (1 + 11) + rm.locals ≤ 420) (hx : ∃ (i : Nat) (fs : List Value), W[i]? = some (x0, (.inr (3, fs) : va_E))) : jO l yL_addProgram wsL_addProgram ({ frames := 10, cells := rm.cells, slots := rm.slots, locals := 420 } : Room) g [.ref x0, .ref out] ((out, jaL g 1 o) :: W) (jOi 1) (fun w => w = (out, jaL g 1 o) :: W) := by
  refine j_enterH (rm := ({ frames := 10, cells := rm.cells, slots := rm.slots, locals := 420 } : Room)) (cc := cL_addProgram) (maxL := 3) (ret := some .int) (hh := [(0, 8, 11, 13)]) (own := RL) (L := [(0, .ref x0), (1, .ref out)]) (by decide +kernel) rfl rfl (Nat.le_of_ble_eq_true rfl) rfl ?_
  intro p e s m args below meth c C hr htab hX hZ hN
  refine j_aload_n 1 C dL_addProgram_0 rfl rfl ?_
  refine j_iconst (v := 0) C dL_addProgram_1 rfl ?_
  refine j_aload_n 0 C dL_addProgram_2 rfl rfl ?_
  refine j_oX (As := []) (Fx := [(out, jaL g 1 o)]) (V := W) (rest := [.int 0, .ref out]) (E := "java/lang/IllegalStateException") (Cn := RX4) [] (⟨0, 8, 11, 13⟩ : ExceptionTableEntry) [] C hX hZ hN hM gL_addProgram_X4_addProgram rfl hdL_X4_addProgram hR (List.Perm.refl _) hx (N := 8) (T := TX4) rfl dL_addProgram_3 rfl (Nat.le_of_ble_eq_true rfl) ⟨Nat.le_of_eq (Nat.zero_add _), Nat.le_of_eq (Nat.zero_add _)⟩ htab (fun _ h => absurd h List.not_mem_nil) (by decide) (by decide) (List.mem_of_getElem? (i := 1) rfl) (by decide) (fun q => ?_)
  refine j_astore_n C dL_addProgram_11 rfl (by decide) rfl rfl ?_
  refine j_iconst (v := 1) C dL_addProgram_12 rfl ?_
  refine j_widen (Nat.le_of_eq (Nat.zero_add _)) (Nat.le_of_eq (Nat.zero_add _)) ?_
  exact j_iretO C hr dL_addProgram_13 rfl
theorem hdL_X4_addLoop : yX4_addLoop.cls = RX4 ∧ yX4_addLoop.cls ≠ "java/lang/invoke/MethodHandle" ∧ yX4_addLoop.cls ≠ "java/lang/invoke/VarHandle" ∧ (parseMethodDescriptor yX4_addLoop.desc).map (fun d => d.parameters.length) = some 4 := by decide +kernel
theorem L_addLoop_g {l : Launch} {g : jG} {x0 out : Nat} {a1 : Int32} {a2 : Int32} {a3 : Int32} {a4 : Int32} {o : Nat → Int64} {W : va_W} {rm : Room} {v : Int32} {Good : va_W → Prop} (hM : jO l yX4_addLoop wsX4_addLoop rm g [.ref x0, .int a1, .int a2, .int a3, .int a4] W (jOi v) Good) (hR : rm.frames + 1 ≤ 10 ∧ 8 + (6 + 11) + rm.locals ≤ 420) (hx : ∃ (i : Nat) (fs : List Value), W[i]? = some (x0, (.inr (3, fs) : va_E))) : jO l yL_addLoop wsL_addLoop ({ frames := 10, cells := rm.cells, slots := rm.slots, locals := 420 } : Room) g [.ref x0, .int a1, .int a2, .int a3, .int a4, .ref out] ((out, jaL g 1 o) :: W) (jOi 0) (fun w => ∃ w1, Good w1 ∧ w = (out, jaL g 1 (vp_updL o 0 v.toInt64)) :: w1) := by
  refine j_enterH (rm := ({ frames := 10, cells := rm.cells, slots := rm.slots, locals := 420 } : Room)) (cc := cL_addLoop) (maxL := 7) (ret := some .int) (hh := [(0, 14, 17, 19), (0, 14, 21, 21), (0, 14, 25, 13)]) (own := RL) (L := [(0, .ref x0), (1, .int a1), (2, .int a2), (3, .int a3), (4, .int a4), (5, .ref out)]) (by decide +kernel) rfl rfl (Nat.le_of_ble_eq_true rfl) rfl ?_
  intro p e s m args below meth c C hr htab hX hZ hN
  refine j_aload 5 C dL_addLoop_0 rfl ?_
  refine j_iconst (v := 0) C dL_addLoop_2 rfl ?_
  refine j_aload_n 0 C dL_addLoop_3 rfl rfl ?_
  refine j_iload_n 1 C dL_addLoop_4 rfl rfl ?_
  refine j_iload_n 2 C dL_addLoop_5 rfl rfl ?_
  refine j_iload_n 3 C dL_addLoop_6 rfl rfl ?_
  refine j_iload 4 C dL_addLoop_7 rfl ?_
  refine j_oV (As := [.int a1, .int a2, .int a3, .int a4]) (Fx := [(out, jaL g 1 o)]) (V := W) (rest := [.int 0, .ref out]) (v := .int v) (Cn := RX4) C hX hZ hN hM gL_addLoop_X4_addLoop rfl hdL_X4_addLoop hR (List.Perm.refl _) hx (N := 8) (T := TX4) rfl dL_addLoop_9 rfl (Nat.le_of_ble_eq_true rfl) ⟨Nat.le_of_eq (Nat.zero_add _), Nat.le_of_eq (Nat.zero_add _)⟩ rfl (fun w hw => ?_)
  refine j_i2l C dL_addLoop_12 rfl ?_
  refine j_lastN (x := 0) 0 C dL_addLoop_13 rfl rfl (by decide) (by decide) rfl ?_
  refine j_goto (tgt := 29) C dL_addLoop_14 rfl ?_
  refine j_iconst (v := 0) C dL_addLoop_29 rfl ?_
  refine j_widen (Nat.le_of_eq (Nat.zero_add _)) (Nat.le_of_eq (Nat.zero_add _)) ?_
  exact j_iretO C hr dL_addLoop_30 ⟨w, hw, rfl⟩
theorem L_addLoop_x1 {l : Launch} {g : jG} {x0 out : Nat} {a1 : Int32} {a2 : Int32} {a3 : Int32} {a4 : Int32} {o : Nat → Int64} {W : va_W} {rm : Room} (hM : jOx l yX4_addLoop wsX4_addLoop rm g [.ref x0, .int a1, .int a2, .int a3, .int a4] W "java/lang/IndexOutOfBoundsException") (hR : rm.frames + 1 ≤ 10 ∧ 8 + (6 + 11) + rm.locals ≤ 420) (hx : ∃ (i : Nat) (fs : List Value), W[i]? = some (x0, (.inr (3, fs) : va_E))) : jO l yL_addLoop wsL_addLoop ({ frames := 10, cells := rm.cells, slots := rm.slots, locals := 420 } : Room) g [.ref x0, .int a1, .int a2, .int a3, .int a4, .ref out] ((out, jaL g 1 o) :: W) (jOi 1) (fun w => w = (out, jaL g 1 o) :: W) := by
  refine j_enterH (rm := ({ frames := 10, cells := rm.cells, slots := rm.slots, locals := 420 } : Room)) (cc := cL_addLoop) (maxL := 7) (ret := some .int) (hh := [(0, 14, 17, 19), (0, 14, 21, 21), (0, 14, 25, 13)]) (own := RL) (L := [(0, .ref x0), (1, .int a1), (2, .int a2), (3, .int a3), (4, .int a4), (5, .ref out)]) (by decide +kernel) rfl rfl (Nat.le_of_ble_eq_true rfl) rfl ?_
  intro p e s m args below meth c C hr htab hX hZ hN
  refine j_aload 5 C dL_addLoop_0 rfl ?_
  refine j_iconst (v := 0) C dL_addLoop_2 rfl ?_
  refine j_aload_n 0 C dL_addLoop_3 rfl rfl ?_
  refine j_iload_n 1 C dL_addLoop_4 rfl rfl ?_
  refine j_iload_n 2 C dL_addLoop_5 rfl rfl ?_
  refine j_iload_n 3 C dL_addLoop_6 rfl rfl ?_
  refine j_iload 4 C dL_addLoop_7 rfl ?_
  refine j_oX (As := [.int a1, .int a2, .int a3, .int a4]) (Fx := [(out, jaL g 1 o)]) (V := W) (rest := [.int 0, .ref out]) (E := "java/lang/IndexOutOfBoundsException") (Cn := RX4) [] (⟨0, 14, 17, 19⟩ : ExceptionTableEntry) [(⟨0, 14, 21, 21⟩ : ExceptionTableEntry), (⟨0, 14, 25, 13⟩ : ExceptionTableEntry)] C hX hZ hN hM gL_addLoop_X4_addLoop rfl hdL_X4_addLoop hR (List.Perm.refl _) hx (N := 8) (T := TX4) rfl dL_addLoop_9 rfl (Nat.le_of_ble_eq_true rfl) ⟨Nat.le_of_eq (Nat.zero_add _), Nat.le_of_eq (Nat.zero_add _)⟩ htab (fun _ h => absurd h List.not_mem_nil) (by decide) (by decide) (List.mem_of_getElem? (i := 1) rfl) (by decide) (fun q => ?_)
  refine j_astore C dL_addLoop_17 (by decide) rfl rfl ?_
  refine j_iconst (v := 1) C dL_addLoop_19 rfl ?_
  refine j_widen (Nat.le_of_eq (Nat.zero_add _)) (Nat.le_of_eq (Nat.zero_add _)) ?_
  exact j_iretO C hr dL_addLoop_20 rfl
theorem L_addLoop_x2 {l : Launch} {g : jG} {x0 out : Nat} {a1 : Int32} {a2 : Int32} {a3 : Int32} {a4 : Int32} {o : Nat → Int64} {W : va_W} {rm : Room} (hM : jOx l yX4_addLoop wsX4_addLoop rm g [.ref x0, .int a1, .int a2, .int a3, .int a4] W "java/lang/IllegalArgumentException") (hR : rm.frames + 1 ≤ 10 ∧ 8 + (6 + 11) + rm.locals ≤ 420) (hx : ∃ (i : Nat) (fs : List Value), W[i]? = some (x0, (.inr (3, fs) : va_E))) : jO l yL_addLoop wsL_addLoop ({ frames := 10, cells := rm.cells, slots := rm.slots, locals := 420 } : Room) g [.ref x0, .int a1, .int a2, .int a3, .int a4, .ref out] ((out, jaL g 1 o) :: W) (jOi 2) (fun w => w = (out, jaL g 1 o) :: W) := by
  refine j_enterH (rm := ({ frames := 10, cells := rm.cells, slots := rm.slots, locals := 420 } : Room)) (cc := cL_addLoop) (maxL := 7) (ret := some .int) (hh := [(0, 14, 17, 19), (0, 14, 21, 21), (0, 14, 25, 13)]) (own := RL) (L := [(0, .ref x0), (1, .int a1), (2, .int a2), (3, .int a3), (4, .int a4), (5, .ref out)]) (by decide +kernel) rfl rfl (Nat.le_of_ble_eq_true rfl) rfl ?_
  intro p e s m args below meth c C hr htab hX hZ hN
  refine j_aload 5 C dL_addLoop_0 rfl ?_
  refine j_iconst (v := 0) C dL_addLoop_2 rfl ?_
  refine j_aload_n 0 C dL_addLoop_3 rfl rfl ?_
  refine j_iload_n 1 C dL_addLoop_4 rfl rfl ?_
  refine j_iload_n 2 C dL_addLoop_5 rfl rfl ?_
  refine j_iload_n 3 C dL_addLoop_6 rfl rfl ?_
  refine j_iload 4 C dL_addLoop_7 rfl ?_
  refine j_oX (As := [.int a1, .int a2, .int a3, .int a4]) (Fx := [(out, jaL g 1 o)]) (V := W) (rest := [.int 0, .ref out]) (E := "java/lang/IllegalArgumentException") (Cn := RX4) [(⟨0, 14, 17, 19⟩ : ExceptionTableEntry)] (⟨0, 14, 21, 21⟩ : ExceptionTableEntry) [(⟨0, 14, 25, 13⟩ : ExceptionTableEntry)] C hX hZ hN hM gL_addLoop_X4_addLoop rfl hdL_X4_addLoop hR (List.Perm.refl _) hx (N := 8) (T := TX4) rfl dL_addLoop_9 rfl (Nat.le_of_ble_eq_true rfl) ⟨Nat.le_of_eq (Nat.zero_add _), Nat.le_of_eq (Nat.zero_add _)⟩ htab (List.forall_mem_cons.mpr ⟨Or.inr ⟨by decide, "java/lang/IndexOutOfBoundsException", C.2.2.2.2.1 _ (List.mem_of_getElem? (i := 1) rfl), hN.1⟩, fun _ h => absurd h List.not_mem_nil⟩) (by decide) (by decide) (List.mem_of_getElem? (i := 2) rfl) (by decide) (fun q => ?_)
  refine j_astore C dL_addLoop_21 (by decide) rfl rfl ?_
  refine j_iconst (v := 2) C dL_addLoop_23 rfl ?_
  refine j_widen (Nat.le_of_eq (Nat.zero_add _)) (Nat.le_of_eq (Nat.zero_add _)) ?_
  exact j_iretO C hr dL_addLoop_24 rfl
theorem L_addLoop_x3 {l : Launch} {g : jG} {x0 out : Nat} {a1 : Int32} {a2 : Int32} {a3 : Int32} {a4 : Int32} {o : Nat → Int64} {W : va_W} {rm : Room} (hM : jOx l yX4_addLoop wsX4_addLoop rm g [.ref x0, .int a1, .int a2, .int a3, .int a4] W "java/lang/IllegalStateException") (hR : rm.frames + 1 ≤ 10 ∧ 8 + (6 + 11) + rm.locals ≤ 420) (hx : ∃ (i : Nat) (fs : List Value), W[i]? = some (x0, (.inr (3, fs) : va_E))) : jO l yL_addLoop wsL_addLoop ({ frames := 10, cells := rm.cells, slots := rm.slots, locals := 420 } : Room) g [.ref x0, .int a1, .int a2, .int a3, .int a4, .ref out] ((out, jaL g 1 o) :: W) (jOi 3) (fun w => w = (out, jaL g 1 o) :: W) := by
  refine j_enterH (rm := ({ frames := 10, cells := rm.cells, slots := rm.slots, locals := 420 } : Room)) (cc := cL_addLoop) (maxL := 7) (ret := some .int) (hh := [(0, 14, 17, 19), (0, 14, 21, 21), (0, 14, 25, 13)]) (own := RL) (L := [(0, .ref x0), (1, .int a1), (2, .int a2), (3, .int a3), (4, .int a4), (5, .ref out)]) (by decide +kernel) rfl rfl (Nat.le_of_ble_eq_true rfl) rfl ?_
  intro p e s m args below meth c C hr htab hX hZ hN
  refine j_aload 5 C dL_addLoop_0 rfl ?_
  refine j_iconst (v := 0) C dL_addLoop_2 rfl ?_
  refine j_aload_n 0 C dL_addLoop_3 rfl rfl ?_
  refine j_iload_n 1 C dL_addLoop_4 rfl rfl ?_
  refine j_iload_n 2 C dL_addLoop_5 rfl rfl ?_
  refine j_iload_n 3 C dL_addLoop_6 rfl rfl ?_
  refine j_iload 4 C dL_addLoop_7 rfl ?_
  refine j_oX (As := [.int a1, .int a2, .int a3, .int a4]) (Fx := [(out, jaL g 1 o)]) (V := W) (rest := [.int 0, .ref out]) (E := "java/lang/IllegalStateException") (Cn := RX4) [(⟨0, 14, 17, 19⟩ : ExceptionTableEntry), (⟨0, 14, 21, 21⟩ : ExceptionTableEntry)] (⟨0, 14, 25, 13⟩ : ExceptionTableEntry) [] C hX hZ hN hM gL_addLoop_X4_addLoop rfl hdL_X4_addLoop hR (List.Perm.refl _) hx (N := 8) (T := TX4) rfl dL_addLoop_9 rfl (Nat.le_of_ble_eq_true rfl) ⟨Nat.le_of_eq (Nat.zero_add _), Nat.le_of_eq (Nat.zero_add _)⟩ htab (List.forall_mem_cons.mpr ⟨Or.inr ⟨by decide, "java/lang/IndexOutOfBoundsException", C.2.2.2.2.1 _ (List.mem_of_getElem? (i := 1) rfl), hN.2.1⟩, List.forall_mem_cons.mpr ⟨Or.inr ⟨by decide, "java/lang/IllegalArgumentException", C.2.2.2.2.1 _ (List.mem_of_getElem? (i := 2) rfl), hN.2.2⟩, fun _ h => absurd h List.not_mem_nil⟩⟩) (by decide) (by decide) (List.mem_of_getElem? (i := 3) rfl) (by decide) (fun q => ?_)
  refine j_astore C dL_addLoop_25 (by decide) rfl rfl ?_
  refine j_iconst (v := 3) C dL_addLoop_27 rfl ?_
  refine j_widen (Nat.le_of_eq (Nat.zero_add _)) (Nat.le_of_eq (Nat.zero_add _)) ?_
  exact j_iretO C hr dL_addLoop_28 rfl
theorem hdL_X4_addStep : yX4_addStep.cls = RX4 ∧ yX4_addStep.cls ≠ "java/lang/invoke/MethodHandle" ∧ yX4_addStep.cls ≠ "java/lang/invoke/VarHandle" ∧ (parseMethodDescriptor yX4_addStep.desc).map (fun d => d.parameters.length) = some 6 := by decide +kernel
theorem L_addStep_g {l : Launch} {g : jG} {x0 out : Nat} {a1 : Int32} {a2 : Int32} {a3 : Int32} {a4 : Int32} {a5 : Int32} {a6 : Int32} {o : Nat → Int64} {W : va_W} {rm : Room} {v : Int32} {Good : va_W → Prop} (hM : jO l yX4_addStep wsX4_addStep rm g [.ref x0, .int a1, .int a2, .int a3, .int a4, .int a5, .int a6] W (jOi v) Good) (hR : rm.frames + 1 ≤ 10 ∧ 8 + (8 + 11) + rm.locals ≤ 420) (hx : ∃ (i : Nat) (fs : List Value), W[i]? = some (x0, (.inr (3, fs) : va_E))) : jO l yL_addStep wsL_addStep ({ frames := 10, cells := rm.cells, slots := rm.slots, locals := 420 } : Room) g [.ref x0, .int a1, .int a2, .int a3, .int a4, .int a5, .int a6, .ref out] ((out, jaL g 1 o) :: W) (jOi 0) (fun w => ∃ w1, Good w1 ∧ w = (out, jaL g 1 (vp_updL o 0 v.toInt64)) :: w1) := by
  refine j_enterH (rm := ({ frames := 10, cells := rm.cells, slots := rm.slots, locals := 420 } : Room)) (cc := cL_addStep) (maxL := 9) (ret := some .int) (hh := [(0, 18, 21, 19), (0, 18, 25, 21), (0, 18, 29, 13)]) (own := RL) (L := [(0, .ref x0), (1, .int a1), (2, .int a2), (3, .int a3), (4, .int a4), (5, .int a5), (6, .int a6), (7, .ref out)]) (by decide +kernel) rfl rfl (Nat.le_of_ble_eq_true rfl) rfl ?_
  intro p e s m args below meth c C hr htab hX hZ hN
  refine j_aload 7 C dL_addStep_0 rfl ?_
  refine j_iconst (v := 0) C dL_addStep_2 rfl ?_
  refine j_aload_n 0 C dL_addStep_3 rfl rfl ?_
  refine j_iload_n 1 C dL_addStep_4 rfl rfl ?_
  refine j_iload_n 2 C dL_addStep_5 rfl rfl ?_
  refine j_iload_n 3 C dL_addStep_6 rfl rfl ?_
  refine j_iload 4 C dL_addStep_7 rfl ?_
  refine j_iload 5 C dL_addStep_9 rfl ?_
  refine j_iload 6 C dL_addStep_11 rfl ?_
  refine j_oV (As := [.int a1, .int a2, .int a3, .int a4, .int a5, .int a6]) (Fx := [(out, jaL g 1 o)]) (V := W) (rest := [.int 0, .ref out]) (v := .int v) (Cn := RX4) C hX hZ hN hM gL_addStep_X4_addStep rfl hdL_X4_addStep hR (List.Perm.refl _) hx (N := 8) (T := TX4) rfl dL_addStep_13 rfl (Nat.le_of_ble_eq_true rfl) ⟨Nat.le_of_eq (Nat.zero_add _), Nat.le_of_eq (Nat.zero_add _)⟩ rfl (fun w hw => ?_)
  refine j_i2l C dL_addStep_16 rfl ?_
  refine j_lastN (x := 0) 0 C dL_addStep_17 rfl rfl (by decide) (by decide) rfl ?_
  refine j_goto (tgt := 33) C dL_addStep_18 rfl ?_
  refine j_iconst (v := 0) C dL_addStep_33 rfl ?_
  refine j_widen (Nat.le_of_eq (Nat.zero_add _)) (Nat.le_of_eq (Nat.zero_add _)) ?_
  exact j_iretO C hr dL_addStep_34 ⟨w, hw, rfl⟩
theorem L_addStep_x1 {l : Launch} {g : jG} {x0 out : Nat} {a1 : Int32} {a2 : Int32} {a3 : Int32} {a4 : Int32} {a5 : Int32} {a6 : Int32} {o : Nat → Int64} {W : va_W} {rm : Room} (hM : jOx l yX4_addStep wsX4_addStep rm g [.ref x0, .int a1, .int a2, .int a3, .int a4, .int a5, .int a6] W "java/lang/IndexOutOfBoundsException") (hR : rm.frames + 1 ≤ 10 ∧ 8 + (8 + 11) + rm.locals ≤ 420) (hx : ∃ (i : Nat) (fs : List Value), W[i]? = some (x0, (.inr (3, fs) : va_E))) : jO l yL_addStep wsL_addStep ({ frames := 10, cells := rm.cells, slots := rm.slots, locals := 420 } : Room) g [.ref x0, .int a1, .int a2, .int a3, .int a4, .int a5, .int a6, .ref out] ((out, jaL g 1 o) :: W) (jOi 1) (fun w => w = (out, jaL g 1 o) :: W) := by
  refine j_enterH (rm := ({ frames := 10, cells := rm.cells, slots := rm.slots, locals := 420 } : Room)) (cc := cL_addStep) (maxL := 9) (ret := some .int) (hh := [(0, 18, 21, 19), (0, 18, 25, 21), (0, 18, 29, 13)]) (own := RL) (L := [(0, .ref x0), (1, .int a1), (2, .int a2), (3, .int a3), (4, .int a4), (5, .int a5), (6, .int a6), (7, .ref out)]) (by decide +kernel) rfl rfl (Nat.le_of_ble_eq_true rfl) rfl ?_
  intro p e s m args below meth c C hr htab hX hZ hN
  refine j_aload 7 C dL_addStep_0 rfl ?_
  refine j_iconst (v := 0) C dL_addStep_2 rfl ?_
  refine j_aload_n 0 C dL_addStep_3 rfl rfl ?_
  refine j_iload_n 1 C dL_addStep_4 rfl rfl ?_
  refine j_iload_n 2 C dL_addStep_5 rfl rfl ?_
  refine j_iload_n 3 C dL_addStep_6 rfl rfl ?_
  refine j_iload 4 C dL_addStep_7 rfl ?_
  refine j_iload 5 C dL_addStep_9 rfl ?_
  refine j_iload 6 C dL_addStep_11 rfl ?_
  refine j_oX (As := [.int a1, .int a2, .int a3, .int a4, .int a5, .int a6]) (Fx := [(out, jaL g 1 o)]) (V := W) (rest := [.int 0, .ref out]) (E := "java/lang/IndexOutOfBoundsException") (Cn := RX4) [] (⟨0, 18, 21, 19⟩ : ExceptionTableEntry) [(⟨0, 18, 25, 21⟩ : ExceptionTableEntry), (⟨0, 18, 29, 13⟩ : ExceptionTableEntry)] C hX hZ hN hM gL_addStep_X4_addStep rfl hdL_X4_addStep hR (List.Perm.refl _) hx (N := 8) (T := TX4) rfl dL_addStep_13 rfl (Nat.le_of_ble_eq_true rfl) ⟨Nat.le_of_eq (Nat.zero_add _), Nat.le_of_eq (Nat.zero_add _)⟩ htab (fun _ h => absurd h List.not_mem_nil) (by decide) (by decide) (List.mem_of_getElem? (i := 1) rfl) (by decide) (fun q => ?_)
  refine j_astore C dL_addStep_21 (by decide) rfl rfl ?_
  refine j_iconst (v := 1) C dL_addStep_23 rfl ?_
  refine j_widen (Nat.le_of_eq (Nat.zero_add _)) (Nat.le_of_eq (Nat.zero_add _)) ?_
  exact j_iretO C hr dL_addStep_24 rfl
theorem L_addStep_x2 {l : Launch} {g : jG} {x0 out : Nat} {a1 : Int32} {a2 : Int32} {a3 : Int32} {a4 : Int32} {a5 : Int32} {a6 : Int32} {o : Nat → Int64} {W : va_W} {rm : Room} (hM : jOx l yX4_addStep wsX4_addStep rm g [.ref x0, .int a1, .int a2, .int a3, .int a4, .int a5, .int a6] W "java/lang/IllegalArgumentException") (hR : rm.frames + 1 ≤ 10 ∧ 8 + (8 + 11) + rm.locals ≤ 420) (hx : ∃ (i : Nat) (fs : List Value), W[i]? = some (x0, (.inr (3, fs) : va_E))) : jO l yL_addStep wsL_addStep ({ frames := 10, cells := rm.cells, slots := rm.slots, locals := 420 } : Room) g [.ref x0, .int a1, .int a2, .int a3, .int a4, .int a5, .int a6, .ref out] ((out, jaL g 1 o) :: W) (jOi 2) (fun w => w = (out, jaL g 1 o) :: W) := by
  refine j_enterH (rm := ({ frames := 10, cells := rm.cells, slots := rm.slots, locals := 420 } : Room)) (cc := cL_addStep) (maxL := 9) (ret := some .int) (hh := [(0, 18, 21, 19), (0, 18, 25, 21), (0, 18, 29, 13)]) (own := RL) (L := [(0, .ref x0), (1, .int a1), (2, .int a2), (3, .int a3), (4, .int a4), (5, .int a5), (6, .int a6), (7, .ref out)]) (by decide +kernel) rfl rfl (Nat.le_of_ble_eq_true rfl) rfl ?_
  intro p e s m args below meth c C hr htab hX hZ hN
  refine j_aload 7 C dL_addStep_0 rfl ?_
  refine j_iconst (v := 0) C dL_addStep_2 rfl ?_
  refine j_aload_n 0 C dL_addStep_3 rfl rfl ?_
  refine j_iload_n 1 C dL_addStep_4 rfl rfl ?_
  refine j_iload_n 2 C dL_addStep_5 rfl rfl ?_
  refine j_iload_n 3 C dL_addStep_6 rfl rfl ?_
  refine j_iload 4 C dL_addStep_7 rfl ?_
  refine j_iload 5 C dL_addStep_9 rfl ?_
  refine j_iload 6 C dL_addStep_11 rfl ?_
  refine j_oX (As := [.int a1, .int a2, .int a3, .int a4, .int a5, .int a6]) (Fx := [(out, jaL g 1 o)]) (V := W) (rest := [.int 0, .ref out]) (E := "java/lang/IllegalArgumentException") (Cn := RX4) [(⟨0, 18, 21, 19⟩ : ExceptionTableEntry)] (⟨0, 18, 25, 21⟩ : ExceptionTableEntry) [(⟨0, 18, 29, 13⟩ : ExceptionTableEntry)] C hX hZ hN hM gL_addStep_X4_addStep rfl hdL_X4_addStep hR (List.Perm.refl _) hx (N := 8) (T := TX4) rfl dL_addStep_13 rfl (Nat.le_of_ble_eq_true rfl) ⟨Nat.le_of_eq (Nat.zero_add _), Nat.le_of_eq (Nat.zero_add _)⟩ htab (List.forall_mem_cons.mpr ⟨Or.inr ⟨by decide, "java/lang/IndexOutOfBoundsException", C.2.2.2.2.1 _ (List.mem_of_getElem? (i := 1) rfl), hN.1⟩, fun _ h => absurd h List.not_mem_nil⟩) (by decide) (by decide) (List.mem_of_getElem? (i := 2) rfl) (by decide) (fun q => ?_)
  refine j_astore C dL_addStep_25 (by decide) rfl rfl ?_
  refine j_iconst (v := 2) C dL_addStep_27 rfl ?_
  refine j_widen (Nat.le_of_eq (Nat.zero_add _)) (Nat.le_of_eq (Nat.zero_add _)) ?_
  exact j_iretO C hr dL_addStep_28 rfl
theorem L_addStep_x3 {l : Launch} {g : jG} {x0 out : Nat} {a1 : Int32} {a2 : Int32} {a3 : Int32} {a4 : Int32} {a5 : Int32} {a6 : Int32} {o : Nat → Int64} {W : va_W} {rm : Room} (hM : jOx l yX4_addStep wsX4_addStep rm g [.ref x0, .int a1, .int a2, .int a3, .int a4, .int a5, .int a6] W "java/lang/IllegalStateException") (hR : rm.frames + 1 ≤ 10 ∧ 8 + (8 + 11) + rm.locals ≤ 420) (hx : ∃ (i : Nat) (fs : List Value), W[i]? = some (x0, (.inr (3, fs) : va_E))) : jO l yL_addStep wsL_addStep ({ frames := 10, cells := rm.cells, slots := rm.slots, locals := 420 } : Room) g [.ref x0, .int a1, .int a2, .int a3, .int a4, .int a5, .int a6, .ref out] ((out, jaL g 1 o) :: W) (jOi 3) (fun w => w = (out, jaL g 1 o) :: W) := by
  refine j_enterH (rm := ({ frames := 10, cells := rm.cells, slots := rm.slots, locals := 420 } : Room)) (cc := cL_addStep) (maxL := 9) (ret := some .int) (hh := [(0, 18, 21, 19), (0, 18, 25, 21), (0, 18, 29, 13)]) (own := RL) (L := [(0, .ref x0), (1, .int a1), (2, .int a2), (3, .int a3), (4, .int a4), (5, .int a5), (6, .int a6), (7, .ref out)]) (by decide +kernel) rfl rfl (Nat.le_of_ble_eq_true rfl) rfl ?_
  intro p e s m args below meth c C hr htab hX hZ hN
  refine j_aload 7 C dL_addStep_0 rfl ?_
  refine j_iconst (v := 0) C dL_addStep_2 rfl ?_
  refine j_aload_n 0 C dL_addStep_3 rfl rfl ?_
  refine j_iload_n 1 C dL_addStep_4 rfl rfl ?_
  refine j_iload_n 2 C dL_addStep_5 rfl rfl ?_
  refine j_iload_n 3 C dL_addStep_6 rfl rfl ?_
  refine j_iload 4 C dL_addStep_7 rfl ?_
  refine j_iload 5 C dL_addStep_9 rfl ?_
  refine j_iload 6 C dL_addStep_11 rfl ?_
  refine j_oX (As := [.int a1, .int a2, .int a3, .int a4, .int a5, .int a6]) (Fx := [(out, jaL g 1 o)]) (V := W) (rest := [.int 0, .ref out]) (E := "java/lang/IllegalStateException") (Cn := RX4) [(⟨0, 18, 21, 19⟩ : ExceptionTableEntry), (⟨0, 18, 25, 21⟩ : ExceptionTableEntry)] (⟨0, 18, 29, 13⟩ : ExceptionTableEntry) [] C hX hZ hN hM gL_addStep_X4_addStep rfl hdL_X4_addStep hR (List.Perm.refl _) hx (N := 8) (T := TX4) rfl dL_addStep_13 rfl (Nat.le_of_ble_eq_true rfl) ⟨Nat.le_of_eq (Nat.zero_add _), Nat.le_of_eq (Nat.zero_add _)⟩ htab (List.forall_mem_cons.mpr ⟨Or.inr ⟨by decide, "java/lang/IndexOutOfBoundsException", C.2.2.2.2.1 _ (List.mem_of_getElem? (i := 1) rfl), hN.2.1⟩, List.forall_mem_cons.mpr ⟨Or.inr ⟨by decide, "java/lang/IllegalArgumentException", C.2.2.2.2.1 _ (List.mem_of_getElem? (i := 2) rfl), hN.2.2⟩, fun _ h => absurd h List.not_mem_nil⟩⟩) (by decide) (by decide) (List.mem_of_getElem? (i := 3) rfl) (by decide) (fun q => ?_)
  refine j_astore C dL_addStep_29 (by decide) rfl rfl ?_
  refine j_iconst (v := 3) C dL_addStep_31 rfl ?_
  refine j_widen (Nat.le_of_eq (Nat.zero_add _)) (Nat.le_of_eq (Nat.zero_add _)) ?_
  exact j_iretO C hr dL_addStep_32 rfl
theorem hdL_X4_loop : yX4_loop.cls = RX4 ∧ yX4_loop.cls ≠ "java/lang/invoke/MethodHandle" ∧ yX4_loop.cls ≠ "java/lang/invoke/VarHandle" ∧ (parseMethodDescriptor yX4_loop.desc).map (fun d => d.parameters.length) = some 3 := by decide +kernel
theorem L_loop_g {l : Launch} {g : jG} {x0 out : Nat} {a1 : Int32} {a2 : Int32} {a3 : Int32} {o : Nat → Int64} {W : va_W} {rm : Room} {v : Int32} {Good : va_W → Prop} (hM : jO l yX4_loop wsX4_loop rm g [.ref x0, .int a1, .int a2, .int a3] W (jOi v) Good) (hR : rm.frames + 1 ≤ 10 ∧ 8 + (5 + 11) + rm.locals ≤ 420) (hx : ∃ (i : Nat) (fs : List Value), W[i]? = some (x0, (.inr (3, fs) : va_E))) : jO l yL_loop wsL_loop ({ frames := 10, cells := rm.cells, slots := rm.slots, locals := 420 } : Room) g [.ref x0, .int a1, .int a2, .int a3, .ref out] ((out, jaL g 1 o) :: W) (jOi 0) (fun w => ∃ w1, Good w1 ∧ w = (out, jaL g 1 (vp_updL o 0 v.toInt64)) :: w1) := by
  refine j_enterH (rm := ({ frames := 10, cells := rm.cells, slots := rm.slots, locals := 420 } : Room)) (cc := cL_loop) (maxL := 6) (ret := some .int) (hh := [(0, 12, 15, 19)]) (own := RL) (L := [(0, .ref x0), (1, .int a1), (2, .int a2), (3, .int a3), (4, .ref out)]) (by decide +kernel) rfl rfl (Nat.le_of_ble_eq_true rfl) rfl ?_
  intro p e s m args below meth c C hr htab hX hZ hN
  refine j_aload 4 C dL_loop_0 rfl ?_
  refine j_iconst (v := 0) C dL_loop_2 rfl ?_
  refine j_aload_n 0 C dL_loop_3 rfl rfl ?_
  refine j_iload_n 1 C dL_loop_4 rfl rfl ?_
  refine j_iload_n 2 C dL_loop_5 rfl rfl ?_
  refine j_iload_n 3 C dL_loop_6 rfl rfl ?_
  refine j_oV (As := [.int a1, .int a2, .int a3]) (Fx := [(out, jaL g 1 o)]) (V := W) (rest := [.int 0, .ref out]) (v := .int v) (Cn := RX4) C hX hZ hN hM gL_loop_X4_loop rfl hdL_X4_loop hR (List.Perm.refl _) hx (N := 8) (T := TX4) rfl dL_loop_7 rfl (Nat.le_of_ble_eq_true rfl) ⟨Nat.le_of_eq (Nat.zero_add _), Nat.le_of_eq (Nat.zero_add _)⟩ rfl (fun w hw => ?_)
  refine j_i2l C dL_loop_10 rfl ?_
  refine j_lastN (x := 0) 0 C dL_loop_11 rfl rfl (by decide) (by decide) rfl ?_
  refine j_goto (tgt := 19) C dL_loop_12 rfl ?_
  refine j_iconst (v := 0) C dL_loop_19 rfl ?_
  refine j_widen (Nat.le_of_eq (Nat.zero_add _)) (Nat.le_of_eq (Nat.zero_add _)) ?_
  exact j_iretO C hr dL_loop_20 ⟨w, hw, rfl⟩
theorem L_loop_x1 {l : Launch} {g : jG} {x0 out : Nat} {a1 : Int32} {a2 : Int32} {a3 : Int32} {o : Nat → Int64} {W : va_W} {rm : Room} (hM : jOx l yX4_loop wsX4_loop rm g [.ref x0, .int a1, .int a2, .int a3] W "java/lang/IndexOutOfBoundsException") (hR : rm.frames + 1 ≤ 10 ∧ 8 + (5 + 11) + rm.locals ≤ 420) (hx : ∃ (i : Nat) (fs : List Value), W[i]? = some (x0, (.inr (3, fs) : va_E))) : jO l yL_loop wsL_loop ({ frames := 10, cells := rm.cells, slots := rm.slots, locals := 420 } : Room) g [.ref x0, .int a1, .int a2, .int a3, .ref out] ((out, jaL g 1 o) :: W) (jOi 1) (fun w => w = (out, jaL g 1 o) :: W) := by
  refine j_enterH (rm := ({ frames := 10, cells := rm.cells, slots := rm.slots, locals := 420 } : Room)) (cc := cL_loop) (maxL := 6) (ret := some .int) (hh := [(0, 12, 15, 19)]) (own := RL) (L := [(0, .ref x0), (1, .int a1), (2, .int a2), (3, .int a3), (4, .ref out)]) (by decide +kernel) rfl rfl (Nat.le_of_ble_eq_true rfl) rfl ?_
  intro p e s m args below meth c C hr htab hX hZ hN
  refine j_aload 4 C dL_loop_0 rfl ?_
  refine j_iconst (v := 0) C dL_loop_2 rfl ?_
  refine j_aload_n 0 C dL_loop_3 rfl rfl ?_
  refine j_iload_n 1 C dL_loop_4 rfl rfl ?_
  refine j_iload_n 2 C dL_loop_5 rfl rfl ?_
  refine j_iload_n 3 C dL_loop_6 rfl rfl ?_
  refine j_oX (As := [.int a1, .int a2, .int a3]) (Fx := [(out, jaL g 1 o)]) (V := W) (rest := [.int 0, .ref out]) (E := "java/lang/IndexOutOfBoundsException") (Cn := RX4) [] (⟨0, 12, 15, 19⟩ : ExceptionTableEntry) [] C hX hZ hN hM gL_loop_X4_loop rfl hdL_X4_loop hR (List.Perm.refl _) hx (N := 8) (T := TX4) rfl dL_loop_7 rfl (Nat.le_of_ble_eq_true rfl) ⟨Nat.le_of_eq (Nat.zero_add _), Nat.le_of_eq (Nat.zero_add _)⟩ htab (fun _ h => absurd h List.not_mem_nil) (by decide) (by decide) (List.mem_of_getElem? (i := 1) rfl) (by decide) (fun q => ?_)
  refine j_astore C dL_loop_15 (by decide) rfl rfl ?_
  refine j_iconst (v := 1) C dL_loop_17 rfl ?_
  refine j_widen (Nat.le_of_eq (Nat.zero_add _)) (Nat.le_of_eq (Nat.zero_add _)) ?_
  exact j_iretO C hr dL_loop_18 rfl
theorem hdL_X4_step : yX4_step.cls = RX4 ∧ yX4_step.cls ≠ "java/lang/invoke/MethodHandle" ∧ yX4_step.cls ≠ "java/lang/invoke/VarHandle" ∧ (parseMethodDescriptor yX4_step.desc).map (fun d => d.parameters.length) = some 4 := by decide +kernel
theorem L_step_g {l : Launch} {g : jG} {x0 out : Nat} {a1 : Int32} {a2 : Int32} {a3 : Int32} {a4 : Int32} {o : Nat → Int64} {W : va_W} {rm : Room} {v : Int32} {Good : va_W → Prop} (hM : jO l yX4_step wsX4_step rm g [.ref x0, .int a1, .int a2, .int a3, .int a4] W (jOi v) Good) (hR : rm.frames + 1 ≤ 10 ∧ 8 + (6 + 11) + rm.locals ≤ 420) (hx : ∃ (i : Nat) (fs : List Value), W[i]? = some (x0, (.inr (3, fs) : va_E))) : jO l yL_step wsL_step ({ frames := 10, cells := rm.cells, slots := rm.slots, locals := 420 } : Room) g [.ref x0, .int a1, .int a2, .int a3, .int a4, .ref out] ((out, jaL g 1 o) :: W) (jOi 0) (fun w => ∃ w1, Good w1 ∧ w = (out, jaL g 1 (vp_updL o 0 v.toInt64)) :: w1) := by
  refine j_enterH (rm := ({ frames := 10, cells := rm.cells, slots := rm.slots, locals := 420 } : Room)) (cc := cL_step) (maxL := 7) (ret := some .int) (hh := [(0, 14, 17, 19)]) (own := RL) (L := [(0, .ref x0), (1, .int a1), (2, .int a2), (3, .int a3), (4, .int a4), (5, .ref out)]) (by decide +kernel) rfl rfl (Nat.le_of_ble_eq_true rfl) rfl ?_
  intro p e s m args below meth c C hr htab hX hZ hN
  refine j_aload 5 C dL_step_0 rfl ?_
  refine j_iconst (v := 0) C dL_step_2 rfl ?_
  refine j_aload_n 0 C dL_step_3 rfl rfl ?_
  refine j_iload_n 1 C dL_step_4 rfl rfl ?_
  refine j_iload_n 2 C dL_step_5 rfl rfl ?_
  refine j_iload_n 3 C dL_step_6 rfl rfl ?_
  refine j_iload 4 C dL_step_7 rfl ?_
  refine j_oV (As := [.int a1, .int a2, .int a3, .int a4]) (Fx := [(out, jaL g 1 o)]) (V := W) (rest := [.int 0, .ref out]) (v := .int v) (Cn := RX4) C hX hZ hN hM gL_step_X4_step rfl hdL_X4_step hR (List.Perm.refl _) hx (N := 8) (T := TX4) rfl dL_step_9 rfl (Nat.le_of_ble_eq_true rfl) ⟨Nat.le_of_eq (Nat.zero_add _), Nat.le_of_eq (Nat.zero_add _)⟩ rfl (fun w hw => ?_)
  refine j_i2l C dL_step_12 rfl ?_
  refine j_lastN (x := 0) 0 C dL_step_13 rfl rfl (by decide) (by decide) rfl ?_
  refine j_goto (tgt := 21) C dL_step_14 rfl ?_
  refine j_iconst (v := 0) C dL_step_21 rfl ?_
  refine j_widen (Nat.le_of_eq (Nat.zero_add _)) (Nat.le_of_eq (Nat.zero_add _)) ?_
  exact j_iretO C hr dL_step_22 ⟨w, hw, rfl⟩
theorem L_step_x1 {l : Launch} {g : jG} {x0 out : Nat} {a1 : Int32} {a2 : Int32} {a3 : Int32} {a4 : Int32} {o : Nat → Int64} {W : va_W} {rm : Room} (hM : jOx l yX4_step wsX4_step rm g [.ref x0, .int a1, .int a2, .int a3, .int a4] W "java/lang/IndexOutOfBoundsException") (hR : rm.frames + 1 ≤ 10 ∧ 8 + (6 + 11) + rm.locals ≤ 420) (hx : ∃ (i : Nat) (fs : List Value), W[i]? = some (x0, (.inr (3, fs) : va_E))) : jO l yL_step wsL_step ({ frames := 10, cells := rm.cells, slots := rm.slots, locals := 420 } : Room) g [.ref x0, .int a1, .int a2, .int a3, .int a4, .ref out] ((out, jaL g 1 o) :: W) (jOi 1) (fun w => w = (out, jaL g 1 o) :: W) := by
  refine j_enterH (rm := ({ frames := 10, cells := rm.cells, slots := rm.slots, locals := 420 } : Room)) (cc := cL_step) (maxL := 7) (ret := some .int) (hh := [(0, 14, 17, 19)]) (own := RL) (L := [(0, .ref x0), (1, .int a1), (2, .int a2), (3, .int a3), (4, .int a4), (5, .ref out)]) (by decide +kernel) rfl rfl (Nat.le_of_ble_eq_true rfl) rfl ?_
  intro p e s m args below meth c C hr htab hX hZ hN
  refine j_aload 5 C dL_step_0 rfl ?_
  refine j_iconst (v := 0) C dL_step_2 rfl ?_
  refine j_aload_n 0 C dL_step_3 rfl rfl ?_
  refine j_iload_n 1 C dL_step_4 rfl rfl ?_
  refine j_iload_n 2 C dL_step_5 rfl rfl ?_
  refine j_iload_n 3 C dL_step_6 rfl rfl ?_
  refine j_iload 4 C dL_step_7 rfl ?_
  refine j_oX (As := [.int a1, .int a2, .int a3, .int a4]) (Fx := [(out, jaL g 1 o)]) (V := W) (rest := [.int 0, .ref out]) (E := "java/lang/IndexOutOfBoundsException") (Cn := RX4) [] (⟨0, 14, 17, 19⟩ : ExceptionTableEntry) [] C hX hZ hN hM gL_step_X4_step rfl hdL_X4_step hR (List.Perm.refl _) hx (N := 8) (T := TX4) rfl dL_step_9 rfl (Nat.le_of_ble_eq_true rfl) ⟨Nat.le_of_eq (Nat.zero_add _), Nat.le_of_eq (Nat.zero_add _)⟩ htab (fun _ h => absurd h List.not_mem_nil) (by decide) (by decide) (List.mem_of_getElem? (i := 1) rfl) (by decide) (fun q => ?_)
  refine j_astore C dL_step_17 (by decide) rfl rfl ?_
  refine j_iconst (v := 1) C dL_step_19 rfl ?_
  refine j_widen (Nat.le_of_eq (Nat.zero_add _)) (Nat.le_of_eq (Nat.zero_add _)) ?_
  exact j_iretO C hr dL_step_20 rfl
theorem hdL_X4_loops : yX4_loops.cls = RX4 ∧ yX4_loops.cls ≠ "java/lang/invoke/MethodHandle" ∧ yX4_loops.cls ≠ "java/lang/invoke/VarHandle" ∧ (parseMethodDescriptor yX4_loops.desc).map (fun d => d.parameters.length) = some 1 := by decide +kernel
theorem L_loops_g {l : Launch} {g : jG} {x0 out : Nat} {a1 : Int32} {o : Nat → Int64} {W : va_W} {rm : Room} {v : Int32} {Good : va_W → Prop} (hM : jO l yX4_loops wsX4_loops rm g [.ref x0, .int a1] W (jOi v) Good) (hR : rm.frames + 1 ≤ 10 ∧ 8 + (2 + 11) + rm.locals ≤ 420) (hx : ∃ (i : Nat) (fs : List Value), W[i]? = some (x0, (.inr (3, fs) : va_E))) : jO l yL_loops wsL_loops ({ frames := 10, cells := rm.cells, slots := rm.slots, locals := 420 } : Room) g [.ref x0, .int a1, .ref out] ((out, jaL g 1 o) :: W) (jOi 0) (fun w => ∃ w1, Good w1 ∧ w = (out, jaL g 1 (vp_updL o 0 v.toInt64)) :: w1) := by
  refine j_enterH (rm := ({ frames := 10, cells := rm.cells, slots := rm.slots, locals := 420 } : Room)) (cc := cL_loops) (maxL := 4) (ret := some .int) (hh := [(0, 9, 12, 19)]) (own := RL) (L := [(0, .ref x0), (1, .int a1), (2, .ref out)]) (by decide +kernel) rfl rfl (Nat.le_of_ble_eq_true rfl) rfl ?_
  intro p e s m args below meth c C hr htab hX hZ hN
  refine j_aload_n 2 C dL_loops_0 rfl rfl ?_
  refine j_iconst (v := 0) C dL_loops_1 rfl ?_
  refine j_aload_n 0 C dL_loops_2 rfl rfl ?_
  refine j_iload_n 1 C dL_loops_3 rfl rfl ?_
  refine j_oV (As := [.int a1]) (Fx := [(out, jaL g 1 o)]) (V := W) (rest := [.int 0, .ref out]) (v := .int v) (Cn := RX4) C hX hZ hN hM gL_loops_X4_loops rfl hdL_X4_loops hR (List.Perm.refl _) hx (N := 8) (T := TX4) rfl dL_loops_4 rfl (Nat.le_of_ble_eq_true rfl) ⟨Nat.le_of_eq (Nat.zero_add _), Nat.le_of_eq (Nat.zero_add _)⟩ rfl (fun w hw => ?_)
  refine j_i2l C dL_loops_7 rfl ?_
  refine j_lastN (x := 0) 0 C dL_loops_8 rfl rfl (by decide) (by decide) rfl ?_
  refine j_goto (tgt := 15) C dL_loops_9 rfl ?_
  refine j_iconst (v := 0) C dL_loops_15 rfl ?_
  refine j_widen (Nat.le_of_eq (Nat.zero_add _)) (Nat.le_of_eq (Nat.zero_add _)) ?_
  exact j_iretO C hr dL_loops_16 ⟨w, hw, rfl⟩
theorem L_loops_x1 {l : Launch} {g : jG} {x0 out : Nat} {a1 : Int32} {o : Nat → Int64} {W : va_W} {rm : Room} (hM : jOx l yX4_loops wsX4_loops rm g [.ref x0, .int a1] W "java/lang/IndexOutOfBoundsException") (hR : rm.frames + 1 ≤ 10 ∧ 8 + (2 + 11) + rm.locals ≤ 420) (hx : ∃ (i : Nat) (fs : List Value), W[i]? = some (x0, (.inr (3, fs) : va_E))) : jO l yL_loops wsL_loops ({ frames := 10, cells := rm.cells, slots := rm.slots, locals := 420 } : Room) g [.ref x0, .int a1, .ref out] ((out, jaL g 1 o) :: W) (jOi 1) (fun w => w = (out, jaL g 1 o) :: W) := by
  refine j_enterH (rm := ({ frames := 10, cells := rm.cells, slots := rm.slots, locals := 420 } : Room)) (cc := cL_loops) (maxL := 4) (ret := some .int) (hh := [(0, 9, 12, 19)]) (own := RL) (L := [(0, .ref x0), (1, .int a1), (2, .ref out)]) (by decide +kernel) rfl rfl (Nat.le_of_ble_eq_true rfl) rfl ?_
  intro p e s m args below meth c C hr htab hX hZ hN
  refine j_aload_n 2 C dL_loops_0 rfl rfl ?_
  refine j_iconst (v := 0) C dL_loops_1 rfl ?_
  refine j_aload_n 0 C dL_loops_2 rfl rfl ?_
  refine j_iload_n 1 C dL_loops_3 rfl rfl ?_
  refine j_oX (As := [.int a1]) (Fx := [(out, jaL g 1 o)]) (V := W) (rest := [.int 0, .ref out]) (E := "java/lang/IndexOutOfBoundsException") (Cn := RX4) [] (⟨0, 9, 12, 19⟩ : ExceptionTableEntry) [] C hX hZ hN hM gL_loops_X4_loops rfl hdL_X4_loops hR (List.Perm.refl _) hx (N := 8) (T := TX4) rfl dL_loops_4 rfl (Nat.le_of_ble_eq_true rfl) ⟨Nat.le_of_eq (Nat.zero_add _), Nat.le_of_eq (Nat.zero_add _)⟩ htab (fun _ h => absurd h List.not_mem_nil) (by decide) (by decide) (List.mem_of_getElem? (i := 1) rfl) (by decide) (fun q => ?_)
  refine j_astore_n C dL_loops_12 rfl (by decide) rfl rfl ?_
  refine j_iconst (v := 1) C dL_loops_13 rfl ?_
  refine j_widen (Nat.le_of_eq (Nat.zero_add _)) (Nat.le_of_eq (Nat.zero_add _)) ?_
  exact j_iretO C hr dL_loops_14 rfl
theorem hdL_X4_put : yX4_put.cls = RX4 ∧ yX4_put.cls ≠ "java/lang/invoke/MethodHandle" ∧ yX4_put.cls ≠ "java/lang/invoke/VarHandle" ∧ (parseMethodDescriptor yX4_put.desc).map (fun d => d.parameters.length) = some 1 := by decide +kernel
theorem L_put_g {l : Launch} {g : jG} {x0 out : Nat} {z1 : Int64} {o : Nat → Int64} {W : va_W} {rm : Room} {v : Int32} {Good : va_W → Prop} (hM : jO l yX4_put wsX4_put rm g [.ref x0, .long z1] W (jOi v) Good) (hR : rm.frames + 1 ≤ 10 ∧ 8 + (3 + 11) + rm.locals ≤ 420) (hx : ∃ (i : Nat) (fs : List Value), W[i]? = some (x0, (.inr (3, fs) : va_E))) : jO l yL_put wsL_put ({ frames := 10, cells := rm.cells, slots := rm.slots, locals := 420 } : Room) g [.ref x0, .long z1, .ref out] ((out, jaL g 1 o) :: W) (jOi 0) (fun w => ∃ w1, Good w1 ∧ w = (out, jaL g 1 (vp_updL o 0 v.toInt64)) :: w1) := by
  refine j_enterH (rm := ({ frames := 10, cells := rm.cells, slots := rm.slots, locals := 420 } : Room)) (cc := cL_put) (maxL := 5) (ret := some .int) (hh := [(0, 9, 12, 13)]) (own := RL) (L := [(0, .ref x0), (1, .long z1), (3, .ref out)]) (by decide +kernel) rfl rfl (Nat.le_of_ble_eq_true rfl) rfl ?_
  intro p e s m args below meth c C hr htab hX hZ hN
  refine j_aload_n 2 C dL_put_0 rfl rfl ?_
  refine j_iconst (v := 0) C dL_put_1 rfl ?_
  refine j_aload_n 0 C dL_put_2 rfl rfl ?_
  refine j_lload_n 1 C dL_put_3 rfl rfl ?_
  refine j_oV (As := [.long z1]) (Fx := [(out, jaL g 1 o)]) (V := W) (rest := [.int 0, .ref out]) (v := .int v) (Cn := RX4) C hX hZ hN hM gL_put_X4_put rfl hdL_X4_put hR (List.Perm.refl _) hx (N := 8) (T := TX4) rfl dL_put_4 rfl (Nat.le_of_ble_eq_true rfl) ⟨Nat.le_of_eq (Nat.zero_add _), Nat.le_of_eq (Nat.zero_add _)⟩ rfl (fun w hw => ?_)
  refine j_i2l C dL_put_7 rfl ?_
  refine j_lastN (x := 0) 0 C dL_put_8 rfl rfl (by decide) (by decide) rfl ?_
  refine j_goto (tgt := 16) C dL_put_9 rfl ?_
  refine j_iconst (v := 0) C dL_put_16 rfl ?_
  refine j_widen (Nat.le_of_eq (Nat.zero_add _)) (Nat.le_of_eq (Nat.zero_add _)) ?_
  exact j_iretO C hr dL_put_17 ⟨w, hw, rfl⟩
theorem L_put_x1 {l : Launch} {g : jG} {x0 out : Nat} {z1 : Int64} {o : Nat → Int64} {W : va_W} {rm : Room} (hM : jOx l yX4_put wsX4_put rm g [.ref x0, .long z1] W "java/lang/IllegalStateException") (hR : rm.frames + 1 ≤ 10 ∧ 8 + (3 + 11) + rm.locals ≤ 420) (hx : ∃ (i : Nat) (fs : List Value), W[i]? = some (x0, (.inr (3, fs) : va_E))) : jO l yL_put wsL_put ({ frames := 10, cells := rm.cells, slots := rm.slots, locals := 420 } : Room) g [.ref x0, .long z1, .ref out] ((out, jaL g 1 o) :: W) (jOi 1) (fun w => w = (out, jaL g 1 o) :: W) := by
  refine j_enterH (rm := ({ frames := 10, cells := rm.cells, slots := rm.slots, locals := 420 } : Room)) (cc := cL_put) (maxL := 5) (ret := some .int) (hh := [(0, 9, 12, 13)]) (own := RL) (L := [(0, .ref x0), (1, .long z1), (3, .ref out)]) (by decide +kernel) rfl rfl (Nat.le_of_ble_eq_true rfl) rfl ?_
  intro p e s m args below meth c C hr htab hX hZ hN
  refine j_aload_n 2 C dL_put_0 rfl rfl ?_
  refine j_iconst (v := 0) C dL_put_1 rfl ?_
  refine j_aload_n 0 C dL_put_2 rfl rfl ?_
  refine j_lload_n 1 C dL_put_3 rfl rfl ?_
  refine j_oX (As := [.long z1]) (Fx := [(out, jaL g 1 o)]) (V := W) (rest := [.int 0, .ref out]) (E := "java/lang/IllegalStateException") (Cn := RX4) [] (⟨0, 9, 12, 13⟩ : ExceptionTableEntry) [] C hX hZ hN hM gL_put_X4_put rfl hdL_X4_put hR (List.Perm.refl _) hx (N := 8) (T := TX4) rfl dL_put_4 rfl (Nat.le_of_ble_eq_true rfl) ⟨Nat.le_of_eq (Nat.zero_add _), Nat.le_of_eq (Nat.zero_add _)⟩ htab (fun _ h => absurd h List.not_mem_nil) (by decide) (by decide) (List.mem_of_getElem? (i := 1) rfl) (by decide) (fun q => ?_)
  refine j_astore C dL_put_12 (by decide) rfl rfl ?_
  refine j_iconst (v := 1) C dL_put_14 rfl ?_
  refine j_widen (Nat.le_of_eq (Nat.zero_add _)) (Nat.le_of_eq (Nat.zero_add _)) ?_
  exact j_iretO C hr dL_put_15 rfl
theorem hdL_X4_run : yX4_run.cls = RX4 ∧ yX4_run.cls ≠ "java/lang/invoke/MethodHandle" ∧ yX4_run.cls ≠ "java/lang/invoke/VarHandle" ∧ (parseMethodDescriptor yX4_run.desc).map (fun d => d.parameters.length) = some 1 := by decide +kernel
theorem L_run_g {l : Launch} {g : jG} {x0 out : Nat} {a1 : Int32} {o : Nat → Int64} {W : va_W} {rm : Room} {v : Int32} {Good : va_W → Prop} (hM : jO l yX4_run wsX4_run rm g [.ref x0, .int a1] W (jOi v) Good) (hR : rm.frames + 1 ≤ 10 ∧ 8 + (3 + 11) + rm.locals ≤ 420) (hx : ∃ (i : Nat) (fs : List Value), W[i]? = some (x0, (.inr (3, fs) : va_E))) : jO l yL_run wsL_run ({ frames := 10, cells := rm.cells, slots := rm.slots, locals := 420 } : Room) g [.ref x0, .int a1, .ref out] ((out, jaL g 1 o) :: W) (jOi 0) (fun w => ∃ w1, Good w1 ∧ w = (out, jaL g 1 (vp_updL o 0 v.toInt64)) :: w1) := by
  refine j_enterH (rm := ({ frames := 10, cells := rm.cells, slots := rm.slots, locals := 420 } : Room)) (cc := cL_run) (maxL := 4) (ret := some .int) (hh := [(0, 9, 12, 19)]) (own := RL) (L := [(0, .ref x0), (1, .int a1), (2, .ref out)]) (by decide +kernel) rfl rfl (Nat.le_of_ble_eq_true rfl) rfl ?_
  intro p e s m args below meth c C hr htab hX hZ hN
  refine j_aload_n 2 C dL_run_0 rfl rfl ?_
  refine j_iconst (v := 0) C dL_run_1 rfl ?_
  refine j_aload_n 0 C dL_run_2 rfl rfl ?_
  refine j_iload_n 1 C dL_run_3 rfl rfl ?_
  refine j_oV (As := [.int a1]) (Fx := [(out, jaL g 1 o)]) (V := W) (rest := [.int 0, .ref out]) (v := .int v) (Cn := RX4) C hX hZ hN hM gL_run_X4_run rfl hdL_X4_run hR (List.Perm.refl _) hx (N := 8) (T := TX4) rfl dL_run_4 rfl (Nat.le_of_ble_eq_true rfl) ⟨Nat.le_of_eq (Nat.zero_add _), Nat.le_of_eq (Nat.zero_add _)⟩ rfl (fun w hw => ?_)
  refine j_i2l C dL_run_7 rfl ?_
  refine j_lastN (x := 0) 0 C dL_run_8 rfl rfl (by decide) (by decide) rfl ?_
  refine j_goto (tgt := 15) C dL_run_9 rfl ?_
  refine j_iconst (v := 0) C dL_run_15 rfl ?_
  refine j_widen (Nat.le_of_eq (Nat.zero_add _)) (Nat.le_of_eq (Nat.zero_add _)) ?_
  exact j_iretO C hr dL_run_16 ⟨w, hw, rfl⟩
theorem L_run_x1 {l : Launch} {g : jG} {x0 out : Nat} {a1 : Int32} {o : Nat → Int64} {W : va_W} {rm : Room} (hM : jOx l yX4_run wsX4_run rm g [.ref x0, .int a1] W "java/lang/IndexOutOfBoundsException") (hR : rm.frames + 1 ≤ 10 ∧ 8 + (3 + 11) + rm.locals ≤ 420) (hx : ∃ (i : Nat) (fs : List Value), W[i]? = some (x0, (.inr (3, fs) : va_E))) : jO l yL_run wsL_run ({ frames := 10, cells := rm.cells, slots := rm.slots, locals := 420 } : Room) g [.ref x0, .int a1, .ref out] ((out, jaL g 1 o) :: W) (jOi 1) (fun w => w = (out, jaL g 1 o) :: W) := by
  refine j_enterH (rm := ({ frames := 10, cells := rm.cells, slots := rm.slots, locals := 420 } : Room)) (cc := cL_run) (maxL := 4) (ret := some .int) (hh := [(0, 9, 12, 19)]) (own := RL) (L := [(0, .ref x0), (1, .int a1), (2, .ref out)]) (by decide +kernel) rfl rfl (Nat.le_of_ble_eq_true rfl) rfl ?_
  intro p e s m args below meth c C hr htab hX hZ hN
  refine j_aload_n 2 C dL_run_0 rfl rfl ?_
  refine j_iconst (v := 0) C dL_run_1 rfl ?_
  refine j_aload_n 0 C dL_run_2 rfl rfl ?_
  refine j_iload_n 1 C dL_run_3 rfl rfl ?_
  refine j_oX (As := [.int a1]) (Fx := [(out, jaL g 1 o)]) (V := W) (rest := [.int 0, .ref out]) (E := "java/lang/IndexOutOfBoundsException") (Cn := RX4) [] (⟨0, 9, 12, 19⟩ : ExceptionTableEntry) [] C hX hZ hN hM gL_run_X4_run rfl hdL_X4_run hR (List.Perm.refl _) hx (N := 8) (T := TX4) rfl dL_run_4 rfl (Nat.le_of_ble_eq_true rfl) ⟨Nat.le_of_eq (Nat.zero_add _), Nat.le_of_eq (Nat.zero_add _)⟩ htab (fun _ h => absurd h List.not_mem_nil) (by decide) (by decide) (List.mem_of_getElem? (i := 1) rfl) (by decide) (fun q => ?_)
  refine j_astore_n C dL_run_12 rfl (by decide) rfl rfl ?_
  refine j_iconst (v := 1) C dL_run_13 rfl ?_
  refine j_widen (Nat.le_of_eq (Nat.zero_add _)) (Nat.le_of_eq (Nat.zero_add _)) ?_
  exact j_iretO C hr dL_run_14 rfl
theorem hdL_X4_ran : yX4_ran.cls = RX4 ∧ yX4_ran.cls ≠ "java/lang/invoke/MethodHandle" ∧ yX4_ran.cls ≠ "java/lang/invoke/VarHandle" ∧ (parseMethodDescriptor yX4_ran.desc).map (fun d => d.parameters.length) = some 1 := by decide +kernel
theorem L_ran_g {l : Launch} {g : jG} {x0 out : Nat} {a1 : Int32} {o : Nat → Int64} {W : va_W} {rm : Room} {v : Int64} {Good : va_W → Prop} (hM : jO l yX4_ran wsX4_ran rm g [.ref x0, .int a1] W (jOl v) Good) (hR : rm.frames + 1 ≤ 10 ∧ 8 + (2 + 11) + rm.locals ≤ 420) (hx : ∃ (i : Nat) (fs : List Value), W[i]? = some (x0, (.inr (3, fs) : va_E))) : jO l yL_ran wsL_ran ({ frames := 10, cells := rm.cells, slots := rm.slots, locals := 420 } : Room) g [.ref x0, .int a1, .ref out] ((out, jaL g 1 o) :: W) (jOi 0) (fun w => ∃ w1, Good w1 ∧ w = (out, jaL g 1 (vp_updL o 0 v)) :: w1) := by
  refine j_enterH (rm := ({ frames := 10, cells := rm.cells, slots := rm.slots, locals := 420 } : Room)) (cc := cL_ran) (maxL := 4) (ret := some .int) (hh := [(0, 8, 11, 19)]) (own := RL) (L := [(0, .ref x0), (1, .int a1), (2, .ref out)]) (by decide +kernel) rfl rfl (Nat.le_of_ble_eq_true rfl) rfl ?_
  intro p e s m args below meth c C hr htab hX hZ hN
  refine j_aload_n 2 C dL_ran_0 rfl rfl ?_
  refine j_iconst (v := 0) C dL_ran_1 rfl ?_
  refine j_aload_n 0 C dL_ran_2 rfl rfl ?_
  refine j_iload_n 1 C dL_ran_3 rfl rfl ?_
  refine j_oV (As := [.int a1]) (Fx := [(out, jaL g 1 o)]) (V := W) (rest := [.int 0, .ref out]) (v := .long v) (Cn := RX4) C hX hZ hN hM gL_ran_X4_ran rfl hdL_X4_ran hR (List.Perm.refl _) hx (N := 8) (T := TX4) rfl dL_ran_4 rfl (Nat.le_of_ble_eq_true rfl) ⟨Nat.le_of_eq (Nat.zero_add _), Nat.le_of_eq (Nat.zero_add _)⟩ rfl (fun w hw => ?_)
  refine j_lastN (x := 0) 0 C dL_ran_7 rfl rfl (by decide) (by decide) rfl ?_
  refine j_goto (tgt := 14) C dL_ran_8 rfl ?_
  refine j_iconst (v := 0) C dL_ran_14 rfl ?_
  refine j_widen (Nat.le_of_eq (Nat.zero_add _)) (Nat.le_of_eq (Nat.zero_add _)) ?_
  exact j_iretO C hr dL_ran_15 ⟨w, hw, rfl⟩
theorem L_ran_x1 {l : Launch} {g : jG} {x0 out : Nat} {a1 : Int32} {o : Nat → Int64} {W : va_W} {rm : Room} (hM : jOx l yX4_ran wsX4_ran rm g [.ref x0, .int a1] W "java/lang/IndexOutOfBoundsException") (hR : rm.frames + 1 ≤ 10 ∧ 8 + (2 + 11) + rm.locals ≤ 420) (hx : ∃ (i : Nat) (fs : List Value), W[i]? = some (x0, (.inr (3, fs) : va_E))) : jO l yL_ran wsL_ran ({ frames := 10, cells := rm.cells, slots := rm.slots, locals := 420 } : Room) g [.ref x0, .int a1, .ref out] ((out, jaL g 1 o) :: W) (jOi 1) (fun w => w = (out, jaL g 1 o) :: W) := by
  refine j_enterH (rm := ({ frames := 10, cells := rm.cells, slots := rm.slots, locals := 420 } : Room)) (cc := cL_ran) (maxL := 4) (ret := some .int) (hh := [(0, 8, 11, 19)]) (own := RL) (L := [(0, .ref x0), (1, .int a1), (2, .ref out)]) (by decide +kernel) rfl rfl (Nat.le_of_ble_eq_true rfl) rfl ?_
  intro p e s m args below meth c C hr htab hX hZ hN
  refine j_aload_n 2 C dL_ran_0 rfl rfl ?_
  refine j_iconst (v := 0) C dL_ran_1 rfl ?_
  refine j_aload_n 0 C dL_ran_2 rfl rfl ?_
  refine j_iload_n 1 C dL_ran_3 rfl rfl ?_
  refine j_oX (As := [.int a1]) (Fx := [(out, jaL g 1 o)]) (V := W) (rest := [.int 0, .ref out]) (E := "java/lang/IndexOutOfBoundsException") (Cn := RX4) [] (⟨0, 8, 11, 19⟩ : ExceptionTableEntry) [] C hX hZ hN hM gL_ran_X4_ran rfl hdL_X4_ran hR (List.Perm.refl _) hx (N := 8) (T := TX4) rfl dL_ran_4 rfl (Nat.le_of_ble_eq_true rfl) ⟨Nat.le_of_eq (Nat.zero_add _), Nat.le_of_eq (Nat.zero_add _)⟩ htab (fun _ h => absurd h List.not_mem_nil) (by decide) (by decide) (List.mem_of_getElem? (i := 1) rfl) (by decide) (fun q => ?_)
  refine j_astore_n C dL_ran_11 rfl (by decide) rfl rfl ?_
  refine j_iconst (v := 1) C dL_ran_12 rfl ?_
  refine j_widen (Nat.le_of_eq (Nat.zero_add _)) (Nat.le_of_eq (Nat.zero_add _)) ?_
  exact j_iretO C hr dL_ran_13 rfl
theorem hdL_X4_reason : yX4_reason.cls = RX4 ∧ yX4_reason.cls ≠ "java/lang/invoke/MethodHandle" ∧ yX4_reason.cls ≠ "java/lang/invoke/VarHandle" ∧ (parseMethodDescriptor yX4_reason.desc).map (fun d => d.parameters.length) = some 4 := by decide +kernel
theorem L_reason_g {l : Launch} {g : jG} {x0 out : Nat} {a1 : Int32} {a2 : Int32} {a3 : Int32} {a4 : Int32} {o : Nat → Int64} {W : va_W} {rm : Room} {v : Int32} {Good : va_W → Prop} (hM : jO l yX4_reason wsX4_reason rm g [.ref x0, .int a1, .int a2, .int a3, .int a4] W (jOi v) Good) (hR : rm.frames + 1 ≤ 10 ∧ 8 + (6 + 11) + rm.locals ≤ 420) (hx : ∃ (i : Nat) (fs : List Value), W[i]? = some (x0, (.inr (3, fs) : va_E))) : jO l yL_reason wsL_reason ({ frames := 10, cells := rm.cells, slots := rm.slots, locals := 420 } : Room) g [.ref x0, .int a1, .int a2, .int a3, .int a4, .ref out] ((out, jaL g 1 o) :: W) (jOi 0) (fun w => ∃ w1, Good w1 ∧ w = (out, jaL g 1 (vp_updL o 0 v.toInt64)) :: w1) := by
  refine j_enterH (rm := ({ frames := 10, cells := rm.cells, slots := rm.slots, locals := 420 } : Room)) (cc := cL_reason) (maxL := 7) (ret := some .int) (hh := [(0, 14, 17, 19), (0, 14, 21, 21)]) (own := RL) (L := [(0, .ref x0), (1, .int a1), (2, .int a2), (3, .int a3), (4, .int a4), (5, .ref out)]) (by decide +kernel) rfl rfl (Nat.le_of_ble_eq_true rfl) rfl ?_
  intro p e s m args below meth c C hr htab hX hZ hN
  refine j_aload 5 C dL_reason_0 rfl ?_
  refine j_iconst (v := 0) C dL_reason_2 rfl ?_
  refine j_aload_n 0 C dL_reason_3 rfl rfl ?_
  refine j_iload_n 1 C dL_reason_4 rfl rfl ?_
  refine j_iload_n 2 C dL_reason_5 rfl rfl ?_
  refine j_iload_n 3 C dL_reason_6 rfl rfl ?_
  refine j_iload 4 C dL_reason_7 rfl ?_
  refine j_oV (As := [.int a1, .int a2, .int a3, .int a4]) (Fx := [(out, jaL g 1 o)]) (V := W) (rest := [.int 0, .ref out]) (v := .int v) (Cn := RX4) C hX hZ hN hM gL_reason_X4_reason rfl hdL_X4_reason hR (List.Perm.refl _) hx (N := 8) (T := TX4) rfl dL_reason_9 rfl (Nat.le_of_ble_eq_true rfl) ⟨Nat.le_of_eq (Nat.zero_add _), Nat.le_of_eq (Nat.zero_add _)⟩ rfl (fun w hw => ?_)
  refine j_i2l C dL_reason_12 rfl ?_
  refine j_lastN (x := 0) 0 C dL_reason_13 rfl rfl (by decide) (by decide) rfl ?_
  refine j_goto (tgt := 25) C dL_reason_14 rfl ?_
  refine j_iconst (v := 0) C dL_reason_25 rfl ?_
  refine j_widen (Nat.le_of_eq (Nat.zero_add _)) (Nat.le_of_eq (Nat.zero_add _)) ?_
  exact j_iretO C hr dL_reason_26 ⟨w, hw, rfl⟩
theorem L_reason_x1 {l : Launch} {g : jG} {x0 out : Nat} {a1 : Int32} {a2 : Int32} {a3 : Int32} {a4 : Int32} {o : Nat → Int64} {W : va_W} {rm : Room} (hM : jOx l yX4_reason wsX4_reason rm g [.ref x0, .int a1, .int a2, .int a3, .int a4] W "java/lang/IndexOutOfBoundsException") (hR : rm.frames + 1 ≤ 10 ∧ 8 + (6 + 11) + rm.locals ≤ 420) (hx : ∃ (i : Nat) (fs : List Value), W[i]? = some (x0, (.inr (3, fs) : va_E))) : jO l yL_reason wsL_reason ({ frames := 10, cells := rm.cells, slots := rm.slots, locals := 420 } : Room) g [.ref x0, .int a1, .int a2, .int a3, .int a4, .ref out] ((out, jaL g 1 o) :: W) (jOi 1) (fun w => w = (out, jaL g 1 o) :: W) := by
  refine j_enterH (rm := ({ frames := 10, cells := rm.cells, slots := rm.slots, locals := 420 } : Room)) (cc := cL_reason) (maxL := 7) (ret := some .int) (hh := [(0, 14, 17, 19), (0, 14, 21, 21)]) (own := RL) (L := [(0, .ref x0), (1, .int a1), (2, .int a2), (3, .int a3), (4, .int a4), (5, .ref out)]) (by decide +kernel) rfl rfl (Nat.le_of_ble_eq_true rfl) rfl ?_
  intro p e s m args below meth c C hr htab hX hZ hN
  refine j_aload 5 C dL_reason_0 rfl ?_
  refine j_iconst (v := 0) C dL_reason_2 rfl ?_
  refine j_aload_n 0 C dL_reason_3 rfl rfl ?_
  refine j_iload_n 1 C dL_reason_4 rfl rfl ?_
  refine j_iload_n 2 C dL_reason_5 rfl rfl ?_
  refine j_iload_n 3 C dL_reason_6 rfl rfl ?_
  refine j_iload 4 C dL_reason_7 rfl ?_
  refine j_oX (As := [.int a1, .int a2, .int a3, .int a4]) (Fx := [(out, jaL g 1 o)]) (V := W) (rest := [.int 0, .ref out]) (E := "java/lang/IndexOutOfBoundsException") (Cn := RX4) [] (⟨0, 14, 17, 19⟩ : ExceptionTableEntry) [(⟨0, 14, 21, 21⟩ : ExceptionTableEntry)] C hX hZ hN hM gL_reason_X4_reason rfl hdL_X4_reason hR (List.Perm.refl _) hx (N := 8) (T := TX4) rfl dL_reason_9 rfl (Nat.le_of_ble_eq_true rfl) ⟨Nat.le_of_eq (Nat.zero_add _), Nat.le_of_eq (Nat.zero_add _)⟩ htab (fun _ h => absurd h List.not_mem_nil) (by decide) (by decide) (List.mem_of_getElem? (i := 1) rfl) (by decide) (fun q => ?_)
  refine j_astore C dL_reason_17 (by decide) rfl rfl ?_
  refine j_iconst (v := 1) C dL_reason_19 rfl ?_
  refine j_widen (Nat.le_of_eq (Nat.zero_add _)) (Nat.le_of_eq (Nat.zero_add _)) ?_
  exact j_iretO C hr dL_reason_20 rfl
theorem L_reason_x2 {l : Launch} {g : jG} {x0 out : Nat} {a1 : Int32} {a2 : Int32} {a3 : Int32} {a4 : Int32} {o : Nat → Int64} {W : va_W} {rm : Room} (hM : jOx l yX4_reason wsX4_reason rm g [.ref x0, .int a1, .int a2, .int a3, .int a4] W "java/lang/IllegalArgumentException") (hR : rm.frames + 1 ≤ 10 ∧ 8 + (6 + 11) + rm.locals ≤ 420) (hx : ∃ (i : Nat) (fs : List Value), W[i]? = some (x0, (.inr (3, fs) : va_E))) : jO l yL_reason wsL_reason ({ frames := 10, cells := rm.cells, slots := rm.slots, locals := 420 } : Room) g [.ref x0, .int a1, .int a2, .int a3, .int a4, .ref out] ((out, jaL g 1 o) :: W) (jOi 2) (fun w => w = (out, jaL g 1 o) :: W) := by
  refine j_enterH (rm := ({ frames := 10, cells := rm.cells, slots := rm.slots, locals := 420 } : Room)) (cc := cL_reason) (maxL := 7) (ret := some .int) (hh := [(0, 14, 17, 19), (0, 14, 21, 21)]) (own := RL) (L := [(0, .ref x0), (1, .int a1), (2, .int a2), (3, .int a3), (4, .int a4), (5, .ref out)]) (by decide +kernel) rfl rfl (Nat.le_of_ble_eq_true rfl) rfl ?_
  intro p e s m args below meth c C hr htab hX hZ hN
  refine j_aload 5 C dL_reason_0 rfl ?_
  refine j_iconst (v := 0) C dL_reason_2 rfl ?_
  refine j_aload_n 0 C dL_reason_3 rfl rfl ?_
  refine j_iload_n 1 C dL_reason_4 rfl rfl ?_
  refine j_iload_n 2 C dL_reason_5 rfl rfl ?_
  refine j_iload_n 3 C dL_reason_6 rfl rfl ?_
  refine j_iload 4 C dL_reason_7 rfl ?_
  refine j_oX (As := [.int a1, .int a2, .int a3, .int a4]) (Fx := [(out, jaL g 1 o)]) (V := W) (rest := [.int 0, .ref out]) (E := "java/lang/IllegalArgumentException") (Cn := RX4) [(⟨0, 14, 17, 19⟩ : ExceptionTableEntry)] (⟨0, 14, 21, 21⟩ : ExceptionTableEntry) [] C hX hZ hN hM gL_reason_X4_reason rfl hdL_X4_reason hR (List.Perm.refl _) hx (N := 8) (T := TX4) rfl dL_reason_9 rfl (Nat.le_of_ble_eq_true rfl) ⟨Nat.le_of_eq (Nat.zero_add _), Nat.le_of_eq (Nat.zero_add _)⟩ htab (List.forall_mem_cons.mpr ⟨Or.inr ⟨by decide, "java/lang/IndexOutOfBoundsException", C.2.2.2.2.1 _ (List.mem_of_getElem? (i := 1) rfl), hN.1⟩, fun _ h => absurd h List.not_mem_nil⟩) (by decide) (by decide) (List.mem_of_getElem? (i := 2) rfl) (by decide) (fun q => ?_)
  refine j_astore C dL_reason_21 (by decide) rfl rfl ?_
  refine j_iconst (v := 2) C dL_reason_23 rfl ?_
  refine j_widen (Nat.le_of_eq (Nat.zero_add _)) (Nat.le_of_eq (Nat.zero_add _)) ?_
  exact j_iretO C hr dL_reason_24 rfl
theorem hdL_X4_change : yX4_change.cls = RX4 ∧ yX4_change.cls ≠ "java/lang/invoke/MethodHandle" ∧ yX4_change.cls ≠ "java/lang/invoke/VarHandle" ∧ (parseMethodDescriptor yX4_change.desc).map (fun d => d.parameters.length) = some 4 := by decide +kernel
theorem L_change_g {l : Launch} {g : jG} {x0 out : Nat} {a1 : Int32} {a2 : Int32} {a3 : Int32} {a4 : Int32} {o : Nat → Int64} {W : va_W} {rm : Room} {v : Int32} {Good : va_W → Prop} (hM : jO l yX4_change wsX4_change rm g [.ref x0, .int a1, .int a2, .int a3, .int a4] W (jOi v) Good) (hR : rm.frames + 1 ≤ 10 ∧ 8 + (7 + 11) + rm.locals ≤ 420) (hx : ∃ (i : Nat) (fs : List Value), W[i]? = some (x0, (.inr (3, fs) : va_E))) : jO l yL_change wsL_change ({ frames := 10, cells := rm.cells, slots := rm.slots, locals := 420 } : Room) g [.ref x0, .int a1, .int a2, .int a3, .int a4, .ref out] ((out, jaL g 1 o) :: W) (jOi 0) (fun w => ∃ w1, Good w1 ∧ w = (out, jaL g 1 (vp_updL o 0 v.toInt64)) :: w1) := by
  refine j_enterH (rm := ({ frames := 10, cells := rm.cells, slots := rm.slots, locals := 420 } : Room)) (cc := cL_change) (maxL := 7) (ret := some .int) (hh := [(0, 14, 17, 19), (0, 14, 21, 21), (0, 14, 25, 13)]) (own := RL) (L := [(0, .ref x0), (1, .int a1), (2, .int a2), (3, .int a3), (4, .int a4), (5, .ref out)]) (by decide +kernel) rfl rfl (Nat.le_of_ble_eq_true rfl) rfl ?_
  intro p e s m args below meth c C hr htab hX hZ hN
  refine j_aload 5 C dL_change_0 rfl ?_
  refine j_iconst (v := 0) C dL_change_2 rfl ?_
  refine j_aload_n 0 C dL_change_3 rfl rfl ?_
  refine j_iload_n 1 C dL_change_4 rfl rfl ?_
  refine j_iload_n 2 C dL_change_5 rfl rfl ?_
  refine j_iload_n 3 C dL_change_6 rfl rfl ?_
  refine j_iload 4 C dL_change_7 rfl ?_
  refine j_oV (As := [.int a1, .int a2, .int a3, .int a4]) (Fx := [(out, jaL g 1 o)]) (V := W) (rest := [.int 0, .ref out]) (v := .int v) (Cn := RX4) C hX hZ hN hM gL_change_X4_change rfl hdL_X4_change hR (List.Perm.refl _) hx (N := 8) (T := TX4) rfl dL_change_9 rfl (Nat.le_of_ble_eq_true rfl) ⟨Nat.le_of_eq (Nat.zero_add _), Nat.le_of_eq (Nat.zero_add _)⟩ rfl (fun w hw => ?_)
  refine j_i2l C dL_change_12 rfl ?_
  refine j_lastN (x := 0) 0 C dL_change_13 rfl rfl (by decide) (by decide) rfl ?_
  refine j_goto (tgt := 29) C dL_change_14 rfl ?_
  refine j_iconst (v := 0) C dL_change_29 rfl ?_
  refine j_widen (Nat.le_of_eq (Nat.zero_add _)) (Nat.le_of_eq (Nat.zero_add _)) ?_
  exact j_iretO C hr dL_change_30 ⟨w, hw, rfl⟩
theorem L_change_x1 {l : Launch} {g : jG} {x0 out : Nat} {a1 : Int32} {a2 : Int32} {a3 : Int32} {a4 : Int32} {o : Nat → Int64} {W : va_W} {rm : Room} (hM : jOx l yX4_change wsX4_change rm g [.ref x0, .int a1, .int a2, .int a3, .int a4] W "java/lang/IndexOutOfBoundsException") (hR : rm.frames + 1 ≤ 10 ∧ 8 + (7 + 11) + rm.locals ≤ 420) (hx : ∃ (i : Nat) (fs : List Value), W[i]? = some (x0, (.inr (3, fs) : va_E))) : jO l yL_change wsL_change ({ frames := 10, cells := rm.cells, slots := rm.slots, locals := 420 } : Room) g [.ref x0, .int a1, .int a2, .int a3, .int a4, .ref out] ((out, jaL g 1 o) :: W) (jOi 1) (fun w => w = (out, jaL g 1 o) :: W) := by
  refine j_enterH (rm := ({ frames := 10, cells := rm.cells, slots := rm.slots, locals := 420 } : Room)) (cc := cL_change) (maxL := 7) (ret := some .int) (hh := [(0, 14, 17, 19), (0, 14, 21, 21), (0, 14, 25, 13)]) (own := RL) (L := [(0, .ref x0), (1, .int a1), (2, .int a2), (3, .int a3), (4, .int a4), (5, .ref out)]) (by decide +kernel) rfl rfl (Nat.le_of_ble_eq_true rfl) rfl ?_
  intro p e s m args below meth c C hr htab hX hZ hN
  refine j_aload 5 C dL_change_0 rfl ?_
  refine j_iconst (v := 0) C dL_change_2 rfl ?_
  refine j_aload_n 0 C dL_change_3 rfl rfl ?_
  refine j_iload_n 1 C dL_change_4 rfl rfl ?_
  refine j_iload_n 2 C dL_change_5 rfl rfl ?_
  refine j_iload_n 3 C dL_change_6 rfl rfl ?_
  refine j_iload 4 C dL_change_7 rfl ?_
  refine j_oX (As := [.int a1, .int a2, .int a3, .int a4]) (Fx := [(out, jaL g 1 o)]) (V := W) (rest := [.int 0, .ref out]) (E := "java/lang/IndexOutOfBoundsException") (Cn := RX4) [] (⟨0, 14, 17, 19⟩ : ExceptionTableEntry) [(⟨0, 14, 21, 21⟩ : ExceptionTableEntry), (⟨0, 14, 25, 13⟩ : ExceptionTableEntry)] C hX hZ hN hM gL_change_X4_change rfl hdL_X4_change hR (List.Perm.refl _) hx (N := 8) (T := TX4) rfl dL_change_9 rfl (Nat.le_of_ble_eq_true rfl) ⟨Nat.le_of_eq (Nat.zero_add _), Nat.le_of_eq (Nat.zero_add _)⟩ htab (fun _ h => absurd h List.not_mem_nil) (by decide) (by decide) (List.mem_of_getElem? (i := 1) rfl) (by decide) (fun q => ?_)
  refine j_astore C dL_change_17 (by decide) rfl rfl ?_
  refine j_iconst (v := 1) C dL_change_19 rfl ?_
  refine j_widen (Nat.le_of_eq (Nat.zero_add _)) (Nat.le_of_eq (Nat.zero_add _)) ?_
  exact j_iretO C hr dL_change_20 rfl
theorem L_change_x2 {l : Launch} {g : jG} {x0 out : Nat} {a1 : Int32} {a2 : Int32} {a3 : Int32} {a4 : Int32} {o : Nat → Int64} {W : va_W} {rm : Room} (hM : jOx l yX4_change wsX4_change rm g [.ref x0, .int a1, .int a2, .int a3, .int a4] W "java/lang/IllegalArgumentException") (hR : rm.frames + 1 ≤ 10 ∧ 8 + (7 + 11) + rm.locals ≤ 420) (hx : ∃ (i : Nat) (fs : List Value), W[i]? = some (x0, (.inr (3, fs) : va_E))) : jO l yL_change wsL_change ({ frames := 10, cells := rm.cells, slots := rm.slots, locals := 420 } : Room) g [.ref x0, .int a1, .int a2, .int a3, .int a4, .ref out] ((out, jaL g 1 o) :: W) (jOi 2) (fun w => w = (out, jaL g 1 o) :: W) := by
  refine j_enterH (rm := ({ frames := 10, cells := rm.cells, slots := rm.slots, locals := 420 } : Room)) (cc := cL_change) (maxL := 7) (ret := some .int) (hh := [(0, 14, 17, 19), (0, 14, 21, 21), (0, 14, 25, 13)]) (own := RL) (L := [(0, .ref x0), (1, .int a1), (2, .int a2), (3, .int a3), (4, .int a4), (5, .ref out)]) (by decide +kernel) rfl rfl (Nat.le_of_ble_eq_true rfl) rfl ?_
  intro p e s m args below meth c C hr htab hX hZ hN
  refine j_aload 5 C dL_change_0 rfl ?_
  refine j_iconst (v := 0) C dL_change_2 rfl ?_
  refine j_aload_n 0 C dL_change_3 rfl rfl ?_
  refine j_iload_n 1 C dL_change_4 rfl rfl ?_
  refine j_iload_n 2 C dL_change_5 rfl rfl ?_
  refine j_iload_n 3 C dL_change_6 rfl rfl ?_
  refine j_iload 4 C dL_change_7 rfl ?_
  refine j_oX (As := [.int a1, .int a2, .int a3, .int a4]) (Fx := [(out, jaL g 1 o)]) (V := W) (rest := [.int 0, .ref out]) (E := "java/lang/IllegalArgumentException") (Cn := RX4) [(⟨0, 14, 17, 19⟩ : ExceptionTableEntry)] (⟨0, 14, 21, 21⟩ : ExceptionTableEntry) [(⟨0, 14, 25, 13⟩ : ExceptionTableEntry)] C hX hZ hN hM gL_change_X4_change rfl hdL_X4_change hR (List.Perm.refl _) hx (N := 8) (T := TX4) rfl dL_change_9 rfl (Nat.le_of_ble_eq_true rfl) ⟨Nat.le_of_eq (Nat.zero_add _), Nat.le_of_eq (Nat.zero_add _)⟩ htab (List.forall_mem_cons.mpr ⟨Or.inr ⟨by decide, "java/lang/IndexOutOfBoundsException", C.2.2.2.2.1 _ (List.mem_of_getElem? (i := 1) rfl), hN.1⟩, fun _ h => absurd h List.not_mem_nil⟩) (by decide) (by decide) (List.mem_of_getElem? (i := 2) rfl) (by decide) (fun q => ?_)
  refine j_astore C dL_change_21 (by decide) rfl rfl ?_
  refine j_iconst (v := 2) C dL_change_23 rfl ?_
  refine j_widen (Nat.le_of_eq (Nat.zero_add _)) (Nat.le_of_eq (Nat.zero_add _)) ?_
  exact j_iretO C hr dL_change_24 rfl
theorem L_change_x3 {l : Launch} {g : jG} {x0 out : Nat} {a1 : Int32} {a2 : Int32} {a3 : Int32} {a4 : Int32} {o : Nat → Int64} {W : va_W} {rm : Room} (hM : jOx l yX4_change wsX4_change rm g [.ref x0, .int a1, .int a2, .int a3, .int a4] W "java/lang/IllegalStateException") (hR : rm.frames + 1 ≤ 10 ∧ 8 + (7 + 11) + rm.locals ≤ 420) (hx : ∃ (i : Nat) (fs : List Value), W[i]? = some (x0, (.inr (3, fs) : va_E))) : jO l yL_change wsL_change ({ frames := 10, cells := rm.cells, slots := rm.slots, locals := 420 } : Room) g [.ref x0, .int a1, .int a2, .int a3, .int a4, .ref out] ((out, jaL g 1 o) :: W) (jOi 3) (fun w => w = (out, jaL g 1 o) :: W) := by
  refine j_enterH (rm := ({ frames := 10, cells := rm.cells, slots := rm.slots, locals := 420 } : Room)) (cc := cL_change) (maxL := 7) (ret := some .int) (hh := [(0, 14, 17, 19), (0, 14, 21, 21), (0, 14, 25, 13)]) (own := RL) (L := [(0, .ref x0), (1, .int a1), (2, .int a2), (3, .int a3), (4, .int a4), (5, .ref out)]) (by decide +kernel) rfl rfl (Nat.le_of_ble_eq_true rfl) rfl ?_
  intro p e s m args below meth c C hr htab hX hZ hN
  refine j_aload 5 C dL_change_0 rfl ?_
  refine j_iconst (v := 0) C dL_change_2 rfl ?_
  refine j_aload_n 0 C dL_change_3 rfl rfl ?_
  refine j_iload_n 1 C dL_change_4 rfl rfl ?_
  refine j_iload_n 2 C dL_change_5 rfl rfl ?_
  refine j_iload_n 3 C dL_change_6 rfl rfl ?_
  refine j_iload 4 C dL_change_7 rfl ?_
  refine j_oX (As := [.int a1, .int a2, .int a3, .int a4]) (Fx := [(out, jaL g 1 o)]) (V := W) (rest := [.int 0, .ref out]) (E := "java/lang/IllegalStateException") (Cn := RX4) [(⟨0, 14, 17, 19⟩ : ExceptionTableEntry), (⟨0, 14, 21, 21⟩ : ExceptionTableEntry)] (⟨0, 14, 25, 13⟩ : ExceptionTableEntry) [] C hX hZ hN hM gL_change_X4_change rfl hdL_X4_change hR (List.Perm.refl _) hx (N := 8) (T := TX4) rfl dL_change_9 rfl (Nat.le_of_ble_eq_true rfl) ⟨Nat.le_of_eq (Nat.zero_add _), Nat.le_of_eq (Nat.zero_add _)⟩ htab (List.forall_mem_cons.mpr ⟨Or.inr ⟨by decide, "java/lang/IndexOutOfBoundsException", C.2.2.2.2.1 _ (List.mem_of_getElem? (i := 1) rfl), hN.2.1⟩, List.forall_mem_cons.mpr ⟨Or.inr ⟨by decide, "java/lang/IllegalArgumentException", C.2.2.2.2.1 _ (List.mem_of_getElem? (i := 2) rfl), hN.2.2⟩, fun _ h => absurd h List.not_mem_nil⟩⟩) (by decide) (by decide) (List.mem_of_getElem? (i := 3) rfl) (by decide) (fun q => ?_)
  refine j_astore C dL_change_25 (by decide) rfl rfl ?_
  refine j_iconst (v := 3) C dL_change_27 rfl ?_
  refine j_widen (Nat.le_of_eq (Nat.zero_add _)) (Nat.le_of_eq (Nat.zero_add _)) ?_
  exact j_iretO C hr dL_change_28 rfl
theorem hdL_X4_joinAll : yX4_joinAll.cls = RX4 ∧ yX4_joinAll.cls ≠ "java/lang/invoke/MethodHandle" ∧ yX4_joinAll.cls ≠ "java/lang/invoke/VarHandle" ∧ (parseMethodDescriptor yX4_joinAll.desc).map (fun d => d.parameters.length) = some 1 := by decide +kernel
theorem L_joinAll_g {l : Launch} {g : jG} {x0 out : Nat} {a1 : Int32} {o : Nat → Int64} {W : va_W} {rm : Room} {v : Int32} {Good : va_W → Prop} (hM : jO l yX4_joinAll wsX4_joinAll rm g [.ref x0, .int a1] W (jOi v) Good) (hR : rm.frames + 1 ≤ 10 ∧ 8 + (5 + 11) + rm.locals ≤ 420) (hx : ∃ (i : Nat) (fs : List Value), W[i]? = some (x0, (.inr (3, fs) : va_E))) : jO l yL_joinAll wsL_joinAll ({ frames := 10, cells := rm.cells, slots := rm.slots, locals := 420 } : Room) g [.ref x0, .int a1, .ref out] ((out, jaL g 1 o) :: W) (jOi 0) (fun w => ∃ w1, Good w1 ∧ w = (out, jaL g 1 (vp_updL o 0 v.toInt64)) :: w1) := by
  refine j_enterH (rm := ({ frames := 10, cells := rm.cells, slots := rm.slots, locals := 420 } : Room)) (cc := cL_joinAll) (maxL := 4) (ret := some .int) (hh := [(0, 9, 12, 19)]) (own := RL) (L := [(0, .ref x0), (1, .int a1), (2, .ref out)]) (by decide +kernel) rfl rfl (Nat.le_of_ble_eq_true rfl) rfl ?_
  intro p e s m args below meth c C hr htab hX hZ hN
  refine j_aload_n 2 C dL_joinAll_0 rfl rfl ?_
  refine j_iconst (v := 0) C dL_joinAll_1 rfl ?_
  refine j_aload_n 0 C dL_joinAll_2 rfl rfl ?_
  refine j_iload_n 1 C dL_joinAll_3 rfl rfl ?_
  refine j_oV (As := [.int a1]) (Fx := [(out, jaL g 1 o)]) (V := W) (rest := [.int 0, .ref out]) (v := .int v) (Cn := RX4) C hX hZ hN hM gL_joinAll_X4_joinAll rfl hdL_X4_joinAll hR (List.Perm.refl _) hx (N := 8) (T := TX4) rfl dL_joinAll_4 rfl (Nat.le_of_ble_eq_true rfl) ⟨Nat.le_of_eq (Nat.zero_add _), Nat.le_of_eq (Nat.zero_add _)⟩ rfl (fun w hw => ?_)
  refine j_i2l C dL_joinAll_7 rfl ?_
  refine j_lastN (x := 0) 0 C dL_joinAll_8 rfl rfl (by decide) (by decide) rfl ?_
  refine j_goto (tgt := 15) C dL_joinAll_9 rfl ?_
  refine j_iconst (v := 0) C dL_joinAll_15 rfl ?_
  refine j_widen (Nat.le_of_eq (Nat.zero_add _)) (Nat.le_of_eq (Nat.zero_add _)) ?_
  exact j_iretO C hr dL_joinAll_16 ⟨w, hw, rfl⟩
theorem L_joinAll_x1 {l : Launch} {g : jG} {x0 out : Nat} {a1 : Int32} {o : Nat → Int64} {W : va_W} {rm : Room} (hM : jOx l yX4_joinAll wsX4_joinAll rm g [.ref x0, .int a1] W "java/lang/IndexOutOfBoundsException") (hR : rm.frames + 1 ≤ 10 ∧ 8 + (5 + 11) + rm.locals ≤ 420) (hx : ∃ (i : Nat) (fs : List Value), W[i]? = some (x0, (.inr (3, fs) : va_E))) : jO l yL_joinAll wsL_joinAll ({ frames := 10, cells := rm.cells, slots := rm.slots, locals := 420 } : Room) g [.ref x0, .int a1, .ref out] ((out, jaL g 1 o) :: W) (jOi 1) (fun w => w = (out, jaL g 1 o) :: W) := by
  refine j_enterH (rm := ({ frames := 10, cells := rm.cells, slots := rm.slots, locals := 420 } : Room)) (cc := cL_joinAll) (maxL := 4) (ret := some .int) (hh := [(0, 9, 12, 19)]) (own := RL) (L := [(0, .ref x0), (1, .int a1), (2, .ref out)]) (by decide +kernel) rfl rfl (Nat.le_of_ble_eq_true rfl) rfl ?_
  intro p e s m args below meth c C hr htab hX hZ hN
  refine j_aload_n 2 C dL_joinAll_0 rfl rfl ?_
  refine j_iconst (v := 0) C dL_joinAll_1 rfl ?_
  refine j_aload_n 0 C dL_joinAll_2 rfl rfl ?_
  refine j_iload_n 1 C dL_joinAll_3 rfl rfl ?_
  refine j_oX (As := [.int a1]) (Fx := [(out, jaL g 1 o)]) (V := W) (rest := [.int 0, .ref out]) (E := "java/lang/IndexOutOfBoundsException") (Cn := RX4) [] (⟨0, 9, 12, 19⟩ : ExceptionTableEntry) [] C hX hZ hN hM gL_joinAll_X4_joinAll rfl hdL_X4_joinAll hR (List.Perm.refl _) hx (N := 8) (T := TX4) rfl dL_joinAll_4 rfl (Nat.le_of_ble_eq_true rfl) ⟨Nat.le_of_eq (Nat.zero_add _), Nat.le_of_eq (Nat.zero_add _)⟩ htab (fun _ h => absurd h List.not_mem_nil) (by decide) (by decide) (List.mem_of_getElem? (i := 1) rfl) (by decide) (fun q => ?_)
  refine j_astore_n C dL_joinAll_12 rfl (by decide) rfl rfl ?_
  refine j_iconst (v := 1) C dL_joinAll_13 rfl ?_
  refine j_widen (Nat.le_of_eq (Nat.zero_add _)) (Nat.le_of_eq (Nat.zero_add _)) ?_
  exact j_iretO C hr dL_joinAll_14 rfl
theorem hdL_X4_differ : yX4_differ.cls = RX4 ∧ yX4_differ.cls ≠ "java/lang/invoke/MethodHandle" ∧ yX4_differ.cls ≠ "java/lang/invoke/VarHandle" ∧ (parseMethodDescriptor yX4_differ.desc).map (fun d => d.parameters.length) = some 4 := by decide +kernel
theorem L_differ_g {l : Launch} {g : jG} {x0 out : Nat} {a1 : Int32} {a2 : Int32} {a3 : Int32} {a4 : Int32} {o : Nat → Int64} {W : va_W} {rm : Room} {v : Int32} {Good : va_W → Prop} (hM : jO l yX4_differ wsX4_differ rm g [.ref x0, .int a1, .int a2, .int a3, .int a4] W (jOi v) Good) (hR : rm.frames + 1 ≤ 10 ∧ 8 + (10 + 11) + rm.locals ≤ 420) (hx : ∃ (i : Nat) (fs : List Value), W[i]? = some (x0, (.inr (3, fs) : va_E))) : jO l yL_differ wsL_differ ({ frames := 10, cells := rm.cells, slots := rm.slots, locals := 420 } : Room) g [.ref x0, .int a1, .int a2, .int a3, .int a4, .ref out] ((out, jaL g 1 o) :: W) (jOi 0) (fun w => ∃ w1, Good w1 ∧ w = (out, jaL g 1 (vp_updL o 0 v.toInt64)) :: w1) := by
  refine j_enterH (rm := ({ frames := 10, cells := rm.cells, slots := rm.slots, locals := 420 } : Room)) (cc := cL_differ) (maxL := 7) (ret := some .int) (hh := [(0, 14, 17, 19), (0, 14, 21, 21)]) (own := RL) (L := [(0, .ref x0), (1, .int a1), (2, .int a2), (3, .int a3), (4, .int a4), (5, .ref out)]) (by decide +kernel) rfl rfl (Nat.le_of_ble_eq_true rfl) rfl ?_
  intro p e s m args below meth c C hr htab hX hZ hN
  refine j_aload 5 C dL_differ_0 rfl ?_
  refine j_iconst (v := 0) C dL_differ_2 rfl ?_
  refine j_aload_n 0 C dL_differ_3 rfl rfl ?_
  refine j_iload_n 1 C dL_differ_4 rfl rfl ?_
  refine j_iload_n 2 C dL_differ_5 rfl rfl ?_
  refine j_iload_n 3 C dL_differ_6 rfl rfl ?_
  refine j_iload 4 C dL_differ_7 rfl ?_
  refine j_oV (As := [.int a1, .int a2, .int a3, .int a4]) (Fx := [(out, jaL g 1 o)]) (V := W) (rest := [.int 0, .ref out]) (v := .int v) (Cn := RX4) C hX hZ hN hM gL_differ_X4_differ rfl hdL_X4_differ hR (List.Perm.refl _) hx (N := 8) (T := TX4) rfl dL_differ_9 rfl (Nat.le_of_ble_eq_true rfl) ⟨Nat.le_of_eq (Nat.zero_add _), Nat.le_of_eq (Nat.zero_add _)⟩ rfl (fun w hw => ?_)
  refine j_i2l C dL_differ_12 rfl ?_
  refine j_lastN (x := 0) 0 C dL_differ_13 rfl rfl (by decide) (by decide) rfl ?_
  refine j_goto (tgt := 25) C dL_differ_14 rfl ?_
  refine j_iconst (v := 0) C dL_differ_25 rfl ?_
  refine j_widen (Nat.le_of_eq (Nat.zero_add _)) (Nat.le_of_eq (Nat.zero_add _)) ?_
  exact j_iretO C hr dL_differ_26 ⟨w, hw, rfl⟩
theorem L_differ_x1 {l : Launch} {g : jG} {x0 out : Nat} {a1 : Int32} {a2 : Int32} {a3 : Int32} {a4 : Int32} {o : Nat → Int64} {W : va_W} {rm : Room} (hM : jOx l yX4_differ wsX4_differ rm g [.ref x0, .int a1, .int a2, .int a3, .int a4] W "java/lang/IndexOutOfBoundsException") (hR : rm.frames + 1 ≤ 10 ∧ 8 + (10 + 11) + rm.locals ≤ 420) (hx : ∃ (i : Nat) (fs : List Value), W[i]? = some (x0, (.inr (3, fs) : va_E))) : jO l yL_differ wsL_differ ({ frames := 10, cells := rm.cells, slots := rm.slots, locals := 420 } : Room) g [.ref x0, .int a1, .int a2, .int a3, .int a4, .ref out] ((out, jaL g 1 o) :: W) (jOi 1) (fun w => w = (out, jaL g 1 o) :: W) := by
  refine j_enterH (rm := ({ frames := 10, cells := rm.cells, slots := rm.slots, locals := 420 } : Room)) (cc := cL_differ) (maxL := 7) (ret := some .int) (hh := [(0, 14, 17, 19), (0, 14, 21, 21)]) (own := RL) (L := [(0, .ref x0), (1, .int a1), (2, .int a2), (3, .int a3), (4, .int a4), (5, .ref out)]) (by decide +kernel) rfl rfl (Nat.le_of_ble_eq_true rfl) rfl ?_
  intro p e s m args below meth c C hr htab hX hZ hN
  refine j_aload 5 C dL_differ_0 rfl ?_
  refine j_iconst (v := 0) C dL_differ_2 rfl ?_
  refine j_aload_n 0 C dL_differ_3 rfl rfl ?_
  refine j_iload_n 1 C dL_differ_4 rfl rfl ?_
  refine j_iload_n 2 C dL_differ_5 rfl rfl ?_
  refine j_iload_n 3 C dL_differ_6 rfl rfl ?_
  refine j_iload 4 C dL_differ_7 rfl ?_
  refine j_oX (As := [.int a1, .int a2, .int a3, .int a4]) (Fx := [(out, jaL g 1 o)]) (V := W) (rest := [.int 0, .ref out]) (E := "java/lang/IndexOutOfBoundsException") (Cn := RX4) [] (⟨0, 14, 17, 19⟩ : ExceptionTableEntry) [(⟨0, 14, 21, 21⟩ : ExceptionTableEntry)] C hX hZ hN hM gL_differ_X4_differ rfl hdL_X4_differ hR (List.Perm.refl _) hx (N := 8) (T := TX4) rfl dL_differ_9 rfl (Nat.le_of_ble_eq_true rfl) ⟨Nat.le_of_eq (Nat.zero_add _), Nat.le_of_eq (Nat.zero_add _)⟩ htab (fun _ h => absurd h List.not_mem_nil) (by decide) (by decide) (List.mem_of_getElem? (i := 1) rfl) (by decide) (fun q => ?_)
  refine j_astore C dL_differ_17 (by decide) rfl rfl ?_
  refine j_iconst (v := 1) C dL_differ_19 rfl ?_
  refine j_widen (Nat.le_of_eq (Nat.zero_add _)) (Nat.le_of_eq (Nat.zero_add _)) ?_
  exact j_iretO C hr dL_differ_20 rfl
theorem L_differ_x2 {l : Launch} {g : jG} {x0 out : Nat} {a1 : Int32} {a2 : Int32} {a3 : Int32} {a4 : Int32} {o : Nat → Int64} {W : va_W} {rm : Room} (hM : jOx l yX4_differ wsX4_differ rm g [.ref x0, .int a1, .int a2, .int a3, .int a4] W "java/lang/IllegalArgumentException") (hR : rm.frames + 1 ≤ 10 ∧ 8 + (10 + 11) + rm.locals ≤ 420) (hx : ∃ (i : Nat) (fs : List Value), W[i]? = some (x0, (.inr (3, fs) : va_E))) : jO l yL_differ wsL_differ ({ frames := 10, cells := rm.cells, slots := rm.slots, locals := 420 } : Room) g [.ref x0, .int a1, .int a2, .int a3, .int a4, .ref out] ((out, jaL g 1 o) :: W) (jOi 2) (fun w => w = (out, jaL g 1 o) :: W) := by
  refine j_enterH (rm := ({ frames := 10, cells := rm.cells, slots := rm.slots, locals := 420 } : Room)) (cc := cL_differ) (maxL := 7) (ret := some .int) (hh := [(0, 14, 17, 19), (0, 14, 21, 21)]) (own := RL) (L := [(0, .ref x0), (1, .int a1), (2, .int a2), (3, .int a3), (4, .int a4), (5, .ref out)]) (by decide +kernel) rfl rfl (Nat.le_of_ble_eq_true rfl) rfl ?_
  intro p e s m args below meth c C hr htab hX hZ hN
  refine j_aload 5 C dL_differ_0 rfl ?_
  refine j_iconst (v := 0) C dL_differ_2 rfl ?_
  refine j_aload_n 0 C dL_differ_3 rfl rfl ?_
  refine j_iload_n 1 C dL_differ_4 rfl rfl ?_
  refine j_iload_n 2 C dL_differ_5 rfl rfl ?_
  refine j_iload_n 3 C dL_differ_6 rfl rfl ?_
  refine j_iload 4 C dL_differ_7 rfl ?_
  refine j_oX (As := [.int a1, .int a2, .int a3, .int a4]) (Fx := [(out, jaL g 1 o)]) (V := W) (rest := [.int 0, .ref out]) (E := "java/lang/IllegalArgumentException") (Cn := RX4) [(⟨0, 14, 17, 19⟩ : ExceptionTableEntry)] (⟨0, 14, 21, 21⟩ : ExceptionTableEntry) [] C hX hZ hN hM gL_differ_X4_differ rfl hdL_X4_differ hR (List.Perm.refl _) hx (N := 8) (T := TX4) rfl dL_differ_9 rfl (Nat.le_of_ble_eq_true rfl) ⟨Nat.le_of_eq (Nat.zero_add _), Nat.le_of_eq (Nat.zero_add _)⟩ htab (List.forall_mem_cons.mpr ⟨Or.inr ⟨by decide, "java/lang/IndexOutOfBoundsException", C.2.2.2.2.1 _ (List.mem_of_getElem? (i := 1) rfl), hN.1⟩, fun _ h => absurd h List.not_mem_nil⟩) (by decide) (by decide) (List.mem_of_getElem? (i := 2) rfl) (by decide) (fun q => ?_)
  refine j_astore C dL_differ_21 (by decide) rfl rfl ?_
  refine j_iconst (v := 2) C dL_differ_23 rfl ?_
  refine j_widen (Nat.le_of_eq (Nat.zero_add _)) (Nat.le_of_eq (Nat.zero_add _)) ?_
  exact j_iretO C hr dL_differ_24 rfl
theorem hdL_X4_firstCase : yX4_firstCase.cls = RX4 ∧ yX4_firstCase.cls ≠ "java/lang/invoke/MethodHandle" ∧ yX4_firstCase.cls ≠ "java/lang/invoke/VarHandle" ∧ (parseMethodDescriptor yX4_firstCase.desc).map (fun d => d.parameters.length) = some 4 := by decide +kernel
theorem L_firstCase_g {l : Launch} {g : jG} {x0 out : Nat} {a1 : Int32} {a2 : Int32} {a3 : Int32} {a4 : Int32} {o : Nat → Int64} {W : va_W} {rm : Room} {v : Int32} {Good : va_W → Prop} (hM : jO l yX4_firstCase wsX4_firstCase rm g [.ref x0, .int a1, .int a2, .int a3, .int a4] W (jOi v) Good) (hR : rm.frames + 1 ≤ 10 ∧ 8 + (9 + 11) + rm.locals ≤ 420) (hx : ∃ (i : Nat) (fs : List Value), W[i]? = some (x0, (.inr (3, fs) : va_E))) : jO l yL_firstCase wsL_firstCase ({ frames := 10, cells := rm.cells, slots := rm.slots, locals := 420 } : Room) g [.ref x0, .int a1, .int a2, .int a3, .int a4, .ref out] ((out, jaL g 1 o) :: W) (jOi 0) (fun w => ∃ w1, Good w1 ∧ w = (out, jaL g 1 (vp_updL o 0 v.toInt64)) :: w1) := by
  refine j_enterH (rm := ({ frames := 10, cells := rm.cells, slots := rm.slots, locals := 420 } : Room)) (cc := cL_firstCase) (maxL := 7) (ret := some .int) (hh := [(0, 14, 17, 19), (0, 14, 21, 21)]) (own := RL) (L := [(0, .ref x0), (1, .int a1), (2, .int a2), (3, .int a3), (4, .int a4), (5, .ref out)]) (by decide +kernel) rfl rfl (Nat.le_of_ble_eq_true rfl) rfl ?_
  intro p e s m args below meth c C hr htab hX hZ hN
  refine j_aload 5 C dL_firstCase_0 rfl ?_
  refine j_iconst (v := 0) C dL_firstCase_2 rfl ?_
  refine j_aload_n 0 C dL_firstCase_3 rfl rfl ?_
  refine j_iload_n 1 C dL_firstCase_4 rfl rfl ?_
  refine j_iload_n 2 C dL_firstCase_5 rfl rfl ?_
  refine j_iload_n 3 C dL_firstCase_6 rfl rfl ?_
  refine j_iload 4 C dL_firstCase_7 rfl ?_
  refine j_oV (As := [.int a1, .int a2, .int a3, .int a4]) (Fx := [(out, jaL g 1 o)]) (V := W) (rest := [.int 0, .ref out]) (v := .int v) (Cn := RX4) C hX hZ hN hM gL_firstCase_X4_firstCase rfl hdL_X4_firstCase hR (List.Perm.refl _) hx (N := 8) (T := TX4) rfl dL_firstCase_9 rfl (Nat.le_of_ble_eq_true rfl) ⟨Nat.le_of_eq (Nat.zero_add _), Nat.le_of_eq (Nat.zero_add _)⟩ rfl (fun w hw => ?_)
  refine j_i2l C dL_firstCase_12 rfl ?_
  refine j_lastN (x := 0) 0 C dL_firstCase_13 rfl rfl (by decide) (by decide) rfl ?_
  refine j_goto (tgt := 25) C dL_firstCase_14 rfl ?_
  refine j_iconst (v := 0) C dL_firstCase_25 rfl ?_
  refine j_widen (Nat.le_of_eq (Nat.zero_add _)) (Nat.le_of_eq (Nat.zero_add _)) ?_
  exact j_iretO C hr dL_firstCase_26 ⟨w, hw, rfl⟩
theorem L_firstCase_x1 {l : Launch} {g : jG} {x0 out : Nat} {a1 : Int32} {a2 : Int32} {a3 : Int32} {a4 : Int32} {o : Nat → Int64} {W : va_W} {rm : Room} (hM : jOx l yX4_firstCase wsX4_firstCase rm g [.ref x0, .int a1, .int a2, .int a3, .int a4] W "java/lang/IndexOutOfBoundsException") (hR : rm.frames + 1 ≤ 10 ∧ 8 + (9 + 11) + rm.locals ≤ 420) (hx : ∃ (i : Nat) (fs : List Value), W[i]? = some (x0, (.inr (3, fs) : va_E))) : jO l yL_firstCase wsL_firstCase ({ frames := 10, cells := rm.cells, slots := rm.slots, locals := 420 } : Room) g [.ref x0, .int a1, .int a2, .int a3, .int a4, .ref out] ((out, jaL g 1 o) :: W) (jOi 1) (fun w => w = (out, jaL g 1 o) :: W) := by
  refine j_enterH (rm := ({ frames := 10, cells := rm.cells, slots := rm.slots, locals := 420 } : Room)) (cc := cL_firstCase) (maxL := 7) (ret := some .int) (hh := [(0, 14, 17, 19), (0, 14, 21, 21)]) (own := RL) (L := [(0, .ref x0), (1, .int a1), (2, .int a2), (3, .int a3), (4, .int a4), (5, .ref out)]) (by decide +kernel) rfl rfl (Nat.le_of_ble_eq_true rfl) rfl ?_
  intro p e s m args below meth c C hr htab hX hZ hN
  refine j_aload 5 C dL_firstCase_0 rfl ?_
  refine j_iconst (v := 0) C dL_firstCase_2 rfl ?_
  refine j_aload_n 0 C dL_firstCase_3 rfl rfl ?_
  refine j_iload_n 1 C dL_firstCase_4 rfl rfl ?_
  refine j_iload_n 2 C dL_firstCase_5 rfl rfl ?_
  refine j_iload_n 3 C dL_firstCase_6 rfl rfl ?_
  refine j_iload 4 C dL_firstCase_7 rfl ?_
  refine j_oX (As := [.int a1, .int a2, .int a3, .int a4]) (Fx := [(out, jaL g 1 o)]) (V := W) (rest := [.int 0, .ref out]) (E := "java/lang/IndexOutOfBoundsException") (Cn := RX4) [] (⟨0, 14, 17, 19⟩ : ExceptionTableEntry) [(⟨0, 14, 21, 21⟩ : ExceptionTableEntry)] C hX hZ hN hM gL_firstCase_X4_firstCase rfl hdL_X4_firstCase hR (List.Perm.refl _) hx (N := 8) (T := TX4) rfl dL_firstCase_9 rfl (Nat.le_of_ble_eq_true rfl) ⟨Nat.le_of_eq (Nat.zero_add _), Nat.le_of_eq (Nat.zero_add _)⟩ htab (fun _ h => absurd h List.not_mem_nil) (by decide) (by decide) (List.mem_of_getElem? (i := 1) rfl) (by decide) (fun q => ?_)
  refine j_astore C dL_firstCase_17 (by decide) rfl rfl ?_
  refine j_iconst (v := 1) C dL_firstCase_19 rfl ?_
  refine j_widen (Nat.le_of_eq (Nat.zero_add _)) (Nat.le_of_eq (Nat.zero_add _)) ?_
  exact j_iretO C hr dL_firstCase_20 rfl
theorem L_firstCase_x2 {l : Launch} {g : jG} {x0 out : Nat} {a1 : Int32} {a2 : Int32} {a3 : Int32} {a4 : Int32} {o : Nat → Int64} {W : va_W} {rm : Room} (hM : jOx l yX4_firstCase wsX4_firstCase rm g [.ref x0, .int a1, .int a2, .int a3, .int a4] W "java/lang/IllegalArgumentException") (hR : rm.frames + 1 ≤ 10 ∧ 8 + (9 + 11) + rm.locals ≤ 420) (hx : ∃ (i : Nat) (fs : List Value), W[i]? = some (x0, (.inr (3, fs) : va_E))) : jO l yL_firstCase wsL_firstCase ({ frames := 10, cells := rm.cells, slots := rm.slots, locals := 420 } : Room) g [.ref x0, .int a1, .int a2, .int a3, .int a4, .ref out] ((out, jaL g 1 o) :: W) (jOi 2) (fun w => w = (out, jaL g 1 o) :: W) := by
  refine j_enterH (rm := ({ frames := 10, cells := rm.cells, slots := rm.slots, locals := 420 } : Room)) (cc := cL_firstCase) (maxL := 7) (ret := some .int) (hh := [(0, 14, 17, 19), (0, 14, 21, 21)]) (own := RL) (L := [(0, .ref x0), (1, .int a1), (2, .int a2), (3, .int a3), (4, .int a4), (5, .ref out)]) (by decide +kernel) rfl rfl (Nat.le_of_ble_eq_true rfl) rfl ?_
  intro p e s m args below meth c C hr htab hX hZ hN
  refine j_aload 5 C dL_firstCase_0 rfl ?_
  refine j_iconst (v := 0) C dL_firstCase_2 rfl ?_
  refine j_aload_n 0 C dL_firstCase_3 rfl rfl ?_
  refine j_iload_n 1 C dL_firstCase_4 rfl rfl ?_
  refine j_iload_n 2 C dL_firstCase_5 rfl rfl ?_
  refine j_iload_n 3 C dL_firstCase_6 rfl rfl ?_
  refine j_iload 4 C dL_firstCase_7 rfl ?_
  refine j_oX (As := [.int a1, .int a2, .int a3, .int a4]) (Fx := [(out, jaL g 1 o)]) (V := W) (rest := [.int 0, .ref out]) (E := "java/lang/IllegalArgumentException") (Cn := RX4) [(⟨0, 14, 17, 19⟩ : ExceptionTableEntry)] (⟨0, 14, 21, 21⟩ : ExceptionTableEntry) [] C hX hZ hN hM gL_firstCase_X4_firstCase rfl hdL_X4_firstCase hR (List.Perm.refl _) hx (N := 8) (T := TX4) rfl dL_firstCase_9 rfl (Nat.le_of_ble_eq_true rfl) ⟨Nat.le_of_eq (Nat.zero_add _), Nat.le_of_eq (Nat.zero_add _)⟩ htab (List.forall_mem_cons.mpr ⟨Or.inr ⟨by decide, "java/lang/IndexOutOfBoundsException", C.2.2.2.2.1 _ (List.mem_of_getElem? (i := 1) rfl), hN.1⟩, fun _ h => absurd h List.not_mem_nil⟩) (by decide) (by decide) (List.mem_of_getElem? (i := 2) rfl) (by decide) (fun q => ?_)
  refine j_astore C dL_firstCase_21 (by decide) rfl rfl ?_
  refine j_iconst (v := 2) C dL_firstCase_23 rfl ?_
  refine j_widen (Nat.le_of_eq (Nat.zero_add _)) (Nat.le_of_eq (Nat.zero_add _)) ?_
  exact j_iretO C hr dL_firstCase_24 rfl
theorem hdL_X4_cost : yX4_cost.cls = RX4 ∧ yX4_cost.cls ≠ "java/lang/invoke/MethodHandle" ∧ yX4_cost.cls ≠ "java/lang/invoke/VarHandle" ∧ (parseMethodDescriptor yX4_cost.desc).map (fun d => d.parameters.length) = some 4 := by decide +kernel
theorem L_cost_g {l : Launch} {g : jG} {x0 out : Nat} {a1 : Int32} {a2 : Int32} {a3 : Int32} {a4 : Int32} {o : Nat → Int64} {W : va_W} {rm : Room} {v : Int32} {Good : va_W → Prop} (hM : jO l yX4_cost wsX4_cost rm g [.ref x0, .int a1, .int a2, .int a3, .int a4] W (jOi v) Good) (hR : rm.frames + 1 ≤ 10 ∧ 8 + (11 + 11) + rm.locals ≤ 420) (hx : ∃ (i : Nat) (fs : List Value), W[i]? = some (x0, (.inr (3, fs) : va_E))) : jO l yL_cost wsL_cost ({ frames := 10, cells := rm.cells, slots := rm.slots, locals := 420 } : Room) g [.ref x0, .int a1, .int a2, .int a3, .int a4, .ref out] ((out, jaL g 1 o) :: W) (jOi 0) (fun w => ∃ w1, Good w1 ∧ w = (out, jaL g 1 (vp_updL o 0 v.toInt64)) :: w1) := by
  refine j_enterH (rm := ({ frames := 10, cells := rm.cells, slots := rm.slots, locals := 420 } : Room)) (cc := cL_cost) (maxL := 7) (ret := some .int) (hh := [(0, 14, 17, 19), (0, 14, 21, 21)]) (own := RL) (L := [(0, .ref x0), (1, .int a1), (2, .int a2), (3, .int a3), (4, .int a4), (5, .ref out)]) (by decide +kernel) rfl rfl (Nat.le_of_ble_eq_true rfl) rfl ?_
  intro p e s m args below meth c C hr htab hX hZ hN
  refine j_aload 5 C dL_cost_0 rfl ?_
  refine j_iconst (v := 0) C dL_cost_2 rfl ?_
  refine j_aload_n 0 C dL_cost_3 rfl rfl ?_
  refine j_iload_n 1 C dL_cost_4 rfl rfl ?_
  refine j_iload_n 2 C dL_cost_5 rfl rfl ?_
  refine j_iload_n 3 C dL_cost_6 rfl rfl ?_
  refine j_iload 4 C dL_cost_7 rfl ?_
  refine j_oV (As := [.int a1, .int a2, .int a3, .int a4]) (Fx := [(out, jaL g 1 o)]) (V := W) (rest := [.int 0, .ref out]) (v := .int v) (Cn := RX4) C hX hZ hN hM gL_cost_X4_cost rfl hdL_X4_cost hR (List.Perm.refl _) hx (N := 8) (T := TX4) rfl dL_cost_9 rfl (Nat.le_of_ble_eq_true rfl) ⟨Nat.le_of_eq (Nat.zero_add _), Nat.le_of_eq (Nat.zero_add _)⟩ rfl (fun w hw => ?_)
  refine j_i2l C dL_cost_12 rfl ?_
  refine j_lastN (x := 0) 0 C dL_cost_13 rfl rfl (by decide) (by decide) rfl ?_
  refine j_goto (tgt := 25) C dL_cost_14 rfl ?_
  refine j_iconst (v := 0) C dL_cost_25 rfl ?_
  refine j_widen (Nat.le_of_eq (Nat.zero_add _)) (Nat.le_of_eq (Nat.zero_add _)) ?_
  exact j_iretO C hr dL_cost_26 ⟨w, hw, rfl⟩
theorem L_cost_x1 {l : Launch} {g : jG} {x0 out : Nat} {a1 : Int32} {a2 : Int32} {a3 : Int32} {a4 : Int32} {o : Nat → Int64} {W : va_W} {rm : Room} (hM : jOx l yX4_cost wsX4_cost rm g [.ref x0, .int a1, .int a2, .int a3, .int a4] W "java/lang/IndexOutOfBoundsException") (hR : rm.frames + 1 ≤ 10 ∧ 8 + (11 + 11) + rm.locals ≤ 420) (hx : ∃ (i : Nat) (fs : List Value), W[i]? = some (x0, (.inr (3, fs) : va_E))) : jO l yL_cost wsL_cost ({ frames := 10, cells := rm.cells, slots := rm.slots, locals := 420 } : Room) g [.ref x0, .int a1, .int a2, .int a3, .int a4, .ref out] ((out, jaL g 1 o) :: W) (jOi 1) (fun w => w = (out, jaL g 1 o) :: W) := by
  refine j_enterH (rm := ({ frames := 10, cells := rm.cells, slots := rm.slots, locals := 420 } : Room)) (cc := cL_cost) (maxL := 7) (ret := some .int) (hh := [(0, 14, 17, 19), (0, 14, 21, 21)]) (own := RL) (L := [(0, .ref x0), (1, .int a1), (2, .int a2), (3, .int a3), (4, .int a4), (5, .ref out)]) (by decide +kernel) rfl rfl (Nat.le_of_ble_eq_true rfl) rfl ?_
  intro p e s m args below meth c C hr htab hX hZ hN
  refine j_aload 5 C dL_cost_0 rfl ?_
  refine j_iconst (v := 0) C dL_cost_2 rfl ?_
  refine j_aload_n 0 C dL_cost_3 rfl rfl ?_
  refine j_iload_n 1 C dL_cost_4 rfl rfl ?_
  refine j_iload_n 2 C dL_cost_5 rfl rfl ?_
  refine j_iload_n 3 C dL_cost_6 rfl rfl ?_
  refine j_iload 4 C dL_cost_7 rfl ?_
  refine j_oX (As := [.int a1, .int a2, .int a3, .int a4]) (Fx := [(out, jaL g 1 o)]) (V := W) (rest := [.int 0, .ref out]) (E := "java/lang/IndexOutOfBoundsException") (Cn := RX4) [] (⟨0, 14, 17, 19⟩ : ExceptionTableEntry) [(⟨0, 14, 21, 21⟩ : ExceptionTableEntry)] C hX hZ hN hM gL_cost_X4_cost rfl hdL_X4_cost hR (List.Perm.refl _) hx (N := 8) (T := TX4) rfl dL_cost_9 rfl (Nat.le_of_ble_eq_true rfl) ⟨Nat.le_of_eq (Nat.zero_add _), Nat.le_of_eq (Nat.zero_add _)⟩ htab (fun _ h => absurd h List.not_mem_nil) (by decide) (by decide) (List.mem_of_getElem? (i := 1) rfl) (by decide) (fun q => ?_)
  refine j_astore C dL_cost_17 (by decide) rfl rfl ?_
  refine j_iconst (v := 1) C dL_cost_19 rfl ?_
  refine j_widen (Nat.le_of_eq (Nat.zero_add _)) (Nat.le_of_eq (Nat.zero_add _)) ?_
  exact j_iretO C hr dL_cost_20 rfl
theorem L_cost_x2 {l : Launch} {g : jG} {x0 out : Nat} {a1 : Int32} {a2 : Int32} {a3 : Int32} {a4 : Int32} {o : Nat → Int64} {W : va_W} {rm : Room} (hM : jOx l yX4_cost wsX4_cost rm g [.ref x0, .int a1, .int a2, .int a3, .int a4] W "java/lang/IllegalArgumentException") (hR : rm.frames + 1 ≤ 10 ∧ 8 + (11 + 11) + rm.locals ≤ 420) (hx : ∃ (i : Nat) (fs : List Value), W[i]? = some (x0, (.inr (3, fs) : va_E))) : jO l yL_cost wsL_cost ({ frames := 10, cells := rm.cells, slots := rm.slots, locals := 420 } : Room) g [.ref x0, .int a1, .int a2, .int a3, .int a4, .ref out] ((out, jaL g 1 o) :: W) (jOi 2) (fun w => w = (out, jaL g 1 o) :: W) := by
  refine j_enterH (rm := ({ frames := 10, cells := rm.cells, slots := rm.slots, locals := 420 } : Room)) (cc := cL_cost) (maxL := 7) (ret := some .int) (hh := [(0, 14, 17, 19), (0, 14, 21, 21)]) (own := RL) (L := [(0, .ref x0), (1, .int a1), (2, .int a2), (3, .int a3), (4, .int a4), (5, .ref out)]) (by decide +kernel) rfl rfl (Nat.le_of_ble_eq_true rfl) rfl ?_
  intro p e s m args below meth c C hr htab hX hZ hN
  refine j_aload 5 C dL_cost_0 rfl ?_
  refine j_iconst (v := 0) C dL_cost_2 rfl ?_
  refine j_aload_n 0 C dL_cost_3 rfl rfl ?_
  refine j_iload_n 1 C dL_cost_4 rfl rfl ?_
  refine j_iload_n 2 C dL_cost_5 rfl rfl ?_
  refine j_iload_n 3 C dL_cost_6 rfl rfl ?_
  refine j_iload 4 C dL_cost_7 rfl ?_
  refine j_oX (As := [.int a1, .int a2, .int a3, .int a4]) (Fx := [(out, jaL g 1 o)]) (V := W) (rest := [.int 0, .ref out]) (E := "java/lang/IllegalArgumentException") (Cn := RX4) [(⟨0, 14, 17, 19⟩ : ExceptionTableEntry)] (⟨0, 14, 21, 21⟩ : ExceptionTableEntry) [] C hX hZ hN hM gL_cost_X4_cost rfl hdL_X4_cost hR (List.Perm.refl _) hx (N := 8) (T := TX4) rfl dL_cost_9 rfl (Nat.le_of_ble_eq_true rfl) ⟨Nat.le_of_eq (Nat.zero_add _), Nat.le_of_eq (Nat.zero_add _)⟩ htab (List.forall_mem_cons.mpr ⟨Or.inr ⟨by decide, "java/lang/IndexOutOfBoundsException", C.2.2.2.2.1 _ (List.mem_of_getElem? (i := 1) rfl), hN.1⟩, fun _ h => absurd h List.not_mem_nil⟩) (by decide) (by decide) (List.mem_of_getElem? (i := 2) rfl) (by decide) (fun q => ?_)
  refine j_astore C dL_cost_21 (by decide) rfl rfl ?_
  refine j_iconst (v := 2) C dL_cost_23 rfl ?_
  refine j_widen (Nat.le_of_eq (Nat.zero_add _)) (Nat.le_of_eq (Nat.zero_add _)) ?_
  exact j_iretO C hr dL_cost_24 rfl
theorem hdL_X4_exits : yX4_exits.cls = RX4 ∧ yX4_exits.cls ≠ "java/lang/invoke/MethodHandle" ∧ yX4_exits.cls ≠ "java/lang/invoke/VarHandle" ∧ (parseMethodDescriptor yX4_exits.desc).map (fun d => d.parameters.length) = some 3 := by decide +kernel
theorem L_exits_g {l : Launch} {g : jG} {x0 out : Nat} {a1 : Int32} {a2 : Int32} {a3 : Int32} {o : Nat → UInt64} {W : va_W} {rm : Room} {v : UInt64} {Good : va_W → Prop} (hM : jO l yX4_exits wsX4_exits rm g [.ref x0, .int a1, .int a2, .int a3] W (jOd v) Good) (hR : rm.frames + 1 ≤ 10 ∧ 8 + (8 + 11) + rm.locals ≤ 420) (hx : ∃ (i : Nat) (fs : List Value), W[i]? = some (x0, (.inr (3, fs) : va_E))) : jO l yL_exits wsL_exits ({ frames := 10, cells := rm.cells, slots := rm.slots, locals := 420 } : Room) g [.ref x0, .int a1, .int a2, .int a3, .ref out] ((out, jaD g 1 o) :: W) (jOi 0) (fun w => ∃ w1, Good w1 ∧ w = (out, jaD g 1 (vf_upd o 0 v)) :: w1) := by
  refine j_enterH (rm := ({ frames := 10, cells := rm.cells, slots := rm.slots, locals := 420 } : Room)) (cc := cL_exits) (maxL := 6) (ret := some .int) (hh := [(0, 11, 14, 19), (0, 11, 18, 21)]) (own := RL) (L := [(0, .ref x0), (1, .int a1), (2, .int a2), (3, .int a3), (4, .ref out)]) (by decide +kernel) rfl rfl (Nat.le_of_ble_eq_true rfl) rfl ?_
  intro p e s m args below meth c C hr htab hX hZ hN
  refine j_aload 4 C dL_exits_0 rfl ?_
  refine j_iconst (v := 0) C dL_exits_2 rfl ?_
  refine j_aload_n 0 C dL_exits_3 rfl rfl ?_
  refine j_iload_n 1 C dL_exits_4 rfl rfl ?_
  refine j_iload_n 2 C dL_exits_5 rfl rfl ?_
  refine j_iload_n 3 C dL_exits_6 rfl rfl ?_
  refine j_oV (As := [.int a1, .int a2, .int a3]) (Fx := [(out, jaD g 1 o)]) (V := W) (rest := [.int 0, .ref out]) (v := .double v) (Cn := RX4) C hX hZ hN hM gL_exits_X4_exits rfl hdL_X4_exits hR (List.Perm.refl _) hx (N := 8) (T := TX4) rfl dL_exits_7 rfl (Nat.le_of_ble_eq_true rfl) ⟨Nat.le_of_eq (Nat.zero_add _), Nat.le_of_eq (Nat.zero_add _)⟩ rfl (fun w hw => ?_)
  refine j_dast 0 C dL_exits_10 rfl (vp_in_nI (n := 0) (N := 1) (by decide) (by decide)) rfl ?_
  refine j_goto (tgt := 22) C dL_exits_11 rfl ?_
  refine j_iconst (v := 0) C dL_exits_22 rfl ?_
  refine j_widen (Nat.le_of_eq (Nat.zero_add _)) (Nat.le_of_eq (Nat.zero_add _)) ?_
  exact j_iretO C hr dL_exits_23 ⟨w, hw, rfl⟩
theorem L_exits_x1 {l : Launch} {g : jG} {x0 out : Nat} {a1 : Int32} {a2 : Int32} {a3 : Int32} {o : Nat → UInt64} {W : va_W} {rm : Room} (hM : jOx l yX4_exits wsX4_exits rm g [.ref x0, .int a1, .int a2, .int a3] W "java/lang/IndexOutOfBoundsException") (hR : rm.frames + 1 ≤ 10 ∧ 8 + (8 + 11) + rm.locals ≤ 420) (hx : ∃ (i : Nat) (fs : List Value), W[i]? = some (x0, (.inr (3, fs) : va_E))) : jO l yL_exits wsL_exits ({ frames := 10, cells := rm.cells, slots := rm.slots, locals := 420 } : Room) g [.ref x0, .int a1, .int a2, .int a3, .ref out] ((out, jaD g 1 o) :: W) (jOi 1) (fun w => w = (out, jaD g 1 o) :: W) := by
  refine j_enterH (rm := ({ frames := 10, cells := rm.cells, slots := rm.slots, locals := 420 } : Room)) (cc := cL_exits) (maxL := 6) (ret := some .int) (hh := [(0, 11, 14, 19), (0, 11, 18, 21)]) (own := RL) (L := [(0, .ref x0), (1, .int a1), (2, .int a2), (3, .int a3), (4, .ref out)]) (by decide +kernel) rfl rfl (Nat.le_of_ble_eq_true rfl) rfl ?_
  intro p e s m args below meth c C hr htab hX hZ hN
  refine j_aload 4 C dL_exits_0 rfl ?_
  refine j_iconst (v := 0) C dL_exits_2 rfl ?_
  refine j_aload_n 0 C dL_exits_3 rfl rfl ?_
  refine j_iload_n 1 C dL_exits_4 rfl rfl ?_
  refine j_iload_n 2 C dL_exits_5 rfl rfl ?_
  refine j_iload_n 3 C dL_exits_6 rfl rfl ?_
  refine j_oX (As := [.int a1, .int a2, .int a3]) (Fx := [(out, jaD g 1 o)]) (V := W) (rest := [.int 0, .ref out]) (E := "java/lang/IndexOutOfBoundsException") (Cn := RX4) [] (⟨0, 11, 14, 19⟩ : ExceptionTableEntry) [(⟨0, 11, 18, 21⟩ : ExceptionTableEntry)] C hX hZ hN hM gL_exits_X4_exits rfl hdL_X4_exits hR (List.Perm.refl _) hx (N := 8) (T := TX4) rfl dL_exits_7 rfl (Nat.le_of_ble_eq_true rfl) ⟨Nat.le_of_eq (Nat.zero_add _), Nat.le_of_eq (Nat.zero_add _)⟩ htab (fun _ h => absurd h List.not_mem_nil) (by decide) (by decide) (List.mem_of_getElem? (i := 1) rfl) (by decide) (fun q => ?_)
  refine j_astore C dL_exits_14 (by decide) rfl rfl ?_
  refine j_iconst (v := 1) C dL_exits_16 rfl ?_
  refine j_widen (Nat.le_of_eq (Nat.zero_add _)) (Nat.le_of_eq (Nat.zero_add _)) ?_
  exact j_iretO C hr dL_exits_17 rfl
theorem L_exits_x2 {l : Launch} {g : jG} {x0 out : Nat} {a1 : Int32} {a2 : Int32} {a3 : Int32} {o : Nat → UInt64} {W : va_W} {rm : Room} (hM : jOx l yX4_exits wsX4_exits rm g [.ref x0, .int a1, .int a2, .int a3] W "java/lang/IllegalArgumentException") (hR : rm.frames + 1 ≤ 10 ∧ 8 + (8 + 11) + rm.locals ≤ 420) (hx : ∃ (i : Nat) (fs : List Value), W[i]? = some (x0, (.inr (3, fs) : va_E))) : jO l yL_exits wsL_exits ({ frames := 10, cells := rm.cells, slots := rm.slots, locals := 420 } : Room) g [.ref x0, .int a1, .int a2, .int a3, .ref out] ((out, jaD g 1 o) :: W) (jOi 2) (fun w => w = (out, jaD g 1 o) :: W) := by
  refine j_enterH (rm := ({ frames := 10, cells := rm.cells, slots := rm.slots, locals := 420 } : Room)) (cc := cL_exits) (maxL := 6) (ret := some .int) (hh := [(0, 11, 14, 19), (0, 11, 18, 21)]) (own := RL) (L := [(0, .ref x0), (1, .int a1), (2, .int a2), (3, .int a3), (4, .ref out)]) (by decide +kernel) rfl rfl (Nat.le_of_ble_eq_true rfl) rfl ?_
  intro p e s m args below meth c C hr htab hX hZ hN
  refine j_aload 4 C dL_exits_0 rfl ?_
  refine j_iconst (v := 0) C dL_exits_2 rfl ?_
  refine j_aload_n 0 C dL_exits_3 rfl rfl ?_
  refine j_iload_n 1 C dL_exits_4 rfl rfl ?_
  refine j_iload_n 2 C dL_exits_5 rfl rfl ?_
  refine j_iload_n 3 C dL_exits_6 rfl rfl ?_
  refine j_oX (As := [.int a1, .int a2, .int a3]) (Fx := [(out, jaD g 1 o)]) (V := W) (rest := [.int 0, .ref out]) (E := "java/lang/IllegalArgumentException") (Cn := RX4) [(⟨0, 11, 14, 19⟩ : ExceptionTableEntry)] (⟨0, 11, 18, 21⟩ : ExceptionTableEntry) [] C hX hZ hN hM gL_exits_X4_exits rfl hdL_X4_exits hR (List.Perm.refl _) hx (N := 8) (T := TX4) rfl dL_exits_7 rfl (Nat.le_of_ble_eq_true rfl) ⟨Nat.le_of_eq (Nat.zero_add _), Nat.le_of_eq (Nat.zero_add _)⟩ htab (List.forall_mem_cons.mpr ⟨Or.inr ⟨by decide, "java/lang/IndexOutOfBoundsException", C.2.2.2.2.1 _ (List.mem_of_getElem? (i := 1) rfl), hN.1⟩, fun _ h => absurd h List.not_mem_nil⟩) (by decide) (by decide) (List.mem_of_getElem? (i := 2) rfl) (by decide) (fun q => ?_)
  refine j_astore C dL_exits_18 (by decide) rfl rfl ?_
  refine j_iconst (v := 2) C dL_exits_20 rfl ?_
  refine j_widen (Nat.le_of_eq (Nat.zero_add _)) (Nat.le_of_eq (Nat.zero_add _)) ?_
  exact j_iretO C hr dL_exits_21 rfl
