theorem hd_X2_hasDeed : yX2_hasDeed.cls = RX2 ∧ yX2_hasDeed.cls ≠ "java/lang/invoke/MethodHandle" ∧ yX2_hasDeed.cls ≠ "java/lang/invoke/VarHandle" ∧ (parseMethodDescriptor yX2_hasDeed.desc).map (fun d => d.parameters.length) = some 5 := by decide +kernel
theorem hd_X4_isVariable : yX4_isVariable.cls = RX4 ∧ yX4_isVariable.cls ≠ "java/lang/invoke/MethodHandle" ∧ yX4_isVariable.cls ≠ "java/lang/invoke/VarHandle" ∧ (parseMethodDescriptor yX4_isVariable.desc).map (fun d => d.parameters.length) = some 1 := by decide +kernel
theorem hd_X2_writtenBy : yX2_writtenBy.cls = RX2 ∧ yX2_writtenBy.cls ≠ "java/lang/invoke/MethodHandle" ∧ yX2_writtenBy.cls ≠ "java/lang/invoke/VarHandle" ∧ (parseMethodDescriptor yX2_writtenBy.desc).map (fun d => d.parameters.length) = some 4 := by decide +kernel
theorem hd_X2_lookedWithBy : yX2_lookedWithBy.cls = RX2 ∧ yX2_lookedWithBy.cls ≠ "java/lang/invoke/MethodHandle" ∧ yX2_lookedWithBy.cls ≠ "java/lang/invoke/VarHandle" ∧ (parseMethodDescriptor yX2_lookedWithBy.desc).map (fun d => d.parameters.length) = some 4 := by decide +kernel
theorem hd_X2_haveSameRange : yX2_haveSameRange.cls = RX2 ∧ yX2_haveSameRange.cls ≠ "java/lang/invoke/MethodHandle" ∧ yX2_haveSameRange.cls ≠ "java/lang/invoke/VarHandle" ∧ (parseMethodDescriptor yX2_haveSameRange.desc).map (fun d => d.parameters.length) = some 2 := by decide +kernel
theorem hd_X2_hasBreak : yX2_hasBreak.cls = RX2 ∧ yX2_hasBreak.cls ≠ "java/lang/invoke/MethodHandle" ∧ yX2_hasBreak.cls ≠ "java/lang/invoke/VarHandle" ∧ (parseMethodDescriptor yX2_hasBreak.desc).map (fun d => d.parameters.length) = some 2 := by decide +kernel
theorem hd_X2_againstParts : yX2_againstParts.cls = RX2 ∧ yX2_againstParts.cls ≠ "java/lang/invoke/MethodHandle" ∧ yX2_againstParts.cls ≠ "java/lang/invoke/VarHandle" ∧ (parseMethodDescriptor yX2_againstParts.desc).map (fun d => d.parameters.length) = some 5 := by decide +kernel
theorem hd_X1_countLoops : yX1_countLoops.cls = RX1 ∧ yX1_countLoops.cls ≠ "java/lang/invoke/MethodHandle" ∧ yX1_countLoops.cls ≠ "java/lang/invoke/VarHandle" ∧ (parseMethodDescriptor yX1_countLoops.desc).map (fun d => d.parameters.length) = some 0 := by decide +kernel
theorem hd_X2_hasTwoCodes : yX2_hasTwoCodes.cls = RX2 ∧ yX2_hasTwoCodes.cls ≠ "java/lang/invoke/MethodHandle" ∧ yX2_hasTwoCodes.cls ≠ "java/lang/invoke/VarHandle" ∧ (parseMethodDescriptor yX2_hasTwoCodes.desc).map (fun d => d.parameters.length) = some 2 := by decide +kernel
theorem hd_X2_againstJoin : yX2_againstJoin.cls = RX2 ∧ yX2_againstJoin.cls ≠ "java/lang/invoke/MethodHandle" ∧ yX2_againstJoin.cls ≠ "java/lang/invoke/VarHandle" ∧ (parseMethodDescriptor yX2_againstJoin.desc).map (fun d => d.parameters.length) = some 2 := by decide +kernel
theorem hd_X2_againstDivide : yX2_againstDivide.cls = RX2 ∧ yX2_againstDivide.cls ≠ "java/lang/invoke/MethodHandle" ∧ yX2_againstDivide.cls ≠ "java/lang/invoke/VarHandle" ∧ (parseMethodDescriptor yX2_againstDivide.desc).map (fun d => d.parameters.length) = some 3 := by decide +kernel
theorem hd_X2_againstPeel : yX2_againstPeel.cls = RX2 ∧ yX2_againstPeel.cls ≠ "java/lang/invoke/MethodHandle" ∧ yX2_againstPeel.cls ≠ "java/lang/invoke/VarHandle" ∧ (parseMethodDescriptor yX2_againstPeel.desc).map (fun d => d.parameters.length) = some 3 := by decide +kernel
theorem hd_X2_againstTurn : yX2_againstTurn.cls = RX2 ∧ yX2_againstTurn.cls ≠ "java/lang/invoke/MethodHandle" ∧ yX2_againstTurn.cls ≠ "java/lang/invoke/VarHandle" ∧ (parseMethodDescriptor yX2_againstTurn.desc).map (fun d => d.parameters.length) = some 2 := by decide +kernel
set_option maxHeartbeats 4000000 in
set_option maxRecDepth 100000 in
theorem c_X4_isVariable (l : Launch) (g : jG) (w : Int32)  : jRi l yX4_isVariable wsX4_isVariable ({ frames := 0, cells := 0, slots := 0, locals := 0 }) g [.int w] [] (jb (jIsV w)) := by
  refine j_enterR (cc := cX4_isVariable) (maxL := 1) (ret := (some .boolean)) (own := RX4) (L := [(0, .int w)]) (by decide) rfl rfl (Nat.le_of_ble_eq_true rfl) rfl (fun p e s m args below meth c C hr => ?_)
  refine j_iload_n 0 C dX4_isVariable_0 rfl rfl ?_
  refine j_sipush (v := 1000) C dX4_isVariable_1 rfl ?_
  refine j_icmp_lt (tgt := 18) C dX4_isVariable_4 (by decide) (fun c_1 => ?_) (fun c_1 => ?_)
  · skip
    refine j_iconst (v := 0) C dX4_isVariable_18 rfl ?_
    exact j_zretR (v := 0) C hr dX4_isVariable_19 rfl (by unfold jIsV; simp only [*, decide_true, decide_false, Bool.not_true, Bool.not_false, Bool.and_true, Bool.and_false, Bool.false_and, Bool.true_and]; rfl)
  · skip
    refine j_iload_n 0 C dX4_isVariable_7 rfl rfl ?_
    refine j_sipush (v := 1004) C dX4_isVariable_8 rfl ?_
    refine j_icmp_ge (tgt := 18) C dX4_isVariable_11 (by decide) (fun c_2 => ?_) (fun c_2 => ?_)
    · skip
      refine j_iconst (v := 0) C dX4_isVariable_18 rfl ?_
      exact j_zretR (v := 0) C hr dX4_isVariable_19 rfl (by unfold jIsV; simp only [*, decide_true, decide_false, Bool.not_true, Bool.not_false, Bool.and_true, Bool.and_false, Bool.false_and, Bool.true_and]; rfl)
    · skip
      refine j_iconst (v := 1) C dX4_isVariable_14 rfl ?_
      refine j_goto (tgt := 19) C dX4_isVariable_15 (by decide) ?_
      exact j_zretR (v := 1) C hr dX4_isVariable_19 rfl (by unfold jIsV; simp only [*, decide_true, decide_false, Bool.not_true, Bool.not_false, Bool.and_true, Bool.and_false, Bool.false_and, Bool.true_and]; rfl)
set_option maxHeartbeats 4000000 in
set_option maxRecDepth 100000 in
theorem c_X2_haveSameRange (l : Launch) (g : jG) (q ca : Nat) (n : Int32) (f : Nat → Int32) (k : Nat) (hk : k < 7) : jRi l yX2_haveSameRange wsX2_haveSameRange ({ frames := 2, cells := 0, slots := 0, locals := 43 }) g [.ref q, .int (nI k)] [(q, .inr (1, [.ref ca, .int n])), (ca, jaI g 224 f)] (jb (jSame f k)) := by
  refine j_enterR (cc := cX2_haveSameRange) (maxL := 2) (ret := (some .boolean)) (own := RX2) (L := [(0, .ref q), (1, .int (nI k))]) (by decide) rfl rfl (Nat.le_of_ble_eq_true rfl) rfl (fun p e s m args below meth c C hr => ?_)
  refine j_aload_n 0 C dX2_haveSameRange_0 rfl rfl ?_
  refine j_iload_n 1 C dX2_haveSameRange_1 rfl rfl ?_
  refine j_iconst (v := 0) C dX2_haveSameRange_2 rfl ?_
  refine j_callRi (v := f (k * 28 + 0)) (j_runV (ci := 0) (As := [.int (nI k), .int 0]) (rest := []) [0, 1] C (c_X1_loopFact l g q ca n f k 0 (by omega)) gX2_haveSameRange_X1_loopFact rfl rfl rfl hd_X1_loopFact ⟨Nat.le_of_ble_eq_true rfl, Nat.le_of_ble_eq_true rfl⟩ rfl rfl rfl rfl dX2_haveSameRange_3 rfl (Nat.le_of_ble_eq_true rfl) ⟨Nat.le_of_ble_eq_true rfl, Nat.le_of_ble_eq_true rfl⟩) ?_
  refine j_aload_n 0 C dX2_haveSameRange_6 rfl rfl ?_
  refine j_iload_n 1 C dX2_haveSameRange_7 rfl rfl ?_
  refine j_iconst (v := 1) C dX2_haveSameRange_8 rfl ?_
  refine j_iadd (x := nI k) (y := 1) (v := nI (k + 1)) C dX2_haveSameRange_9 (nI_add k 1) ?_
  refine j_iconst (v := 0) C dX2_haveSameRange_10 rfl ?_
  refine j_callRi (v := f ((k + 1) * 28 + 0)) (j_runV (ci := 0) (As := [.int (nI (k + 1)), .int 0]) (rest := [.int (f (k * 28 + 0))]) [0, 1] C (c_X1_loopFact l g q ca n f (k + 1) 0 (by omega)) gX2_haveSameRange_X1_loopFact rfl rfl rfl hd_X1_loopFact ⟨Nat.le_of_ble_eq_true rfl, Nat.le_of_ble_eq_true rfl⟩ rfl rfl rfl rfl dX2_haveSameRange_11 rfl (Nat.le_of_ble_eq_true rfl) ⟨Nat.le_of_ble_eq_true rfl, Nat.le_of_ble_eq_true rfl⟩) ?_
  refine j_icmp_ne (tgt := 55) C dX2_haveSameRange_14 (by decide) (fun c_1 => ?_) (fun c_1 => ?_)
  · skip
    refine j_iconst (v := 0) C dX2_haveSameRange_55 rfl ?_
    exact j_zretR (v := 0) C hr dX2_haveSameRange_56 rfl (by simp_all [jSame, jb])
  · skip
    refine j_aload_n 0 C dX2_haveSameRange_17 rfl rfl ?_
    refine j_iload_n 1 C dX2_haveSameRange_18 rfl rfl ?_
    refine j_iconst (v := 1) C dX2_haveSameRange_19 rfl ?_
    refine j_callRi (v := f (k * 28 + 1)) (j_runV (ci := 0) (As := [.int (nI k), .int 1]) (rest := []) [0, 1] C (c_X1_loopFact l g q ca n f k 1 (by omega)) gX2_haveSameRange_X1_loopFact rfl rfl rfl hd_X1_loopFact ⟨Nat.le_of_ble_eq_true rfl, Nat.le_of_ble_eq_true rfl⟩ rfl rfl rfl rfl dX2_haveSameRange_20 rfl (Nat.le_of_ble_eq_true rfl) ⟨Nat.le_of_ble_eq_true rfl, Nat.le_of_ble_eq_true rfl⟩) ?_
    refine j_aload_n 0 C dX2_haveSameRange_23 rfl rfl ?_
    refine j_iload_n 1 C dX2_haveSameRange_24 rfl rfl ?_
    refine j_iconst (v := 1) C dX2_haveSameRange_25 rfl ?_
    refine j_iadd (x := nI k) (y := 1) (v := nI (k + 1)) C dX2_haveSameRange_26 (nI_add k 1) ?_
    refine j_iconst (v := 1) C dX2_haveSameRange_27 rfl ?_
    refine j_callRi (v := f ((k + 1) * 28 + 1)) (j_runV (ci := 0) (As := [.int (nI (k + 1)), .int 1]) (rest := [.int (f (k * 28 + 1))]) [0, 1] C (c_X1_loopFact l g q ca n f (k + 1) 1 (by omega)) gX2_haveSameRange_X1_loopFact rfl rfl rfl hd_X1_loopFact ⟨Nat.le_of_ble_eq_true rfl, Nat.le_of_ble_eq_true rfl⟩ rfl rfl rfl rfl dX2_haveSameRange_28 rfl (Nat.le_of_ble_eq_true rfl) ⟨Nat.le_of_ble_eq_true rfl, Nat.le_of_ble_eq_true rfl⟩) ?_
    refine j_icmp_ne (tgt := 55) C dX2_haveSameRange_31 (by decide) (fun c_2 => ?_) (fun c_2 => ?_)
    · skip
      refine j_iconst (v := 0) C dX2_haveSameRange_55 rfl ?_
      exact j_zretR (v := 0) C hr dX2_haveSameRange_56 rfl (by simp_all [jSame, jb])
    · skip
      refine j_aload_n 0 C dX2_haveSameRange_34 rfl rfl ?_
      refine j_iload_n 1 C dX2_haveSameRange_35 rfl rfl ?_
      refine j_iconst (v := 2) C dX2_haveSameRange_36 rfl ?_
      refine j_callRi (v := f (k * 28 + 2)) (j_runV (ci := 0) (As := [.int (nI k), .int 2]) (rest := []) [0, 1] C (c_X1_loopFact l g q ca n f k 2 (by omega)) gX2_haveSameRange_X1_loopFact rfl rfl rfl hd_X1_loopFact ⟨Nat.le_of_ble_eq_true rfl, Nat.le_of_ble_eq_true rfl⟩ rfl rfl rfl rfl dX2_haveSameRange_37 rfl (Nat.le_of_ble_eq_true rfl) ⟨Nat.le_of_ble_eq_true rfl, Nat.le_of_ble_eq_true rfl⟩) ?_
      refine j_aload_n 0 C dX2_haveSameRange_40 rfl rfl ?_
      refine j_iload_n 1 C dX2_haveSameRange_41 rfl rfl ?_
      refine j_iconst (v := 1) C dX2_haveSameRange_42 rfl ?_
      refine j_iadd (x := nI k) (y := 1) (v := nI (k + 1)) C dX2_haveSameRange_43 (nI_add k 1) ?_
      refine j_iconst (v := 2) C dX2_haveSameRange_44 rfl ?_
      refine j_callRi (v := f ((k + 1) * 28 + 2)) (j_runV (ci := 0) (As := [.int (nI (k + 1)), .int 2]) (rest := [.int (f (k * 28 + 2))]) [0, 1] C (c_X1_loopFact l g q ca n f (k + 1) 2 (by omega)) gX2_haveSameRange_X1_loopFact rfl rfl rfl hd_X1_loopFact ⟨Nat.le_of_ble_eq_true rfl, Nat.le_of_ble_eq_true rfl⟩ rfl rfl rfl rfl dX2_haveSameRange_45 rfl (Nat.le_of_ble_eq_true rfl) ⟨Nat.le_of_ble_eq_true rfl, Nat.le_of_ble_eq_true rfl⟩) ?_
      refine j_icmp_ne (tgt := 55) C dX2_haveSameRange_48 (by decide) (fun c_3 => ?_) (fun c_3 => ?_)
      · skip
        refine j_iconst (v := 0) C dX2_haveSameRange_55 rfl ?_
        exact j_zretR (v := 0) C hr dX2_haveSameRange_56 rfl (by simp_all [jSame, jb])
      · skip
        refine j_iconst (v := 1) C dX2_haveSameRange_51 rfl ?_
        refine j_goto (tgt := 56) C dX2_haveSameRange_52 (by decide) ?_
        exact j_zretR (v := 1) C hr dX2_haveSameRange_56 rfl (by simp_all [jSame, jb])
set_option maxHeartbeats 4000000 in
set_option maxRecDepth 100000 in
theorem c_X2_hasDeed (l : Launch) (g : jG) (q ca : Nat) (n : Int32) (f : Nat → Int32) (k i e0 : Nat) (d : Int32) (hk : k < 8) (he : e0 ≤ 6) (hi : i ≤ 6) : jRi l yX2_hasDeed wsX2_hasDeed ({ frames := 1, cells := 0, slots := 0, locals := 24 }) g [.ref q, .int (nI k), .int (nI i), .int (nI e0), .int d] [(q, .inr (1, [.ref ca, .int n])), (ca, jaI g 224 f)] (jb (jHas f k d (e0 - i) i)) := by
  refine j_enterR (cc := cX2_hasDeed) (maxL := 6) (ret := (some .boolean)) (own := RX2) (L := [(0, .ref q), (1, .int (nI k)), (2, .int (nI i)), (3, .int (nI e0)), (4, .int d)]) (by decide) rfl rfl (Nat.le_of_ble_eq_true rfl) rfl (fun p e s m args below meth c C hr => ?_)
  refine j_iload_n 2 C dX2_hasDeed_0 rfl rfl ?_
  refine j_istore (L' := [(0, .ref q), (1, .int (nI k)), (2, .int (nI i)), (3, .int (nI e0)), (4, .int d), (5, .int (nI i))]) C dX2_hasDeed_1 (Nat.le_of_ble_eq_true rfl) rfl rfl ?_
  refine j_loop (σ := Nat) (fun (j : Nat) => [(0, .ref q), (1, .int (nI k)), (2, .int (nI i)), (3, .int (nI e0)), (4, .int d), (5, .int (nI j))]) (fun (j : Nat) => [(q, .inr (1, [.ref ca, .int n])), (ca, jaI g 224 f)]) (fun (j : Nat) => (i ≤ j) ∧ (j ≤ i + e0) ∧ (jHas f k d (e0 - j) j = jHas f k d (e0 - i) i)) (fun (j : Nat) => e0 - j) (fun x_ hi_2 ih_1 => ?_) i ⟨(by omega), (by omega), rfl⟩ rfl rfl
  obtain ⟨j, hx_⟩ : ∃ z, z = x_ := ⟨_, rfl⟩
  subst hx_
  obtain ⟨hI0, hI1, hI2⟩ := (show (i ≤ j) ∧ (j ≤ i + e0) ∧ (jHas f k d (e0 - j) j = jHas f k d (e0 - i) i) from hi_2)
  refine j_eq (pc' := 3) (L' := [(0, .ref q), (1, .int (nI k)), (2, .int (nI i)), (3, .int (nI e0)), (4, .int d), (5, .int (nI j))]) (st' := []) (ws' := [(q, .inr (1, [.ref ca, .int n])), (ca, jaI g 224 f)]) ?_ rfl rfl rfl rfl
  refine j_iload 5 C dX2_hasDeed_3 rfl ?_
  refine j_iload_n 3 C dX2_hasDeed_5 rfl rfl ?_
  refine j_icmp_ge (tgt := 30) C dX2_hasDeed_6 (by decide) (fun c_3 => ?_) (fun c_3 => ?_)
  · skip
    have c_3 : e0 ≤ j := (nI_leI (a := e0) (b := j) (by omega) (by omega)).mp c_3
    refine j_iconst (v := 0) C dX2_hasDeed_30 rfl ?_
    exact j_zretR (v := 0) C hr dX2_hasDeed_31 rfl (by rw [← hI2, show e0 - j = 0 by omega]; rfl)
  · skip
    have c_3 : ¬ e0 ≤ j := fun z => c_3 ((nI_leI (a := e0) (b := j) (by omega) (by omega)).mpr z)
    refine j_aload_n 0 C dX2_hasDeed_9 rfl rfl ?_
    refine j_iload_n 1 C dX2_hasDeed_10 rfl rfl ?_
    refine j_iload 5 C dX2_hasDeed_11 rfl ?_
    refine j_iconst (v := 2) C dX2_hasDeed_13 rfl ?_
    refine j_callRi (v := f (k * 28 + 4 + j * 4 + 2)) (j_runV (ci := 0) (As := [.int (nI k), .int (nI j), .int 2]) (rest := []) [0, 1] C (c_X1_stepFact l g q ca n f k j 2 (by omega)) gX2_hasDeed_X1_stepFact rfl rfl rfl hd_X1_stepFact ⟨Nat.le_of_ble_eq_true rfl, Nat.le_of_ble_eq_true rfl⟩ rfl rfl rfl rfl dX2_hasDeed_14 rfl (Nat.le_of_ble_eq_true rfl) ⟨Nat.le_of_ble_eq_true rfl, Nat.le_of_ble_eq_true rfl⟩) ?_
    refine j_iload 4 C dX2_hasDeed_17 rfl ?_
    refine j_icmp_ne (tgt := 24) C dX2_hasDeed_19 (by decide) (fun c_4 => ?_) (fun c_4 => ?_)
    · skip
      refine j_iinc (v := nI (j + 1)) (L' := [(0, .ref q), (1, .int (nI k)), (2, .int (nI i)), (3, .int (nI e0)), (4, .int d), (5, .int (nI (j + 1)))]) 5 C dX2_hasDeed_24 rfl (nI_add j 1) (Nat.le_of_ble_eq_true rfl) rfl rfl ?_
      refine j_goto (tgt := 3) C dX2_hasDeed_27 (by decide) ?_
      exact ih_1 (j + 1) ⟨(by omega), (by omega), (by rw [← hI2, show e0 - j = (e0 - (j + 1)) + 1 by omega, jHas_s, if_neg (by assumption)])⟩ (show e0 - (j + 1) < e0 - j from by omega)
    · skip
      refine j_iconst (v := 1) C dX2_hasDeed_22 rfl ?_
      exact j_zretR (v := 1) C hr dX2_hasDeed_23 rfl (by rw [← hI2, show e0 - j = (e0 - (j + 1)) + 1 by omega, jHas_s, if_pos (by assumption)]; rfl)
set_option maxHeartbeats 4000000 in
set_option maxRecDepth 100000 in
theorem c_X2_hasBreak (l : Launch) (g : jG) (q ca : Nat) (n : Int32) (f : Nat → Int32) (k a : Nat) (hk : k < 8) (ha : f (k * 28 + 3) = nI a) (ha6 : a ≤ 6) : jRi l yX2_hasBreak wsX2_hasBreak ({ frames := 3, cells := 0, slots := 0, locals := 64 }) g [.ref q, .int (nI k)] [(q, .inr (1, [.ref ca, .int n])), (ca, jaI g 224 f)] (jb (jHas f k 4 a 0)) := by
  refine j_enterR (cc := cX2_hasBreak) (maxL := 2) (ret := (some .boolean)) (own := RX2) (L := [(0, .ref q), (1, .int (nI k))]) (by decide) rfl rfl (Nat.le_of_ble_eq_true rfl) rfl (fun p e s m args below meth c C hr => ?_)
  refine j_aload_n 0 C dX2_hasBreak_0 rfl rfl ?_
  refine j_iload_n 1 C dX2_hasBreak_1 rfl rfl ?_
  refine j_iconst (v := 0) C dX2_hasBreak_2 rfl ?_
  refine j_aload_n 0 C dX2_hasBreak_3 rfl rfl ?_
  refine j_iload_n 1 C dX2_hasBreak_4 rfl rfl ?_
  refine j_callRi (v := f (k * 28 + 3)) (j_runV (ci := 0) (As := [.int (nI k)]) (rest := [.int 0, .int (nI k), .ref q]) [0, 1] C (c_X1_countSteps l g q ca n f k (by omega)) gX2_hasBreak_X1_countSteps rfl rfl rfl hd_X1_countSteps ⟨Nat.le_of_ble_eq_true rfl, Nat.le_of_ble_eq_true rfl⟩ rfl rfl rfl rfl dX2_hasBreak_5 rfl (Nat.le_of_ble_eq_true rfl) ⟨Nat.le_of_ble_eq_true rfl, Nat.le_of_ble_eq_true rfl⟩) ?_
  refine j_eq (pc' := 8) (L' := [(0, .ref q), (1, .int (nI k))]) (st' := [.int (nI a), .int 0, .int (nI k), .ref q]) (ws' := [(q, .inr (1, [.ref ca, .int n])), (ca, jaI g 224 f)]) ?_ rfl rfl (by rw [ha]) rfl
  refine j_iconst (v := 4) C dX2_hasBreak_8 rfl ?_
  refine j_callRi (v := jb (jHas f k 4 (a - 0) 0)) (j_runS (As := [.ref q, .int (nI k), .int 0, .int (nI a), .int 4]) (rest := []) [0, 1] C (c_X2_hasDeed l g q ca n f k 0 a 4 (by omega) (by omega) (by omega)) gX2_hasBreak_X2_hasDeed rfl rfl rfl hd_X2_hasDeed ⟨Nat.le_of_ble_eq_true rfl, Nat.le_of_ble_eq_true rfl⟩ rfl rfl dX2_hasBreak_9 rfl (Nat.le_of_ble_eq_true rfl) ⟨Nat.le_of_ble_eq_true rfl, Nat.le_of_ble_eq_true rfl⟩) ?_
  exact j_zretR (v := jb (jHas f k 4 (a - 0) 0)) C hr dX2_hasBreak_12 (jb_n (jHas f k 4 (a - 0) 0)) (by rfl)
set_option maxHeartbeats 4000000 in
set_option maxRecDepth 100000 in
theorem c_X2_hasTwoCodes (l : Launch) (g : jG) (q ca : Nat) (n : Int32) (f : Nat → Int32) (k a : Nat) (hk : k < 8) (ha : f (k * 28 + 3) = nI a) (ha6 : a ≤ 6) : jRi l yX2_hasTwoCodes wsX2_hasTwoCodes ({ frames := 3, cells := 0, slots := 0, locals := 64 }) g [.ref q, .int (nI k)] [(q, .inr (1, [.ref ca, .int n])), (ca, jaI g 224 f)] (jb (jTwo f k a 0 (-1))) := by
  refine j_enterR (cc := cX2_hasTwoCodes) (maxL := 6) (ret := (some .boolean)) (own := RX2) (L := [(0, .ref q), (1, .int (nI k))]) (by decide) rfl rfl (Nat.le_of_ble_eq_true rfl) rfl (fun p e s m args below meth c C hr => ?_)
  refine j_aload_n 0 C dX2_hasTwoCodes_0 rfl rfl ?_
  refine j_iload_n 1 C dX2_hasTwoCodes_1 rfl rfl ?_
  refine j_callRi (v := f (k * 28 + 3)) (j_runV (ci := 0) (As := [.int (nI k)]) (rest := []) [0, 1] C (c_X1_countSteps l g q ca n f k (by omega)) gX2_hasTwoCodes_X1_countSteps rfl rfl rfl hd_X1_countSteps ⟨Nat.le_of_ble_eq_true rfl, Nat.le_of_ble_eq_true rfl⟩ rfl rfl rfl rfl dX2_hasTwoCodes_2 rfl (Nat.le_of_ble_eq_true rfl) ⟨Nat.le_of_ble_eq_true rfl, Nat.le_of_ble_eq_true rfl⟩) ?_
  refine j_eq (pc' := 5) (L' := [(0, .ref q), (1, .int (nI k))]) (st' := [.int (nI a)]) (ws' := [(q, .inr (1, [.ref ca, .int n])), (ca, jaI g 224 f)]) ?_ rfl rfl (by rw [ha]) rfl
  refine j_istore_n (L' := [(0, .ref q), (1, .int (nI k)), (2, .int (nI a))]) C dX2_hasTwoCodes_5 rfl (Nat.le_of_ble_eq_true rfl) rfl rfl ?_
  refine j_iconst (v := -1) C dX2_hasTwoCodes_6 rfl ?_
  refine j_istore_n (L' := [(0, .ref q), (1, .int (nI k)), (2, .int (nI a)), (3, .int (-1))]) C dX2_hasTwoCodes_7 rfl (Nat.le_of_ble_eq_true rfl) rfl rfl ?_
  refine j_iconst (v := 0) C dX2_hasTwoCodes_8 rfl ?_
  refine j_istore (L' := [(0, .ref q), (1, .int (nI k)), (2, .int (nI a)), (3, .int (-1)), (4, .int 0)]) C dX2_hasTwoCodes_9 (Nat.le_of_ble_eq_true rfl) rfl rfl ?_
  refine j_loop (σ := Nat × Int32) (fun (x9_ : Nat × Int32) => match x9_ with | (j, cd) => [(0, .ref q), (1, .int (nI k)), (2, .int (nI a)), (3, .int cd), (4, .int (nI j))]) (fun (x9_ : Nat × Int32) => match x9_ with | (j, cd) => [(q, .inr (1, [.ref ca, .int n])), (ca, jaI g 224 f)]) (fun (x9_ : Nat × Int32) => match x9_ with | (j, cd) => (j ≤ a) ∧ (jTwo f k (a - j) j cd = jTwo f k a 0 (-1))) (fun (x9_ : Nat × Int32) => match x9_ with | (j, cd) => a - j) (fun x_ hi_2 ih_1 => ?_) (0, (-1)) ⟨(by omega), rfl⟩ rfl rfl
  obtain ⟨j, cd⟩ := x_
  obtain ⟨hI0, hI1⟩ := (show (j ≤ a) ∧ (jTwo f k (a - j) j cd = jTwo f k a 0 (-1)) from hi_2)
  refine j_eq (pc' := 11) (L' := [(0, .ref q), (1, .int (nI k)), (2, .int (nI a)), (3, .int cd), (4, .int (nI j))]) (st' := []) (ws' := [(q, .inr (1, [.ref ca, .int n])), (ca, jaI g 224 f)]) ?_ rfl rfl rfl rfl
  refine j_iload 4 C dX2_hasTwoCodes_11 rfl ?_
  refine j_iload_n 2 C dX2_hasTwoCodes_13 rfl rfl ?_
  refine j_icmp_ge (tgt := 61) C dX2_hasTwoCodes_14 (by decide) (fun c_3 => ?_) (fun c_3 => ?_)
  · skip
    have c_3 : a ≤ j := (nI_leI (a := a) (b := j) (by omega) (by omega)).mp c_3
    refine j_iconst (v := 0) C dX2_hasTwoCodes_61 rfl ?_
    exact j_zretR (v := 0) C hr dX2_hasTwoCodes_62 rfl (by rw [← hI1, show a - j = 0 by omega]; rfl)
  · skip
    have c_3 : ¬ a ≤ j := fun z => c_3 ((nI_leI (a := a) (b := j) (by omega) (by omega)).mpr z)
    refine j_aload_n 0 C dX2_hasTwoCodes_17 rfl rfl ?_
    refine j_iload_n 1 C dX2_hasTwoCodes_18 rfl rfl ?_
    refine j_iload 4 C dX2_hasTwoCodes_19 rfl ?_
    refine j_iconst (v := 2) C dX2_hasTwoCodes_21 rfl ?_
    refine j_callRi (v := f (k * 28 + 4 + j * 4 + 2)) (j_runV (ci := 0) (As := [.int (nI k), .int (nI j), .int 2]) (rest := []) [0, 1] C (c_X1_stepFact l g q ca n f k j 2 (by omega)) gX2_hasTwoCodes_X1_stepFact rfl rfl rfl hd_X1_stepFact ⟨Nat.le_of_ble_eq_true rfl, Nat.le_of_ble_eq_true rfl⟩ rfl rfl rfl rfl dX2_hasTwoCodes_22 rfl (Nat.le_of_ble_eq_true rfl) ⟨Nat.le_of_ble_eq_true rfl, Nat.le_of_ble_eq_true rfl⟩) ?_
    refine j_iconst (v := 5) C dX2_hasTwoCodes_25 rfl ?_
    refine j_icmp_ne (tgt := 55) C dX2_hasTwoCodes_26 (by decide) (fun c_4 => ?_) (fun c_4 => ?_)
    · skip
      refine j_iinc (v := nI (j + 1)) (L' := [(0, .ref q), (1, .int (nI k)), (2, .int (nI a)), (3, .int cd), (4, .int (nI (j + 1)))]) 4 C dX2_hasTwoCodes_55 rfl (nI_add j 1) (Nat.le_of_ble_eq_true rfl) rfl rfl ?_
      refine j_goto (tgt := 11) C dX2_hasTwoCodes_58 (by decide) ?_
      exact ih_1 (j + 1, cd) ⟨(by omega), (by rw [← hI1, show a - j = (a - (j + 1)) + 1 by omega, jTwo_s]; simp_all)⟩ (show a - (j + 1) < a - j from by omega)
    · skip
      refine j_aload_n 0 C dX2_hasTwoCodes_29 rfl rfl ?_
      refine j_iload_n 1 C dX2_hasTwoCodes_30 rfl rfl ?_
      refine j_iload 4 C dX2_hasTwoCodes_31 rfl ?_
      refine j_iconst (v := 3) C dX2_hasTwoCodes_33 rfl ?_
      refine j_callRi (v := f (k * 28 + 4 + j * 4 + 3)) (j_runV (ci := 0) (As := [.int (nI k), .int (nI j), .int 3]) (rest := []) [0, 1] C (c_X1_stepFact l g q ca n f k j 3 (by omega)) gX2_hasTwoCodes_X1_stepFact rfl rfl rfl hd_X1_stepFact ⟨Nat.le_of_ble_eq_true rfl, Nat.le_of_ble_eq_true rfl⟩ rfl rfl rfl rfl dX2_hasTwoCodes_34 rfl (Nat.le_of_ble_eq_true rfl) ⟨Nat.le_of_ble_eq_true rfl, Nat.le_of_ble_eq_true rfl⟩) ?_
      refine j_istore (L' := [(0, .ref q), (1, .int (nI k)), (2, .int (nI a)), (3, .int cd), (4, .int (nI j)), (5, .int (f (k * 28 + 4 + j * 4 + 3)))]) C dX2_hasTwoCodes_37 (Nat.le_of_ble_eq_true rfl) rfl rfl ?_
      refine j_iload_n 3 C dX2_hasTwoCodes_39 rfl rfl ?_
      refine j_iconst (v := -1) C dX2_hasTwoCodes_40 rfl ?_
      refine j_icmp_eq (tgt := 52) C dX2_hasTwoCodes_41 (by decide) (fun c_5 => ?_) (fun c_5 => ?_)
      · skip
        refine j_iload 5 C dX2_hasTwoCodes_52 rfl ?_
        refine j_istore_n (L' := [(0, .ref q), (1, .int (nI k)), (2, .int (nI a)), (3, .int (f (k * 28 + 4 + j * 4 + 3))), (4, .int (nI j)), (5, .int (f (k * 28 + 4 + j * 4 + 3)))]) C dX2_hasTwoCodes_54 rfl (Nat.le_of_ble_eq_true rfl) rfl rfl ?_
        refine j_iinc (v := nI (j + 1)) (L' := [(0, .ref q), (1, .int (nI k)), (2, .int (nI a)), (3, .int (f (k * 28 + 4 + j * 4 + 3))), (4, .int (nI (j + 1))), (5, .int (f (k * 28 + 4 + j * 4 + 3)))]) 4 C dX2_hasTwoCodes_55 rfl (nI_add j 1) (Nat.le_of_ble_eq_true rfl) rfl rfl ?_
        refine j_goto (tgt := 11) C dX2_hasTwoCodes_58 (by decide) ?_
        refine j_pick (L' := [(0, .ref q), (1, .int (nI k)), (2, .int (nI a)), (3, .int (f (k * 28 + 4 + j * 4 + 3))), (4, .int (nI (j + 1)))]) [0, 1, 2, 3, 4] rfl ?_
        exact ih_1 (j + 1, f (k * 28 + 4 + j * 4 + 3)) ⟨(by omega), (by rw [← hI1, show a - j = (a - (j + 1)) + 1 by omega, jTwo_s]; simp_all)⟩ (show a - (j + 1) < a - j from by omega)
      · skip
        refine j_iload_n 3 C dX2_hasTwoCodes_44 rfl rfl ?_
        refine j_iload 5 C dX2_hasTwoCodes_45 rfl ?_
        refine j_icmp_eq (tgt := 52) C dX2_hasTwoCodes_47 (by decide) (fun c_6 => ?_) (fun c_6 => ?_)
        · skip
          refine j_iload 5 C dX2_hasTwoCodes_52 rfl ?_
          refine j_istore_n (L' := [(0, .ref q), (1, .int (nI k)), (2, .int (nI a)), (3, .int (f (k * 28 + 4 + j * 4 + 3))), (4, .int (nI j)), (5, .int (f (k * 28 + 4 + j * 4 + 3)))]) C dX2_hasTwoCodes_54 rfl (Nat.le_of_ble_eq_true rfl) rfl rfl ?_
          refine j_iinc (v := nI (j + 1)) (L' := [(0, .ref q), (1, .int (nI k)), (2, .int (nI a)), (3, .int (f (k * 28 + 4 + j * 4 + 3))), (4, .int (nI (j + 1))), (5, .int (f (k * 28 + 4 + j * 4 + 3)))]) 4 C dX2_hasTwoCodes_55 rfl (nI_add j 1) (Nat.le_of_ble_eq_true rfl) rfl rfl ?_
          refine j_goto (tgt := 11) C dX2_hasTwoCodes_58 (by decide) ?_
          refine j_pick (L' := [(0, .ref q), (1, .int (nI k)), (2, .int (nI a)), (3, .int (f (k * 28 + 4 + j * 4 + 3))), (4, .int (nI (j + 1)))]) [0, 1, 2, 3, 4] rfl ?_
          exact ih_1 (j + 1, f (k * 28 + 4 + j * 4 + 3)) ⟨(by omega), (by rw [← hI1, show a - j = (a - (j + 1)) + 1 by omega, jTwo_s]; simp_all)⟩ (show a - (j + 1) < a - j from by omega)
        · skip
          refine j_iconst (v := 1) C dX2_hasTwoCodes_50 rfl ?_
          exact j_zretR (v := 1) C hr dX2_hasTwoCodes_51 rfl (by rw [← hI1, show a - j = (a - (j + 1)) + 1 by omega, jTwo_s, if_pos (by assumption), if_pos (by constructor <;> assumption)]; rfl)
set_option maxHeartbeats 4000000 in
set_option maxRecDepth 100000 in
theorem c_X2_writtenBy (l : Launch) (g : jG) (q ca : Nat) (n : Int32) (f : Nat → Int32) (k i e0 : Nat) (hk : k < 8) (he : e0 ≤ 6) (hi : i ≤ 6) : jRi l yX2_writtenBy wsX2_writtenBy ({ frames := 1, cells := 0, slots := 0, locals := 24 }) g [.ref q, .int (nI k), .int (nI i), .int (nI e0)] [(q, .inr (1, [.ref ca, .int n])), (ca, jaI g 224 f)] (jWr f k (e0 - i) i 0) := by
  refine j_enterR (cc := cX2_writtenBy) (maxL := 7) (ret := (some .int)) (own := RX2) (L := [(0, .ref q), (1, .int (nI k)), (2, .int (nI i)), (3, .int (nI e0))]) (by decide) rfl rfl (Nat.le_of_ble_eq_true rfl) rfl (fun p e s m args below meth c C hr => ?_)
  refine j_iconst (v := 0) C dX2_writtenBy_0 rfl ?_
  refine j_istore (L' := [(0, .ref q), (1, .int (nI k)), (2, .int (nI i)), (3, .int (nI e0)), (4, .int 0)]) C dX2_writtenBy_1 (Nat.le_of_ble_eq_true rfl) rfl rfl ?_
  refine j_iload_n 2 C dX2_writtenBy_3 rfl rfl ?_
  refine j_istore (L' := [(0, .ref q), (1, .int (nI k)), (2, .int (nI i)), (3, .int (nI e0)), (4, .int 0), (5, .int (nI i))]) C dX2_writtenBy_4 (Nat.le_of_ble_eq_true rfl) rfl rfl ?_
  refine j_loop (σ := Nat × Int32) (fun (x9_ : Nat × Int32) => match x9_ with | (j, acc) => [(0, .ref q), (1, .int (nI k)), (2, .int (nI i)), (3, .int (nI e0)), (4, .int acc), (5, .int (nI j))]) (fun (x9_ : Nat × Int32) => match x9_ with | (j, acc) => [(q, .inr (1, [.ref ca, .int n])), (ca, jaI g 224 f)]) (fun (x9_ : Nat × Int32) => match x9_ with | (j, acc) => (i ≤ j) ∧ (j ≤ i + e0) ∧ (jWr f k (e0 - j) j acc = jWr f k (e0 - i) i 0)) (fun (x9_ : Nat × Int32) => match x9_ with | (j, acc) => e0 - j) (fun x_ hi_2 ih_1 => ?_) (i, 0) ⟨(by omega), (by omega), rfl⟩ rfl rfl
  obtain ⟨j, acc⟩ := x_
  obtain ⟨hI0, hI1, hI2⟩ := (show (i ≤ j) ∧ (j ≤ i + e0) ∧ (jWr f k (e0 - j) j acc = jWr f k (e0 - i) i 0) from hi_2)
  refine j_eq (pc' := 6) (L' := [(0, .ref q), (1, .int (nI k)), (2, .int (nI i)), (3, .int (nI e0)), (4, .int acc), (5, .int (nI j))]) (st' := []) (ws' := [(q, .inr (1, [.ref ca, .int n])), (ca, jaI g 224 f)]) ?_ rfl rfl rfl rfl
  refine j_iload 5 C dX2_writtenBy_6 rfl ?_
  refine j_iload_n 3 C dX2_writtenBy_8 rfl rfl ?_
  refine j_icmp_ge (tgt := 55) C dX2_writtenBy_9 (by decide) (fun c_3 => ?_) (fun c_3 => ?_)
  · skip
    have c_3 : e0 ≤ j := (nI_leI (a := e0) (b := j) (by omega) (by omega)).mp c_3
    refine j_iload 4 C dX2_writtenBy_55 rfl ?_
    exact j_iretR (v := acc) C hr dX2_writtenBy_57 (by rw [← hI2, show e0 - j = 0 by omega]; rfl)
  · skip
    have c_3 : ¬ e0 ≤ j := fun z => c_3 ((nI_leI (a := e0) (b := j) (by omega) (by omega)).mpr z)
    refine j_aload_n 0 C dX2_writtenBy_12 rfl rfl ?_
    refine j_iload_n 1 C dX2_writtenBy_13 rfl rfl ?_
    refine j_iload 5 C dX2_writtenBy_14 rfl ?_
    refine j_iconst (v := 2) C dX2_writtenBy_16 rfl ?_
    refine j_callRi (v := f (k * 28 + 4 + j * 4 + 2)) (j_runV (ci := 0) (As := [.int (nI k), .int (nI j), .int 2]) (rest := []) [0, 1] C (c_X1_stepFact l g q ca n f k j 2 (by omega)) gX2_writtenBy_X1_stepFact rfl rfl rfl hd_X1_stepFact ⟨Nat.le_of_ble_eq_true rfl, Nat.le_of_ble_eq_true rfl⟩ rfl rfl rfl rfl dX2_writtenBy_17 rfl (Nat.le_of_ble_eq_true rfl) ⟨Nat.le_of_ble_eq_true rfl, Nat.le_of_ble_eq_true rfl⟩) ?_
    refine j_istore (L' := [(0, .ref q), (1, .int (nI k)), (2, .int (nI i)), (3, .int (nI e0)), (4, .int acc), (5, .int (nI j)), (6, .int (f (k * 28 + 4 + j * 4 + 2)))]) C dX2_writtenBy_20 (Nat.le_of_ble_eq_true rfl) rfl rfl ?_
    refine j_iload 6 C dX2_writtenBy_22 rfl ?_
    refine j_iconst (v := 4) C dX2_writtenBy_24 rfl ?_
    refine j_icmp_eq (tgt := 49) C dX2_writtenBy_25 (by decide) (fun c_4 => ?_) (fun c_4 => ?_)
    · skip
      refine j_iinc (v := nI (j + 1)) (L' := [(0, .ref q), (1, .int (nI k)), (2, .int (nI i)), (3, .int (nI e0)), (4, .int acc), (5, .int (nI (j + 1))), (6, .int (f (k * 28 + 4 + j * 4 + 2)))]) 5 C dX2_writtenBy_49 rfl (nI_add j 1) (Nat.le_of_ble_eq_true rfl) rfl rfl ?_
      refine j_goto (tgt := 6) C dX2_writtenBy_52 (by decide) ?_
      refine j_pick (L' := [(0, .ref q), (1, .int (nI k)), (2, .int (nI i)), (3, .int (nI e0)), (4, .int acc), (5, .int (nI (j + 1)))]) [0, 1, 2, 3, 4, 5] rfl ?_
      exact ih_1 (j + 1, acc) ⟨(by omega), (by omega), (by rw [← hI2, show e0 - j = (e0 - (j + 1)) + 1 by omega, jWr_s]; simp_all)⟩ (show e0 - (j + 1) < e0 - j from by omega)
    · skip
      refine j_iload 6 C dX2_writtenBy_28 rfl ?_
      refine j_iconst (v := 5) C dX2_writtenBy_30 rfl ?_
      refine j_icmp_eq (tgt := 49) C dX2_writtenBy_31 (by decide) (fun c_5 => ?_) (fun c_5 => ?_)
      · skip
        refine j_iinc (v := nI (j + 1)) (L' := [(0, .ref q), (1, .int (nI k)), (2, .int (nI i)), (3, .int (nI e0)), (4, .int acc), (5, .int (nI (j + 1))), (6, .int (f (k * 28 + 4 + j * 4 + 2)))]) 5 C dX2_writtenBy_49 rfl (nI_add j 1) (Nat.le_of_ble_eq_true rfl) rfl rfl ?_
        refine j_goto (tgt := 6) C dX2_writtenBy_52 (by decide) ?_
        refine j_pick (L' := [(0, .ref q), (1, .int (nI k)), (2, .int (nI i)), (3, .int (nI e0)), (4, .int acc), (5, .int (nI (j + 1)))]) [0, 1, 2, 3, 4, 5] rfl ?_
        exact ih_1 (j + 1, acc) ⟨(by omega), (by omega), (by rw [← hI2, show e0 - j = (e0 - (j + 1)) + 1 by omega, jWr_s]; simp_all)⟩ (show e0 - (j + 1) < e0 - j from by omega)
      · skip
        refine j_iload 4 C dX2_writtenBy_34 rfl ?_
        refine j_iconst (v := 1) C dX2_writtenBy_36 rfl ?_
        refine j_aload_n 0 C dX2_writtenBy_37 rfl rfl ?_
        refine j_iload_n 1 C dX2_writtenBy_38 rfl rfl ?_
        refine j_iload 5 C dX2_writtenBy_39 rfl ?_
        refine j_iconst (v := 3) C dX2_writtenBy_41 rfl ?_
        refine j_callRi (v := f (k * 28 + 4 + j * 4 + 3)) (j_runV (ci := 0) (As := [.int (nI k), .int (nI j), .int 3]) (rest := [.int 1, .int acc]) [0, 1] C (c_X1_stepFact l g q ca n f k j 3 (by omega)) gX2_writtenBy_X1_stepFact rfl rfl rfl hd_X1_stepFact ⟨Nat.le_of_ble_eq_true rfl, Nat.le_of_ble_eq_true rfl⟩ rfl rfl rfl rfl dX2_writtenBy_42 rfl (Nat.le_of_ble_eq_true rfl) ⟨Nat.le_of_ble_eq_true rfl, Nat.le_of_ble_eq_true rfl⟩) ?_
        refine j_ishl (x := 1) (y := f (k * 28 + 4 + j * 4 + 3)) (v := (1 : Int32) <<< ((f (k * 28 + 4 + j * 4 + 3)) &&& 31)) C dX2_writtenBy_45 rfl ?_
        refine j_ior (x := acc) (y := (1 : Int32) <<< ((f (k * 28 + 4 + j * 4 + 3)) &&& 31)) (v := acc ||| ((1 : Int32) <<< ((f (k * 28 + 4 + j * 4 + 3)) &&& 31))) C dX2_writtenBy_46 rfl ?_
        refine j_istore (L' := [(0, .ref q), (1, .int (nI k)), (2, .int (nI i)), (3, .int (nI e0)), (4, .int (acc ||| ((1 : Int32) <<< ((f (k * 28 + 4 + j * 4 + 3)) &&& 31)))), (5, .int (nI j)), (6, .int (f (k * 28 + 4 + j * 4 + 2)))]) C dX2_writtenBy_47 (Nat.le_of_ble_eq_true rfl) rfl rfl ?_
        refine j_iinc (v := nI (j + 1)) (L' := [(0, .ref q), (1, .int (nI k)), (2, .int (nI i)), (3, .int (nI e0)), (4, .int (acc ||| ((1 : Int32) <<< ((f (k * 28 + 4 + j * 4 + 3)) &&& 31)))), (5, .int (nI (j + 1))), (6, .int (f (k * 28 + 4 + j * 4 + 2)))]) 5 C dX2_writtenBy_49 rfl (nI_add j 1) (Nat.le_of_ble_eq_true rfl) rfl rfl ?_
        refine j_goto (tgt := 6) C dX2_writtenBy_52 (by decide) ?_
        refine j_pick (L' := [(0, .ref q), (1, .int (nI k)), (2, .int (nI i)), (3, .int (nI e0)), (4, .int (acc ||| ((1 : Int32) <<< ((f (k * 28 + 4 + j * 4 + 3)) &&& 31)))), (5, .int (nI (j + 1)))]) [0, 1, 2, 3, 4, 5] rfl ?_
        exact ih_1 (j + 1, acc ||| ((1 : Int32) <<< ((f (k * 28 + 4 + j * 4 + 3)) &&& 31))) ⟨(by omega), (by omega), (by rw [← hI2, show e0 - j = (e0 - (j + 1)) + 1 by omega, jWr_s]; simp_all)⟩ (show e0 - (j + 1) < e0 - j from by omega)
set_option maxHeartbeats 4000000 in
set_option maxRecDepth 100000 in
theorem c_X2_lookedWithBy (l : Launch) (g : jG) (q ca : Nat) (n : Int32) (f : Nat → Int32) (k i e0 : Nat) (hk : k < 8) (he : e0 ≤ 6) (hi : i ≤ 6) : jRi l yX2_lookedWithBy wsX2_lookedWithBy ({ frames := 1, cells := 0, slots := 0, locals := 24 }) g [.ref q, .int (nI k), .int (nI i), .int (nI e0)] [(q, .inr (1, [.ref ca, .int n])), (ca, jaI g 224 f)] (jLk f k (e0 - i) i 0) := by
  refine j_enterR (cc := cX2_lookedWithBy) (maxL := 7) (ret := (some .int)) (own := RX2) (L := [(0, .ref q), (1, .int (nI k)), (2, .int (nI i)), (3, .int (nI e0))]) (by decide) rfl rfl (Nat.le_of_ble_eq_true rfl) rfl (fun p e s m args below meth c C hr => ?_)
  refine j_iconst (v := 0) C dX2_lookedWithBy_0 rfl ?_
  refine j_istore (L' := [(0, .ref q), (1, .int (nI k)), (2, .int (nI i)), (3, .int (nI e0)), (4, .int 0)]) C dX2_lookedWithBy_1 (Nat.le_of_ble_eq_true rfl) rfl rfl ?_
  refine j_iload_n 2 C dX2_lookedWithBy_3 rfl rfl ?_
  refine j_istore (L' := [(0, .ref q), (1, .int (nI k)), (2, .int (nI i)), (3, .int (nI e0)), (4, .int 0), (5, .int (nI i))]) C dX2_lookedWithBy_4 (Nat.le_of_ble_eq_true rfl) rfl rfl ?_
  refine j_loop (σ := Nat × Int32) (fun (x9_ : Nat × Int32) => match x9_ with | (j, acc) => [(0, .ref q), (1, .int (nI k)), (2, .int (nI i)), (3, .int (nI e0)), (4, .int acc), (5, .int (nI j))]) (fun (x9_ : Nat × Int32) => match x9_ with | (j, acc) => [(q, .inr (1, [.ref ca, .int n])), (ca, jaI g 224 f)]) (fun (x9_ : Nat × Int32) => match x9_ with | (j, acc) => (i ≤ j) ∧ (j ≤ i + e0) ∧ (jLk f k (e0 - j) j acc = jLk f k (e0 - i) i 0)) (fun (x9_ : Nat × Int32) => match x9_ with | (j, acc) => e0 - j) (fun x_ hi_2 ih_1 => ?_) (i, 0) ⟨(by omega), (by omega), rfl⟩ rfl rfl
  obtain ⟨j, acc⟩ := x_
  obtain ⟨hI0, hI1, hI2⟩ := (show (i ≤ j) ∧ (j ≤ i + e0) ∧ (jLk f k (e0 - j) j acc = jLk f k (e0 - i) i 0) from hi_2)
  refine j_eq (pc' := 6) (L' := [(0, .ref q), (1, .int (nI k)), (2, .int (nI i)), (3, .int (nI e0)), (4, .int acc), (5, .int (nI j))]) (st' := []) (ws' := [(q, .inr (1, [.ref ca, .int n])), (ca, jaI g 224 f)]) ?_ rfl rfl rfl rfl
  refine j_iload 5 C dX2_lookedWithBy_6 rfl ?_
  refine j_iload_n 3 C dX2_lookedWithBy_8 rfl rfl ?_
  refine j_icmp_ge (tgt := 60) C dX2_lookedWithBy_9 (by decide) (fun c_3 => ?_) (fun c_3 => ?_)
  · skip
    have c_3 : e0 ≤ j := (nI_leI (a := e0) (b := j) (by omega) (by omega)).mp c_3
    refine j_iload 4 C dX2_lookedWithBy_60 rfl ?_
    exact j_iretR (v := acc) C hr dX2_lookedWithBy_62 (by rw [← hI2, show e0 - j = 0 by omega]; rfl)
  · skip
    have c_3 : ¬ e0 ≤ j := fun z => c_3 ((nI_leI (a := e0) (b := j) (by omega) (by omega)).mpr z)
    refine j_aload_n 0 C dX2_lookedWithBy_12 rfl rfl ?_
    refine j_iload_n 1 C dX2_lookedWithBy_13 rfl rfl ?_
    refine j_iload 5 C dX2_lookedWithBy_14 rfl ?_
    refine j_iconst (v := 1) C dX2_lookedWithBy_16 rfl ?_
    refine j_callRi (v := f (k * 28 + 4 + j * 4 + 1)) (j_runV (ci := 0) (As := [.int (nI k), .int (nI j), .int 1]) (rest := []) [0, 1] C (c_X1_stepFact l g q ca n f k j 1 (by omega)) gX2_lookedWithBy_X1_stepFact rfl rfl rfl hd_X1_stepFact ⟨Nat.le_of_ble_eq_true rfl, Nat.le_of_ble_eq_true rfl⟩ rfl rfl rfl rfl dX2_lookedWithBy_17 rfl (Nat.le_of_ble_eq_true rfl) ⟨Nat.le_of_ble_eq_true rfl, Nat.le_of_ble_eq_true rfl⟩) ?_
    refine j_istore (L' := [(0, .ref q), (1, .int (nI k)), (2, .int (nI i)), (3, .int (nI e0)), (4, .int acc), (5, .int (nI j)), (6, .int (f (k * 28 + 4 + j * 4 + 1)))]) C dX2_lookedWithBy_20 (Nat.le_of_ble_eq_true rfl) rfl rfl ?_
    refine j_aload_n 0 C dX2_lookedWithBy_22 rfl rfl ?_
    refine j_iload_n 1 C dX2_lookedWithBy_23 rfl rfl ?_
    refine j_iload 5 C dX2_lookedWithBy_24 rfl ?_
    refine j_iconst (v := 0) C dX2_lookedWithBy_26 rfl ?_
    refine j_callRi (v := f (k * 28 + 4 + j * 4 + 0)) (j_runV (ci := 0) (As := [.int (nI k), .int (nI j), .int 0]) (rest := []) [0, 1] C (c_X1_stepFact l g q ca n f k j 0 (by omega)) gX2_lookedWithBy_X1_stepFact rfl rfl rfl hd_X1_stepFact ⟨Nat.le_of_ble_eq_true rfl, Nat.le_of_ble_eq_true rfl⟩ rfl rfl rfl rfl dX2_lookedWithBy_27 rfl (Nat.le_of_ble_eq_true rfl) ⟨Nat.le_of_ble_eq_true rfl, Nat.le_of_ble_eq_true rfl⟩) ?_
    refine j_if_eq (tgt := 54) C dX2_lookedWithBy_30 (by decide) (fun c_4 => ?_) (fun c_4 => ?_)
    · skip
      refine j_iinc (v := nI (j + 1)) (L' := [(0, .ref q), (1, .int (nI k)), (2, .int (nI i)), (3, .int (nI e0)), (4, .int acc), (5, .int (nI (j + 1))), (6, .int (f (k * 28 + 4 + j * 4 + 1)))]) 5 C dX2_lookedWithBy_54 rfl (nI_add j 1) (Nat.le_of_ble_eq_true rfl) rfl rfl ?_
      refine j_goto (tgt := 6) C dX2_lookedWithBy_57 (by decide) ?_
      refine j_pick (L' := [(0, .ref q), (1, .int (nI k)), (2, .int (nI i)), (3, .int (nI e0)), (4, .int acc), (5, .int (nI (j + 1)))]) [0, 1, 2, 3, 4, 5] rfl ?_
      exact ih_1 (j + 1, acc) ⟨(by omega), (by omega), (by rw [← hI2, show e0 - j = (e0 - (j + 1)) + 1 by omega, jLk_s]; simp_all)⟩ (show e0 - (j + 1) < e0 - j from by omega)
    · skip
      refine j_iload 6 C dX2_lookedWithBy_33 rfl ?_
      refine j_callRi (v := jb (jIsV (f (k * 28 + 4 + j * 4 + 1)))) (j_runSN (As := [.int (f (k * 28 + 4 + j * 4 + 1))]) (rest := []) [] C (c_X4_isVariable l g (f (k * 28 + 4 + j * 4 + 1))) ggX2_lookedWithBy_X4_isVariable rfl rfl rfl C.2.2.2.2.2.2.1.2.2.2.2.2.2.1 (List.mem_of_getElem? (i := 8) rfl) (List.mem_of_getElem? (i := 7) rfl) hd_X4_isVariable.2 ⟨Nat.le_of_ble_eq_true rfl, Nat.le_of_ble_eq_true rfl⟩ rfl rfl dX2_lookedWithBy_35 rfl (Nat.le_of_ble_eq_true rfl) ⟨Nat.le_of_ble_eq_true rfl, Nat.le_of_ble_eq_true rfl⟩) ?_
      refine j_if_eq (tgt := 54) C dX2_lookedWithBy_38 (by decide) (fun c_5 => ?_) (fun c_5 => ?_)
      · skip
        have c_5 : (jIsV (f (k * 28 + 4 + j * 4 + 1))) = false := jb_0 c_5
        refine j_iinc (v := nI (j + 1)) (L' := [(0, .ref q), (1, .int (nI k)), (2, .int (nI i)), (3, .int (nI e0)), (4, .int acc), (5, .int (nI (j + 1))), (6, .int (f (k * 28 + 4 + j * 4 + 1)))]) 5 C dX2_lookedWithBy_54 rfl (nI_add j 1) (Nat.le_of_ble_eq_true rfl) rfl rfl ?_
        refine j_goto (tgt := 6) C dX2_lookedWithBy_57 (by decide) ?_
        refine j_pick (L' := [(0, .ref q), (1, .int (nI k)), (2, .int (nI i)), (3, .int (nI e0)), (4, .int acc), (5, .int (nI (j + 1)))]) [0, 1, 2, 3, 4, 5] rfl ?_
        exact ih_1 (j + 1, acc) ⟨(by omega), (by omega), (by rw [← hI2, show e0 - j = (e0 - (j + 1)) + 1 by omega, jLk_s]; simp_all)⟩ (show e0 - (j + 1) < e0 - j from by omega)
      · skip
        have c_5 : (jIsV (f (k * 28 + 4 + j * 4 + 1))) = true := jb_1 c_5
        refine j_iload 4 C dX2_lookedWithBy_41 rfl ?_
        refine j_iconst (v := 1) C dX2_lookedWithBy_43 rfl ?_
        refine j_iload 6 C dX2_lookedWithBy_44 rfl ?_
        refine j_sipush (v := 1000) C dX2_lookedWithBy_46 rfl ?_
        refine j_isub (x := f (k * 28 + 4 + j * 4 + 1)) (y := 1000) (v := (f (k * 28 + 4 + j * 4 + 1)) - 1000) C dX2_lookedWithBy_49 rfl ?_
        refine j_ishl (x := 1) (y := (f (k * 28 + 4 + j * 4 + 1)) - 1000) (v := (1 : Int32) <<< (((f (k * 28 + 4 + j * 4 + 1)) - 1000) &&& 31)) C dX2_lookedWithBy_50 rfl ?_
        refine j_ior (x := acc) (y := (1 : Int32) <<< (((f (k * 28 + 4 + j * 4 + 1)) - 1000) &&& 31)) (v := acc ||| ((1 : Int32) <<< (((f (k * 28 + 4 + j * 4 + 1)) - 1000) &&& 31))) C dX2_lookedWithBy_51 rfl ?_
        refine j_istore (L' := [(0, .ref q), (1, .int (nI k)), (2, .int (nI i)), (3, .int (nI e0)), (4, .int (acc ||| ((1 : Int32) <<< (((f (k * 28 + 4 + j * 4 + 1)) - 1000) &&& 31)))), (5, .int (nI j)), (6, .int (f (k * 28 + 4 + j * 4 + 1)))]) C dX2_lookedWithBy_52 (Nat.le_of_ble_eq_true rfl) rfl rfl ?_
        refine j_iinc (v := nI (j + 1)) (L' := [(0, .ref q), (1, .int (nI k)), (2, .int (nI i)), (3, .int (nI e0)), (4, .int (acc ||| ((1 : Int32) <<< (((f (k * 28 + 4 + j * 4 + 1)) - 1000) &&& 31)))), (5, .int (nI (j + 1))), (6, .int (f (k * 28 + 4 + j * 4 + 1)))]) 5 C dX2_lookedWithBy_54 rfl (nI_add j 1) (Nat.le_of_ble_eq_true rfl) rfl rfl ?_
        refine j_goto (tgt := 6) C dX2_lookedWithBy_57 (by decide) ?_
        refine j_pick (L' := [(0, .ref q), (1, .int (nI k)), (2, .int (nI i)), (3, .int (nI e0)), (4, .int (acc ||| ((1 : Int32) <<< (((f (k * 28 + 4 + j * 4 + 1)) - 1000) &&& 31)))), (5, .int (nI (j + 1)))]) [0, 1, 2, 3, 4, 5] rfl ?_
        exact ih_1 (j + 1, acc ||| ((1 : Int32) <<< (((f (k * 28 + 4 + j * 4 + 1)) - 1000) &&& 31))) ⟨(by omega), (by omega), (by rw [← hI2, show e0 - j = (e0 - (j + 1)) + 1 by omega, jLk_s]; simp_all)⟩ (show e0 - (j + 1) < e0 - j from by omega)
set_option maxHeartbeats 4000000 in
set_option maxRecDepth 100000 in
theorem c_X2_againstParts (l : Launch) (g : jG) (q ca : Nat) (n : Int32) (f : Nat → Int32) (k e0 o0 i so : Nat) (hk : k < 8) (ho : o0 < 8) (he : e0 ≤ 6) (hi : i ≤ 6) (hso : f (o0 * 28 + 3) = nI so) (hso6 : so ≤ 6) : jRi l yX2_againstParts wsX2_againstParts ({ frames := 3, cells := 0, slots := 0, locals := 64 }) g [.ref q, .int (nI k), .int (nI e0), .int (nI o0), .int (nI i)] [(q, .inr (1, [.ref ca, .int n])), (ca, jaI g 224 f)] (jParts f k e0 o0 i so) := by
  refine j_enterR (cc := cX2_againstParts) (maxL := 11) (ret := (some .int)) (own := RX2) (L := [(0, .ref q), (1, .int (nI k)), (2, .int (nI e0)), (3, .int (nI o0)), (4, .int (nI i))]) (by decide) rfl rfl (Nat.le_of_ble_eq_true rfl) rfl (fun p e s m args below meth c C hr => ?_)
  refine j_aload_n 0 C dX2_againstParts_0 rfl rfl ?_
  refine j_iload_n 3 C dX2_againstParts_1 rfl rfl ?_
  refine j_callRi (v := f (o0 * 28 + 3)) (j_runV (ci := 0) (As := [.int (nI o0)]) (rest := []) [0, 1] C (c_X1_countSteps l g q ca n f o0 (by omega)) gX2_againstParts_X1_countSteps rfl rfl rfl hd_X1_countSteps ⟨Nat.le_of_ble_eq_true rfl, Nat.le_of_ble_eq_true rfl⟩ rfl rfl rfl rfl dX2_againstParts_2 rfl (Nat.le_of_ble_eq_true rfl) ⟨Nat.le_of_ble_eq_true rfl, Nat.le_of_ble_eq_true rfl⟩) ?_
  refine j_eq (pc' := 5) (L' := [(0, .ref q), (1, .int (nI k)), (2, .int (nI e0)), (3, .int (nI o0)), (4, .int (nI i))]) (st' := [.int (nI so)]) (ws' := [(q, .inr (1, [.ref ca, .int n])), (ca, jaI g 224 f)]) ?_ rfl rfl (by rw [hso]) rfl
  refine j_istore (L' := [(0, .ref q), (1, .int (nI k)), (2, .int (nI e0)), (3, .int (nI o0)), (4, .int (nI i)), (5, .int (nI so))]) C dX2_againstParts_5 (Nat.le_of_ble_eq_true rfl) rfl rfl ?_
  refine j_aload_n 0 C dX2_againstParts_7 rfl rfl ?_
  refine j_iload_n 1 C dX2_againstParts_8 rfl rfl ?_
  refine j_iconst (v := 0) C dX2_againstParts_9 rfl ?_
  refine j_iload_n 2 C dX2_againstParts_10 rfl rfl ?_
  refine j_iconst (v := 5) C dX2_againstParts_11 rfl ?_
  refine j_callRi (v := jb (jHas f k 5 (e0 - 0) 0)) (j_runS (As := [.ref q, .int (nI k), .int 0, .int (nI e0), .int 5]) (rest := []) [0, 1] C (c_X2_hasDeed l g q ca n f k 0 e0 5 (by omega) (by omega) (by omega)) gX2_againstParts_X2_hasDeed rfl rfl rfl hd_X2_hasDeed ⟨Nat.le_of_ble_eq_true rfl, Nat.le_of_ble_eq_true rfl⟩ rfl rfl dX2_againstParts_12 rfl (Nat.le_of_ble_eq_true rfl) ⟨Nat.le_of_ble_eq_true rfl, Nat.le_of_ble_eq_true rfl⟩) ?_
  refine j_if_eq (tgt := 33) C dX2_againstParts_15 (by decide) (fun c_1 => ?_) (fun c_1 => ?_)
  · skip
    have c_1 : (jHas f k 5 (e0 - 0) 0) = false := jb_0 c_1
    refine j_aload_n 0 C dX2_againstParts_33 rfl rfl ?_
    refine j_iload_n 1 C dX2_againstParts_34 rfl rfl ?_
    refine j_iconst (v := 0) C dX2_againstParts_35 rfl ?_
    refine j_iload_n 2 C dX2_againstParts_36 rfl rfl ?_
    refine j_callRi (v := jWr f k (e0 - 0) 0 0) (j_runS (As := [.ref q, .int (nI k), .int 0, .int (nI e0)]) (rest := []) [0, 1] C (c_X2_writtenBy l g q ca n f k 0 e0 (by omega) (by omega) (by omega)) gX2_againstParts_X2_writtenBy rfl rfl rfl hd_X2_writtenBy ⟨Nat.le_of_ble_eq_true rfl, Nat.le_of_ble_eq_true rfl⟩ rfl rfl dX2_againstParts_37 rfl (Nat.le_of_ble_eq_true rfl) ⟨Nat.le_of_ble_eq_true rfl, Nat.le_of_ble_eq_true rfl⟩) ?_
    refine j_istore (L' := [(0, .ref q), (1, .int (nI k)), (2, .int (nI e0)), (3, .int (nI o0)), (4, .int (nI i)), (5, .int (nI so)), (6, .int (jWr f k (e0 - 0) 0 0))]) C dX2_againstParts_40 (Nat.le_of_ble_eq_true rfl) rfl rfl ?_
    refine j_aload_n 0 C dX2_againstParts_42 rfl rfl ?_
    refine j_iload_n 1 C dX2_againstParts_43 rfl rfl ?_
    refine j_iconst (v := 0) C dX2_againstParts_44 rfl ?_
    refine j_iload_n 2 C dX2_againstParts_45 rfl rfl ?_
    refine j_callRi (v := jLk f k (e0 - 0) 0 0) (j_runS (As := [.ref q, .int (nI k), .int 0, .int (nI e0)]) (rest := []) [0, 1] C (c_X2_lookedWithBy l g q ca n f k 0 e0 (by omega) (by omega) (by omega)) gX2_againstParts_X2_lookedWithBy rfl rfl rfl hd_X2_lookedWithBy ⟨Nat.le_of_ble_eq_true rfl, Nat.le_of_ble_eq_true rfl⟩ rfl rfl dX2_againstParts_46 rfl (Nat.le_of_ble_eq_true rfl) ⟨Nat.le_of_ble_eq_true rfl, Nat.le_of_ble_eq_true rfl⟩) ?_
    refine j_istore (L' := [(0, .ref q), (1, .int (nI k)), (2, .int (nI e0)), (3, .int (nI o0)), (4, .int (nI i)), (5, .int (nI so)), (6, .int (jWr f k (e0 - 0) 0 0)), (7, .int (jLk f k (e0 - 0) 0 0))]) C dX2_againstParts_49 (Nat.le_of_ble_eq_true rfl) rfl rfl ?_
    refine j_aload_n 0 C dX2_againstParts_51 rfl rfl ?_
    refine j_iload_n 3 C dX2_againstParts_52 rfl rfl ?_
    refine j_iload 4 C dX2_againstParts_53 rfl ?_
    refine j_iload 5 C dX2_againstParts_55 rfl ?_
    refine j_callRi (v := jWr f o0 (so - i) i 0) (j_runS (As := [.ref q, .int (nI o0), .int (nI i), .int (nI so)]) (rest := []) [0, 1] C (c_X2_writtenBy l g q ca n f o0 i so (by omega) (by omega) (by omega)) gX2_againstParts_X2_writtenBy rfl rfl rfl hd_X2_writtenBy ⟨Nat.le_of_ble_eq_true rfl, Nat.le_of_ble_eq_true rfl⟩ rfl rfl dX2_againstParts_57 rfl (Nat.le_of_ble_eq_true rfl) ⟨Nat.le_of_ble_eq_true rfl, Nat.le_of_ble_eq_true rfl⟩) ?_
    refine j_istore (L' := [(0, .ref q), (1, .int (nI k)), (2, .int (nI e0)), (3, .int (nI o0)), (4, .int (nI i)), (5, .int (nI so)), (6, .int (jWr f k (e0 - 0) 0 0)), (7, .int (jLk f k (e0 - 0) 0 0)), (8, .int (jWr f o0 (so - i) i 0))]) C dX2_againstParts_60 (Nat.le_of_ble_eq_true rfl) rfl rfl ?_
    refine j_aload_n 0 C dX2_againstParts_62 rfl rfl ?_
    refine j_iload_n 3 C dX2_againstParts_63 rfl rfl ?_
    refine j_iload 4 C dX2_againstParts_64 rfl ?_
    refine j_iload 5 C dX2_againstParts_66 rfl ?_
    refine j_callRi (v := jLk f o0 (so - i) i 0) (j_runS (As := [.ref q, .int (nI o0), .int (nI i), .int (nI so)]) (rest := []) [0, 1] C (c_X2_lookedWithBy l g q ca n f o0 i so (by omega) (by omega) (by omega)) gX2_againstParts_X2_lookedWithBy rfl rfl rfl hd_X2_lookedWithBy ⟨Nat.le_of_ble_eq_true rfl, Nat.le_of_ble_eq_true rfl⟩ rfl rfl dX2_againstParts_68 rfl (Nat.le_of_ble_eq_true rfl) ⟨Nat.le_of_ble_eq_true rfl, Nat.le_of_ble_eq_true rfl⟩) ?_
    refine j_istore (L' := [(0, .ref q), (1, .int (nI k)), (2, .int (nI e0)), (3, .int (nI o0)), (4, .int (nI i)), (5, .int (nI so)), (6, .int (jWr f k (e0 - 0) 0 0)), (7, .int (jLk f k (e0 - 0) 0 0)), (8, .int (jWr f o0 (so - i) i 0)), (9, .int (jLk f o0 (so - i) i 0))]) C dX2_againstParts_71 (Nat.le_of_ble_eq_true rfl) rfl rfl ?_
    refine j_iload 6 C dX2_againstParts_73 rfl ?_
    refine j_iload 8 C dX2_againstParts_75 rfl ?_
    refine j_iload 9 C dX2_againstParts_77 rfl ?_
    refine j_ior (x := jWr f o0 (so - i) i 0) (y := jLk f o0 (so - i) i 0) (v := (jWr f o0 (so - i) i 0) ||| (jLk f o0 (so - i) i 0)) C dX2_againstParts_79 rfl ?_
    refine j_iand (x := jWr f k (e0 - 0) 0 0) (y := (jWr f o0 (so - i) i 0) ||| (jLk f o0 (so - i) i 0)) (v := (jWr f k (e0 - 0) 0 0) &&& ((jWr f o0 (so - i) i 0) ||| (jLk f o0 (so - i) i 0))) C dX2_againstParts_80 rfl ?_
    refine j_if_ne (tgt := 96) C dX2_againstParts_81 (by decide) (fun c_2 => ?_) (fun c_2 => ?_)
    · skip
      refine j_iconst (v := 0) C dX2_againstParts_96 rfl ?_
      refine j_istore (L' := [(0, .ref q), (1, .int (nI k)), (2, .int (nI e0)), (3, .int (nI o0)), (4, .int (nI i)), (5, .int (nI so)), (6, .int (jWr f k (e0 - 0) 0 0)), (7, .int (jLk f k (e0 - 0) 0 0)), (8, .int (jWr f o0 (so - i) i 0)), (9, .int (jLk f o0 (so - i) i 0)), (10, .int 0)]) C dX2_againstParts_97 (Nat.le_of_ble_eq_true rfl) rfl rfl ?_
      refine j_iload 10 C dX2_againstParts_99 rfl ?_
      refine j_if_eq (tgt := 108) C dX2_againstParts_101 (by decide) (fun c_3 => ?_) (fun c_3 => ?_)
      · skip
        refine j_iconst (v := 4) C dX2_againstParts_108 rfl ?_
        exact j_iretR (v := 4) C hr dX2_againstParts_109 (by simp_all [jParts])
      · skip
        exact absurd c_3 (by decide)
    · skip
      refine j_iload 8 C dX2_againstParts_84 rfl ?_
      refine j_iload 7 C dX2_againstParts_86 rfl ?_
      refine j_iand (x := jWr f o0 (so - i) i 0) (y := jLk f k (e0 - 0) 0 0) (v := (jWr f o0 (so - i) i 0) &&& (jLk f k (e0 - 0) 0 0)) C dX2_againstParts_88 rfl ?_
      refine j_if_ne (tgt := 96) C dX2_againstParts_89 (by decide) (fun c_4 => ?_) (fun c_4 => ?_)
      · skip
        refine j_iconst (v := 0) C dX2_againstParts_96 rfl ?_
        refine j_istore (L' := [(0, .ref q), (1, .int (nI k)), (2, .int (nI e0)), (3, .int (nI o0)), (4, .int (nI i)), (5, .int (nI so)), (6, .int (jWr f k (e0 - 0) 0 0)), (7, .int (jLk f k (e0 - 0) 0 0)), (8, .int (jWr f o0 (so - i) i 0)), (9, .int (jLk f o0 (so - i) i 0)), (10, .int 0)]) C dX2_againstParts_97 (Nat.le_of_ble_eq_true rfl) rfl rfl ?_
        refine j_iload 10 C dX2_againstParts_99 rfl ?_
        refine j_if_eq (tgt := 108) C dX2_againstParts_101 (by decide) (fun c_5 => ?_) (fun c_5 => ?_)
        · skip
          refine j_iconst (v := 4) C dX2_againstParts_108 rfl ?_
          exact j_iretR (v := 4) C hr dX2_againstParts_109 (by simp_all [jParts])
        · skip
          exact absurd c_5 (by decide)
      · skip
        refine j_iconst (v := 1) C dX2_againstParts_92 rfl ?_
        refine j_goto (tgt := 97) C dX2_againstParts_93 (by decide) ?_
        refine j_istore (L' := [(0, .ref q), (1, .int (nI k)), (2, .int (nI e0)), (3, .int (nI o0)), (4, .int (nI i)), (5, .int (nI so)), (6, .int (jWr f k (e0 - 0) 0 0)), (7, .int (jLk f k (e0 - 0) 0 0)), (8, .int (jWr f o0 (so - i) i 0)), (9, .int (jLk f o0 (so - i) i 0)), (10, .int 1)]) C dX2_againstParts_97 (Nat.le_of_ble_eq_true rfl) rfl rfl ?_
        refine j_iload 10 C dX2_againstParts_99 rfl ?_
        refine j_if_eq (tgt := 108) C dX2_againstParts_101 (by decide) (fun c_6 => ?_) (fun c_6 => ?_)
        · skip
          exact absurd c_6 (by decide)
        · skip
          refine j_iconst (v := 0) C dX2_againstParts_104 rfl ?_
          refine j_goto (tgt := 109) C dX2_againstParts_105 (by decide) ?_
          exact j_iretR (v := 0) C hr dX2_againstParts_109 (by simp_all [jParts])
  · skip
    have c_1 : (jHas f k 5 (e0 - 0) 0) = true := jb_1 c_1
    refine j_aload_n 0 C dX2_againstParts_18 rfl rfl ?_
    refine j_iload_n 3 C dX2_againstParts_19 rfl rfl ?_
    refine j_iload 4 C dX2_againstParts_20 rfl ?_
    refine j_iload 5 C dX2_againstParts_22 rfl ?_
    refine j_iconst (v := 5) C dX2_againstParts_24 rfl ?_
    refine j_callRi (v := jb (jHas f o0 5 (so - i) i)) (j_runS (As := [.ref q, .int (nI o0), .int (nI i), .int (nI so), .int 5]) (rest := []) [0, 1] C (c_X2_hasDeed l g q ca n f o0 i so 5 (by omega) (by omega) (by omega)) gX2_againstParts_X2_hasDeed rfl rfl rfl hd_X2_hasDeed ⟨Nat.le_of_ble_eq_true rfl, Nat.le_of_ble_eq_true rfl⟩ rfl rfl dX2_againstParts_25 rfl (Nat.le_of_ble_eq_true rfl) ⟨Nat.le_of_ble_eq_true rfl, Nat.le_of_ble_eq_true rfl⟩) ?_
    refine j_if_eq (tgt := 33) C dX2_againstParts_28 (by decide) (fun c_7 => ?_) (fun c_7 => ?_)
    · skip
      have c_7 : (jHas f o0 5 (so - i) i) = false := jb_0 c_7
      refine j_aload_n 0 C dX2_againstParts_33 rfl rfl ?_
      refine j_iload_n 1 C dX2_againstParts_34 rfl rfl ?_
      refine j_iconst (v := 0) C dX2_againstParts_35 rfl ?_
      refine j_iload_n 2 C dX2_againstParts_36 rfl rfl ?_
      refine j_callRi (v := jWr f k (e0 - 0) 0 0) (j_runS (As := [.ref q, .int (nI k), .int 0, .int (nI e0)]) (rest := []) [0, 1] C (c_X2_writtenBy l g q ca n f k 0 e0 (by omega) (by omega) (by omega)) gX2_againstParts_X2_writtenBy rfl rfl rfl hd_X2_writtenBy ⟨Nat.le_of_ble_eq_true rfl, Nat.le_of_ble_eq_true rfl⟩ rfl rfl dX2_againstParts_37 rfl (Nat.le_of_ble_eq_true rfl) ⟨Nat.le_of_ble_eq_true rfl, Nat.le_of_ble_eq_true rfl⟩) ?_
      refine j_istore (L' := [(0, .ref q), (1, .int (nI k)), (2, .int (nI e0)), (3, .int (nI o0)), (4, .int (nI i)), (5, .int (nI so)), (6, .int (jWr f k (e0 - 0) 0 0))]) C dX2_againstParts_40 (Nat.le_of_ble_eq_true rfl) rfl rfl ?_
      refine j_aload_n 0 C dX2_againstParts_42 rfl rfl ?_
      refine j_iload_n 1 C dX2_againstParts_43 rfl rfl ?_
      refine j_iconst (v := 0) C dX2_againstParts_44 rfl ?_
      refine j_iload_n 2 C dX2_againstParts_45 rfl rfl ?_
      refine j_callRi (v := jLk f k (e0 - 0) 0 0) (j_runS (As := [.ref q, .int (nI k), .int 0, .int (nI e0)]) (rest := []) [0, 1] C (c_X2_lookedWithBy l g q ca n f k 0 e0 (by omega) (by omega) (by omega)) gX2_againstParts_X2_lookedWithBy rfl rfl rfl hd_X2_lookedWithBy ⟨Nat.le_of_ble_eq_true rfl, Nat.le_of_ble_eq_true rfl⟩ rfl rfl dX2_againstParts_46 rfl (Nat.le_of_ble_eq_true rfl) ⟨Nat.le_of_ble_eq_true rfl, Nat.le_of_ble_eq_true rfl⟩) ?_
      refine j_istore (L' := [(0, .ref q), (1, .int (nI k)), (2, .int (nI e0)), (3, .int (nI o0)), (4, .int (nI i)), (5, .int (nI so)), (6, .int (jWr f k (e0 - 0) 0 0)), (7, .int (jLk f k (e0 - 0) 0 0))]) C dX2_againstParts_49 (Nat.le_of_ble_eq_true rfl) rfl rfl ?_
      refine j_aload_n 0 C dX2_againstParts_51 rfl rfl ?_
      refine j_iload_n 3 C dX2_againstParts_52 rfl rfl ?_
      refine j_iload 4 C dX2_againstParts_53 rfl ?_
      refine j_iload 5 C dX2_againstParts_55 rfl ?_
      refine j_callRi (v := jWr f o0 (so - i) i 0) (j_runS (As := [.ref q, .int (nI o0), .int (nI i), .int (nI so)]) (rest := []) [0, 1] C (c_X2_writtenBy l g q ca n f o0 i so (by omega) (by omega) (by omega)) gX2_againstParts_X2_writtenBy rfl rfl rfl hd_X2_writtenBy ⟨Nat.le_of_ble_eq_true rfl, Nat.le_of_ble_eq_true rfl⟩ rfl rfl dX2_againstParts_57 rfl (Nat.le_of_ble_eq_true rfl) ⟨Nat.le_of_ble_eq_true rfl, Nat.le_of_ble_eq_true rfl⟩) ?_
      refine j_istore (L' := [(0, .ref q), (1, .int (nI k)), (2, .int (nI e0)), (3, .int (nI o0)), (4, .int (nI i)), (5, .int (nI so)), (6, .int (jWr f k (e0 - 0) 0 0)), (7, .int (jLk f k (e0 - 0) 0 0)), (8, .int (jWr f o0 (so - i) i 0))]) C dX2_againstParts_60 (Nat.le_of_ble_eq_true rfl) rfl rfl ?_
      refine j_aload_n 0 C dX2_againstParts_62 rfl rfl ?_
      refine j_iload_n 3 C dX2_againstParts_63 rfl rfl ?_
      refine j_iload 4 C dX2_againstParts_64 rfl ?_
      refine j_iload 5 C dX2_againstParts_66 rfl ?_
      refine j_callRi (v := jLk f o0 (so - i) i 0) (j_runS (As := [.ref q, .int (nI o0), .int (nI i), .int (nI so)]) (rest := []) [0, 1] C (c_X2_lookedWithBy l g q ca n f o0 i so (by omega) (by omega) (by omega)) gX2_againstParts_X2_lookedWithBy rfl rfl rfl hd_X2_lookedWithBy ⟨Nat.le_of_ble_eq_true rfl, Nat.le_of_ble_eq_true rfl⟩ rfl rfl dX2_againstParts_68 rfl (Nat.le_of_ble_eq_true rfl) ⟨Nat.le_of_ble_eq_true rfl, Nat.le_of_ble_eq_true rfl⟩) ?_
      refine j_istore (L' := [(0, .ref q), (1, .int (nI k)), (2, .int (nI e0)), (3, .int (nI o0)), (4, .int (nI i)), (5, .int (nI so)), (6, .int (jWr f k (e0 - 0) 0 0)), (7, .int (jLk f k (e0 - 0) 0 0)), (8, .int (jWr f o0 (so - i) i 0)), (9, .int (jLk f o0 (so - i) i 0))]) C dX2_againstParts_71 (Nat.le_of_ble_eq_true rfl) rfl rfl ?_
      refine j_iload 6 C dX2_againstParts_73 rfl ?_
      refine j_iload 8 C dX2_againstParts_75 rfl ?_
      refine j_iload 9 C dX2_againstParts_77 rfl ?_
      refine j_ior (x := jWr f o0 (so - i) i 0) (y := jLk f o0 (so - i) i 0) (v := (jWr f o0 (so - i) i 0) ||| (jLk f o0 (so - i) i 0)) C dX2_againstParts_79 rfl ?_
      refine j_iand (x := jWr f k (e0 - 0) 0 0) (y := (jWr f o0 (so - i) i 0) ||| (jLk f o0 (so - i) i 0)) (v := (jWr f k (e0 - 0) 0 0) &&& ((jWr f o0 (so - i) i 0) ||| (jLk f o0 (so - i) i 0))) C dX2_againstParts_80 rfl ?_
      refine j_if_ne (tgt := 96) C dX2_againstParts_81 (by decide) (fun c_8 => ?_) (fun c_8 => ?_)
      · skip
        refine j_iconst (v := 0) C dX2_againstParts_96 rfl ?_
        refine j_istore (L' := [(0, .ref q), (1, .int (nI k)), (2, .int (nI e0)), (3, .int (nI o0)), (4, .int (nI i)), (5, .int (nI so)), (6, .int (jWr f k (e0 - 0) 0 0)), (7, .int (jLk f k (e0 - 0) 0 0)), (8, .int (jWr f o0 (so - i) i 0)), (9, .int (jLk f o0 (so - i) i 0)), (10, .int 0)]) C dX2_againstParts_97 (Nat.le_of_ble_eq_true rfl) rfl rfl ?_
        refine j_iload 10 C dX2_againstParts_99 rfl ?_
        refine j_if_eq (tgt := 108) C dX2_againstParts_101 (by decide) (fun c_9 => ?_) (fun c_9 => ?_)
        · skip
          refine j_iconst (v := 4) C dX2_againstParts_108 rfl ?_
          exact j_iretR (v := 4) C hr dX2_againstParts_109 (by simp_all [jParts])
        · skip
          exact absurd c_9 (by decide)
      · skip
        refine j_iload 8 C dX2_againstParts_84 rfl ?_
        refine j_iload 7 C dX2_againstParts_86 rfl ?_
        refine j_iand (x := jWr f o0 (so - i) i 0) (y := jLk f k (e0 - 0) 0 0) (v := (jWr f o0 (so - i) i 0) &&& (jLk f k (e0 - 0) 0 0)) C dX2_againstParts_88 rfl ?_
        refine j_if_ne (tgt := 96) C dX2_againstParts_89 (by decide) (fun c_10 => ?_) (fun c_10 => ?_)
        · skip
          refine j_iconst (v := 0) C dX2_againstParts_96 rfl ?_
          refine j_istore (L' := [(0, .ref q), (1, .int (nI k)), (2, .int (nI e0)), (3, .int (nI o0)), (4, .int (nI i)), (5, .int (nI so)), (6, .int (jWr f k (e0 - 0) 0 0)), (7, .int (jLk f k (e0 - 0) 0 0)), (8, .int (jWr f o0 (so - i) i 0)), (9, .int (jLk f o0 (so - i) i 0)), (10, .int 0)]) C dX2_againstParts_97 (Nat.le_of_ble_eq_true rfl) rfl rfl ?_
          refine j_iload 10 C dX2_againstParts_99 rfl ?_
          refine j_if_eq (tgt := 108) C dX2_againstParts_101 (by decide) (fun c_11 => ?_) (fun c_11 => ?_)
          · skip
            refine j_iconst (v := 4) C dX2_againstParts_108 rfl ?_
            exact j_iretR (v := 4) C hr dX2_againstParts_109 (by simp_all [jParts])
          · skip
            exact absurd c_11 (by decide)
        · skip
          refine j_iconst (v := 1) C dX2_againstParts_92 rfl ?_
          refine j_goto (tgt := 97) C dX2_againstParts_93 (by decide) ?_
          refine j_istore (L' := [(0, .ref q), (1, .int (nI k)), (2, .int (nI e0)), (3, .int (nI o0)), (4, .int (nI i)), (5, .int (nI so)), (6, .int (jWr f k (e0 - 0) 0 0)), (7, .int (jLk f k (e0 - 0) 0 0)), (8, .int (jWr f o0 (so - i) i 0)), (9, .int (jLk f o0 (so - i) i 0)), (10, .int 1)]) C dX2_againstParts_97 (Nat.le_of_ble_eq_true rfl) rfl rfl ?_
          refine j_iload 10 C dX2_againstParts_99 rfl ?_
          refine j_if_eq (tgt := 108) C dX2_againstParts_101 (by decide) (fun c_12 => ?_) (fun c_12 => ?_)
          · skip
            exact absurd c_12 (by decide)
          · skip
            refine j_iconst (v := 0) C dX2_againstParts_104 rfl ?_
            refine j_goto (tgt := 109) C dX2_againstParts_105 (by decide) ?_
            exact j_iretR (v := 0) C hr dX2_againstParts_109 (by simp_all [jParts])
    · skip
      have c_7 : (jHas f o0 5 (so - i) i) = true := jb_1 c_7
      refine j_iconst (v := 3) C dX2_againstParts_31 rfl ?_
      exact j_iretR (v := 3) C hr dX2_againstParts_32 (by simp_all [jParts])
set_option maxHeartbeats 4000000 in
set_option maxRecDepth 100000 in
theorem c_X2_againstJoin (l : Launch) (g : jG) (q ca : Nat) (n : Int32) (f : Nat → Int32) (k a b : Nat) (hk : k < 7) (ha : f (k * 28 + 3) = nI a) (ha6 : a ≤ 6) (hb : f ((k + 1) * 28 + 3) = nI b) (hb6 : b ≤ 6) : jRi l yX2_againstJoin wsX2_againstJoin ({ frames := 4, cells := 0, slots := 0, locals := 94 }) g [.ref q, .int (nI k)] [(q, .inr (1, [.ref ca, .int n])), (ca, jaI g 224 f)] (jAJ f k a b) := by
  refine j_enterR (cc := cX2_againstJoin) (maxL := 4) (ret := (some .int)) (own := RX2) (L := [(0, .ref q), (1, .int (nI k))]) (by decide) rfl rfl (Nat.le_of_ble_eq_true rfl) rfl (fun p e s m args below meth c C hr => ?_)
  refine j_aload_n 0 C dX2_againstJoin_0 rfl rfl ?_
  refine j_iload_n 1 C dX2_againstJoin_1 rfl rfl ?_
  refine j_callRi (v := jb (jSame f k)) (j_runS (As := [.ref q, .int (nI k)]) (rest := []) [0, 1] C (c_X2_haveSameRange l g q ca n f k (by omega)) gX2_againstJoin_X2_haveSameRange rfl rfl rfl hd_X2_haveSameRange ⟨Nat.le_of_ble_eq_true rfl, Nat.le_of_ble_eq_true rfl⟩ rfl rfl dX2_againstJoin_2 rfl (Nat.le_of_ble_eq_true rfl) ⟨Nat.le_of_ble_eq_true rfl, Nat.le_of_ble_eq_true rfl⟩) ?_
  refine j_if_ne (tgt := 10) C dX2_againstJoin_5 (by decide) (fun c_1 => ?_) (fun c_1 => ?_)
  · skip
    have c_1 : (jSame f k) = true := jb_1 c_1
    refine j_aload_n 0 C dX2_againstJoin_10 rfl rfl ?_
    refine j_iload_n 1 C dX2_againstJoin_11 rfl rfl ?_
    refine j_callRi (v := jb (jHas f k 4 a 0)) (j_runS (As := [.ref q, .int (nI k)]) (rest := []) [0, 1] C (c_X2_hasBreak l g q ca n f k a (by omega) ha (by omega)) gX2_againstJoin_X2_hasBreak rfl rfl rfl hd_X2_hasBreak ⟨Nat.le_of_ble_eq_true rfl, Nat.le_of_ble_eq_true rfl⟩ rfl rfl dX2_againstJoin_12 rfl (Nat.le_of_ble_eq_true rfl) ⟨Nat.le_of_ble_eq_true rfl, Nat.le_of_ble_eq_true rfl⟩) ?_
    refine j_if_ne (tgt := 28) C dX2_againstJoin_15 (by decide) (fun c_2 => ?_) (fun c_2 => ?_)
    · skip
      have c_2 : (jHas f k 4 a 0) = true := jb_1 c_2
      refine j_iconst (v := 2) C dX2_againstJoin_28 rfl ?_
      exact j_iretR (v := 2) C hr dX2_againstJoin_29 (by simp_all [jAJ])
    · skip
      have c_2 : (jHas f k 4 a 0) = false := jb_0 c_2
      refine j_aload_n 0 C dX2_againstJoin_18 rfl rfl ?_
      refine j_iload_n 1 C dX2_againstJoin_19 rfl rfl ?_
      refine j_iconst (v := 1) C dX2_againstJoin_20 rfl ?_
      refine j_iadd (x := nI k) (y := 1) (v := nI (k + 1)) C dX2_againstJoin_21 (nI_add k 1) ?_
      refine j_callRi (v := jb (jHas f (k + 1) 4 b 0)) (j_runS (As := [.ref q, .int (nI (k + 1))]) (rest := []) [0, 1] C (c_X2_hasBreak l g q ca n f (k + 1) b (by omega) hb (by omega)) gX2_againstJoin_X2_hasBreak rfl rfl rfl hd_X2_hasBreak ⟨Nat.le_of_ble_eq_true rfl, Nat.le_of_ble_eq_true rfl⟩ rfl rfl dX2_againstJoin_22 rfl (Nat.le_of_ble_eq_true rfl) ⟨Nat.le_of_ble_eq_true rfl, Nat.le_of_ble_eq_true rfl⟩) ?_
      refine j_if_eq (tgt := 30) C dX2_againstJoin_25 (by decide) (fun c_3 => ?_) (fun c_3 => ?_)
      · skip
        have c_3 : (jHas f (k + 1) 4 b 0) = false := jb_0 c_3
        refine j_aload_n 0 C dX2_againstJoin_30 rfl rfl ?_
        refine j_iload_n 1 C dX2_againstJoin_31 rfl rfl ?_
        refine j_aload_n 0 C dX2_againstJoin_32 rfl rfl ?_
        refine j_iload_n 1 C dX2_againstJoin_33 rfl rfl ?_
        refine j_callRi (v := f (k * 28 + 3)) (j_runV (ci := 0) (As := [.int (nI k)]) (rest := [.int (nI k), .ref q]) [0, 1] C (c_X1_countSteps l g q ca n f k (by omega)) gX2_againstJoin_X1_countSteps rfl rfl rfl hd_X1_countSteps ⟨Nat.le_of_ble_eq_true rfl, Nat.le_of_ble_eq_true rfl⟩ rfl rfl rfl rfl dX2_againstJoin_34 rfl (Nat.le_of_ble_eq_true rfl) ⟨Nat.le_of_ble_eq_true rfl, Nat.le_of_ble_eq_true rfl⟩) ?_
        refine j_eq (pc' := 37) (L' := [(0, .ref q), (1, .int (nI k))]) (st' := [.int (nI a), .int (nI k), .ref q]) (ws' := [(q, .inr (1, [.ref ca, .int n])), (ca, jaI g 224 f)]) ?_ rfl rfl (by rw [ha]) rfl
        refine j_iload_n 1 C dX2_againstJoin_37 rfl rfl ?_
        refine j_iconst (v := 1) C dX2_againstJoin_38 rfl ?_
        refine j_iadd (x := nI k) (y := 1) (v := nI (k + 1)) C dX2_againstJoin_39 (nI_add k 1) ?_
        refine j_iconst (v := 0) C dX2_againstJoin_40 rfl ?_
        refine j_callRi (v := jParts f k a (k + 1) 0 b) (j_runS (As := [.ref q, .int (nI k), .int (nI a), .int (nI (k + 1)), .int 0]) (rest := []) [0, 1] C (c_X2_againstParts l g q ca n f k a (k + 1) 0 b (by omega) (by omega) (by omega) (by omega) hb (by omega)) gX2_againstJoin_X2_againstParts rfl rfl rfl hd_X2_againstParts ⟨Nat.le_of_ble_eq_true rfl, Nat.le_of_ble_eq_true rfl⟩ rfl rfl dX2_againstJoin_41 rfl (Nat.le_of_ble_eq_true rfl) ⟨Nat.le_of_ble_eq_true rfl, Nat.le_of_ble_eq_true rfl⟩) ?_
        refine j_istore_n (L' := [(0, .ref q), (1, .int (nI k)), (2, .int (jParts f k a (k + 1) 0 b))]) C dX2_againstJoin_44 rfl (Nat.le_of_ble_eq_true rfl) rfl rfl ?_
        refine j_iload_n 2 C dX2_againstJoin_45 rfl rfl ?_
        refine j_if_eq (tgt := 51) C dX2_againstJoin_46 (by decide) (fun c_4 => ?_) (fun c_4 => ?_)
        · skip
          refine j_aload_n 0 C dX2_againstJoin_51 rfl rfl ?_
          refine j_iload_n 1 C dX2_againstJoin_52 rfl rfl ?_
          refine j_callRi (v := f (k * 28 + 3)) (j_runV (ci := 0) (As := [.int (nI k)]) (rest := []) [0, 1] C (c_X1_countSteps l g q ca n f k (by omega)) gX2_againstJoin_X1_countSteps rfl rfl rfl hd_X1_countSteps ⟨Nat.le_of_ble_eq_true rfl, Nat.le_of_ble_eq_true rfl⟩ rfl rfl rfl rfl dX2_againstJoin_53 rfl (Nat.le_of_ble_eq_true rfl) ⟨Nat.le_of_ble_eq_true rfl, Nat.le_of_ble_eq_true rfl⟩) ?_
          refine j_eq (pc' := 56) (L' := [(0, .ref q), (1, .int (nI k)), (2, .int (jParts f k a (k + 1) 0 b))]) (st' := [.int (nI a)]) (ws' := [(q, .inr (1, [.ref ca, .int n])), (ca, jaI g 224 f)]) ?_ rfl rfl (by rw [ha]) rfl
          refine j_aload_n 0 C dX2_againstJoin_56 rfl rfl ?_
          refine j_iload_n 1 C dX2_againstJoin_57 rfl rfl ?_
          refine j_iconst (v := 1) C dX2_againstJoin_58 rfl ?_
          refine j_iadd (x := nI k) (y := 1) (v := nI (k + 1)) C dX2_againstJoin_59 (nI_add k 1) ?_
          refine j_callRi (v := f ((k + 1) * 28 + 3)) (j_runV (ci := 0) (As := [.int (nI (k + 1))]) (rest := [.int (nI a)]) [0, 1] C (c_X1_countSteps l g q ca n f (k + 1) (by omega)) gX2_againstJoin_X1_countSteps rfl rfl rfl hd_X1_countSteps ⟨Nat.le_of_ble_eq_true rfl, Nat.le_of_ble_eq_true rfl⟩ rfl rfl rfl rfl dX2_againstJoin_60 rfl (Nat.le_of_ble_eq_true rfl) ⟨Nat.le_of_ble_eq_true rfl, Nat.le_of_ble_eq_true rfl⟩) ?_
          refine j_eq (pc' := 63) (L' := [(0, .ref q), (1, .int (nI k)), (2, .int (jParts f k a (k + 1) 0 b))]) (st' := [.int (nI b), .int (nI a)]) (ws' := [(q, .inr (1, [.ref ca, .int n])), (ca, jaI g 224 f)]) ?_ rfl rfl (by rw [hb]) rfl
          refine j_iadd (x := nI a) (y := nI b) (v := nI (a + b)) C dX2_againstJoin_63 (nI_add a b) ?_
          refine j_istore_n (L' := [(0, .ref q), (1, .int (nI k)), (2, .int (jParts f k a (k + 1) 0 b)), (3, .int (nI (a + b)))]) C dX2_againstJoin_64 rfl (Nat.le_of_ble_eq_true rfl) rfl rfl ?_
          refine j_iload_n 3 C dX2_againstJoin_65 rfl rfl ?_
          refine j_bipush (v := 6) C dX2_againstJoin_66 rfl ?_
          refine j_icmp_le (tgt := 75) C dX2_againstJoin_68 (by decide) (fun c_5 => ?_) (fun c_5 => ?_)
          · skip
            have c_5 : (a + b) ≤ 6 := (nI_leI (a := a + b) (b := 6) (by omega) (by omega)).mp c_5
            refine j_iconst (v := 0) C dX2_againstJoin_75 rfl ?_
            exact j_iretR (v := 0) C hr dX2_againstJoin_76 (by simp_all [jAJ])
          · skip
            have c_5 : ¬ (a + b) ≤ 6 := fun z => c_5 ((nI_leI (a := a + b) (b := 6) (by omega) (by omega)).mpr z)
            refine j_iconst (v := 5) C dX2_againstJoin_71 rfl ?_
            refine j_goto (tgt := 76) C dX2_againstJoin_72 (by decide) ?_
            exact j_iretR (v := 5) C hr dX2_againstJoin_76 (by simp_all [jAJ])
        · skip
          refine j_iload_n 2 C dX2_againstJoin_49 rfl rfl ?_
          exact j_iretR (v := jParts f k a (k + 1) 0 b) C hr dX2_againstJoin_50 (by simp_all [jAJ])
      · skip
        have c_3 : (jHas f (k + 1) 4 b 0) = true := jb_1 c_3
        refine j_iconst (v := 2) C dX2_againstJoin_28 rfl ?_
        exact j_iretR (v := 2) C hr dX2_againstJoin_29 (by simp_all [jAJ])
  · skip
    have c_1 : (jSame f k) = false := jb_0 c_1
    refine j_iconst (v := 1) C dX2_againstJoin_8 rfl ?_
    exact j_iretR (v := 1) C hr dX2_againstJoin_9 (by simp_all [jAJ])
set_option maxHeartbeats 4000000 in
set_option maxRecDepth 100000 in
theorem c_X2_againstDivide (l : Launch) (g : jG) (q ca n : Nat) (f : Nat → Int32) (k i a : Nat) (hk : k < 8) (ha : f (k * 28 + 3) = nI a) (ha6 : a ≤ 6) (hi : i ≤ 6) (hn : n ≤ 8) : jRi l yX2_againstDivide wsX2_againstDivide ({ frames := 4, cells := 0, slots := 0, locals := 94 }) g [.ref q, .int (nI k), .int (nI i)] [(q, .inr (1, [.ref ca, .int (nI n)])), (ca, jaI g 224 f)] (jAD f n k i a) := by
  refine j_enterR (cc := cX2_againstDivide) (maxL := 4) (ret := (some .int)) (own := RX2) (L := [(0, .ref q), (1, .int (nI k)), (2, .int (nI i))]) (by decide) rfl rfl (Nat.le_of_ble_eq_true rfl) rfl (fun p e s m args below meth c C hr => ?_)
  refine j_aload_n 0 C dX2_againstDivide_0 rfl rfl ?_
  refine j_iload_n 1 C dX2_againstDivide_1 rfl rfl ?_
  refine j_callRi (v := jb (jHas f k 4 a 0)) (j_runS (As := [.ref q, .int (nI k)]) (rest := []) [0, 1] C (c_X2_hasBreak l g q ca (nI n) f k a (by omega) ha (by omega)) gX2_againstDivide_X2_hasBreak rfl rfl rfl hd_X2_hasBreak ⟨Nat.le_of_ble_eq_true rfl, Nat.le_of_ble_eq_true rfl⟩ rfl rfl dX2_againstDivide_2 rfl (Nat.le_of_ble_eq_true rfl) ⟨Nat.le_of_ble_eq_true rfl, Nat.le_of_ble_eq_true rfl⟩) ?_
  refine j_if_eq (tgt := 10) C dX2_againstDivide_5 (by decide) (fun c_1 => ?_) (fun c_1 => ?_)
  · skip
    have c_1 : (jHas f k 4 a 0) = false := jb_0 c_1
    refine j_aload_n 0 C dX2_againstDivide_10 rfl rfl ?_
    refine j_iload_n 1 C dX2_againstDivide_11 rfl rfl ?_
    refine j_iload_n 2 C dX2_againstDivide_12 rfl rfl ?_
    refine j_iload_n 1 C dX2_againstDivide_13 rfl rfl ?_
    refine j_iload_n 2 C dX2_againstDivide_14 rfl rfl ?_
    refine j_callRi (v := jParts f k i k i a) (j_runS (As := [.ref q, .int (nI k), .int (nI i), .int (nI k), .int (nI i)]) (rest := []) [0, 1] C (c_X2_againstParts l g q ca (nI n) f k i k i a (by omega) (by omega) (by omega) (by omega) ha (by omega)) gX2_againstDivide_X2_againstParts rfl rfl rfl hd_X2_againstParts ⟨Nat.le_of_ble_eq_true rfl, Nat.le_of_ble_eq_true rfl⟩ rfl rfl dX2_againstDivide_15 rfl (Nat.le_of_ble_eq_true rfl) ⟨Nat.le_of_ble_eq_true rfl, Nat.le_of_ble_eq_true rfl⟩) ?_
    refine j_istore_n (L' := [(0, .ref q), (1, .int (nI k)), (2, .int (nI i)), (3, .int (jParts f k i k i a))]) C dX2_againstDivide_18 rfl (Nat.le_of_ble_eq_true rfl) rfl rfl ?_
    refine j_iload_n 3 C dX2_againstDivide_19 rfl rfl ?_
    refine j_if_eq (tgt := 25) C dX2_againstDivide_20 (by decide) (fun c_2 => ?_) (fun c_2 => ?_)
    · skip
      refine j_aload_n 0 C dX2_againstDivide_25 rfl rfl ?_
      refine j_callRi (v := nI n) (j_runV (ci := 0) (As := []) (rest := []) [0, 1] C (c_X1_countLoops l g q ca (nI n) f) gX2_againstDivide_X1_countLoops rfl rfl rfl hd_X1_countLoops ⟨Nat.le_of_ble_eq_true rfl, Nat.le_of_ble_eq_true rfl⟩ rfl rfl rfl rfl dX2_againstDivide_26 rfl (Nat.le_of_ble_eq_true rfl) ⟨Nat.le_of_ble_eq_true rfl, Nat.le_of_ble_eq_true rfl⟩) ?_
      refine j_bipush (v := 8) C dX2_againstDivide_29 rfl ?_
      refine j_icmp_lt (tgt := 39) C dX2_againstDivide_31 (by decide) (fun c_3 => ?_) (fun c_3 => ?_)
      · skip
        have c_3 : n < 8 := (nI_ltI (a := n) (b := 8) (by omega) (by omega)).mp c_3
        refine j_iconst (v := 0) C dX2_againstDivide_39 rfl ?_
        exact j_iretR (v := 0) C hr dX2_againstDivide_40 (by simp_all [jAD])
      · skip
        have c_3 : ¬ n < 8 := fun z => c_3 ((nI_ltI (a := n) (b := 8) (by omega) (by omega)).mpr z)
        refine j_bipush (v := 6) C dX2_againstDivide_34 rfl ?_
        refine j_goto (tgt := 40) C dX2_againstDivide_36 (by decide) ?_
        exact j_iretR (v := 6) C hr dX2_againstDivide_40 (by simp_all [jAD])
    · skip
      refine j_iload_n 3 C dX2_againstDivide_23 rfl rfl ?_
      exact j_iretR (v := jParts f k i k i a) C hr dX2_againstDivide_24 (by simp_all [jAD])
  · skip
    have c_1 : (jHas f k 4 a 0) = true := jb_1 c_1
    refine j_iconst (v := 2) C dX2_againstDivide_8 rfl ?_
    exact j_iretR (v := 2) C hr dX2_againstDivide_9 (by simp_all [jAD])
set_option maxHeartbeats 4000000 in
set_option maxRecDepth 100000 in
theorem c_X2_againstPeel (l : Launch) (g : jG) (q ca n : Nat) (f : Nat → Int32) (k w a v u : Nat) (hk : k < 8) (ha : f (k * 28 + 3) = nI a) (ha6 : a ≤ 6) (hn : n ≤ 8) (hw1 : 1 ≤ w) (hw2 : w ≤ 10) (hv : f (k * 28 + 0) = nI v) (hv5 : v ≤ 5) (hu : f (k * 28 + 1) = nI u) (hu5 : u ≤ 5) : jRi l yX2_againstPeel wsX2_againstPeel ({ frames := 4, cells := 0, slots := 0, locals := 85 }) g [.ref q, .int (nI k), .int (nI w)] [(q, .inr (1, [.ref ca, .int (nI n)])), (ca, jaI g 224 f)] (jAP f n k w a v u) := by
  refine j_enterR (cc := cX2_againstPeel) (maxL := 5) (ret := (some .int)) (own := RX2) (L := [(0, .ref q), (1, .int (nI k)), (2, .int (nI w))]) (by decide) rfl rfl (Nat.le_of_ble_eq_true rfl) rfl (fun p e s m args below meth c C hr => ?_)
  refine j_aload_n 0 C dX2_againstPeel_0 rfl rfl ?_
  refine j_iload_n 1 C dX2_againstPeel_1 rfl rfl ?_
  refine j_iconst (v := 0) C dX2_againstPeel_2 rfl ?_
  refine j_callRi (v := f (k * 28 + 0)) (j_runV (ci := 0) (As := [.int (nI k), .int 0]) (rest := []) [0, 1] C (c_X1_loopFact l g q ca (nI n) f k 0 (by omega)) gX2_againstPeel_X1_loopFact rfl rfl rfl hd_X1_loopFact ⟨Nat.le_of_ble_eq_true rfl, Nat.le_of_ble_eq_true rfl⟩ rfl rfl rfl rfl dX2_againstPeel_3 rfl (Nat.le_of_ble_eq_true rfl) ⟨Nat.le_of_ble_eq_true rfl, Nat.le_of_ble_eq_true rfl⟩) ?_
  refine j_eq (pc' := 6) (L' := [(0, .ref q), (1, .int (nI k)), (2, .int (nI w))]) (st' := [.int (nI v)]) (ws' := [(q, .inr (1, [.ref ca, .int (nI n)])), (ca, jaI g 224 f)]) ?_ rfl rfl (by rw [hv]) rfl
  refine j_istore_n (L' := [(0, .ref q), (1, .int (nI k)), (2, .int (nI w)), (3, .int (nI v))]) C dX2_againstPeel_6 rfl (Nat.le_of_ble_eq_true rfl) rfl rfl ?_
  refine j_aload_n 0 C dX2_againstPeel_7 rfl rfl ?_
  refine j_iload_n 1 C dX2_againstPeel_8 rfl rfl ?_
  refine j_iconst (v := 1) C dX2_againstPeel_9 rfl ?_
  refine j_callRi (v := f (k * 28 + 1)) (j_runV (ci := 0) (As := [.int (nI k), .int 1]) (rest := []) [0, 1] C (c_X1_loopFact l g q ca (nI n) f k 1 (by omega)) gX2_againstPeel_X1_loopFact rfl rfl rfl hd_X1_loopFact ⟨Nat.le_of_ble_eq_true rfl, Nat.le_of_ble_eq_true rfl⟩ rfl rfl rfl rfl dX2_againstPeel_10 rfl (Nat.le_of_ble_eq_true rfl) ⟨Nat.le_of_ble_eq_true rfl, Nat.le_of_ble_eq_true rfl⟩) ?_
  refine j_eq (pc' := 13) (L' := [(0, .ref q), (1, .int (nI k)), (2, .int (nI w)), (3, .int (nI v))]) (st' := [.int (nI u)]) (ws' := [(q, .inr (1, [.ref ca, .int (nI n)])), (ca, jaI g 224 f)]) ?_ rfl rfl (by rw [hu]) rfl
  refine j_istore (L' := [(0, .ref q), (1, .int (nI k)), (2, .int (nI w)), (3, .int (nI v)), (4, .int (nI u))]) C dX2_againstPeel_13 (Nat.le_of_ble_eq_true rfl) rfl rfl ?_
  refine j_aload_n 0 C dX2_againstPeel_15 rfl rfl ?_
  refine j_iload_n 1 C dX2_againstPeel_16 rfl rfl ?_
  refine j_iconst (v := 2) C dX2_againstPeel_17 rfl ?_
  refine j_callRi (v := f (k * 28 + 2)) (j_runV (ci := 0) (As := [.int (nI k), .int 2]) (rest := []) [0, 1] C (c_X1_loopFact l g q ca (nI n) f k 2 (by omega)) gX2_againstPeel_X1_loopFact rfl rfl rfl hd_X1_loopFact ⟨Nat.le_of_ble_eq_true rfl, Nat.le_of_ble_eq_true rfl⟩ rfl rfl rfl rfl dX2_againstPeel_18 rfl (Nat.le_of_ble_eq_true rfl) ⟨Nat.le_of_ble_eq_true rfl, Nat.le_of_ble_eq_true rfl⟩) ?_
  refine j_if_ne (tgt := 27) C dX2_againstPeel_21 (by decide) (fun c_1 => ?_) (fun c_1 => ?_)
  · skip
    refine j_iload_n 3 C dX2_againstPeel_27 rfl rfl ?_
    refine j_iload 4 C dX2_againstPeel_28 rfl ?_
    refine j_iadd (x := nI v) (y := nI u) (v := nI (v + u)) C dX2_againstPeel_30 (nI_add v u) ?_
    refine j_iload_n 2 C dX2_againstPeel_31 rfl rfl ?_
    refine j_iconst (v := 1) C dX2_againstPeel_32 rfl ?_
    refine j_isub (x := nI w) (y := 1) (v := nI (w - 1)) C dX2_againstPeel_33 (pk_sub (a := w) (b := 1) (by omega)) ?_
    refine j_icmp_gt (tgt := 53) C dX2_againstPeel_34 (by decide) (fun c_2 => ?_) (fun c_2 => ?_)
    · skip
      have c_2 : (w - 1) < (v + u) := (nI_ltI (a := w - 1) (b := v + u) (by omega) (by omega)).mp c_2
      refine j_bipush (v := 8) C dX2_againstPeel_53 rfl ?_
      exact j_iretR (v := 8) C hr dX2_againstPeel_55 (by rw [jAP, if_neg (by assumption), if_pos (by omega)])
    · skip
      have c_2 : ¬ (w - 1) < (v + u) := fun z => c_2 ((nI_ltI (a := w - 1) (b := v + u) (by omega) (by omega)).mpr z)
      refine j_iload_n 2 C dX2_againstPeel_37 rfl rfl ?_
      refine j_iconst (v := 1) C dX2_againstPeel_38 rfl ?_
      refine j_isub (x := nI w) (y := 1) (v := nI (w - 1)) C dX2_againstPeel_39 (pk_sub (a := w) (b := 1) (by omega)) ?_
      refine j_iload_n 3 C dX2_againstPeel_40 rfl rfl ?_
      refine j_isub (x := nI (w - 1)) (y := nI v) (v := nI ((w - 1) - v)) C dX2_againstPeel_41 (pk_sub (a := w - 1) (b := v) (by omega)) ?_
      refine j_iconst (v := 5) C dX2_againstPeel_42 rfl ?_
      refine j_icmp_gt (tgt := 53) C dX2_againstPeel_43 (by decide) (fun c_3 => ?_) (fun c_3 => ?_)
      · skip
        have c_3 : 5 < ((w - 1) - v) := (nI_ltI (a := 5) (b := (w - 1) - v) (by omega) (by omega)).mp c_3
        refine j_bipush (v := 8) C dX2_againstPeel_53 rfl ?_
        exact j_iretR (v := 8) C hr dX2_againstPeel_55 (by rw [jAP, if_neg (by assumption), if_pos (by omega)])
      · skip
        have c_3 : ¬ 5 < ((w - 1) - v) := fun z => c_3 ((nI_ltI (a := 5) (b := (w - 1) - v) (by omega) (by omega)).mpr z)
        refine j_iload_n 3 C dX2_againstPeel_46 rfl rfl ?_
        refine j_iconst (v := 1) C dX2_againstPeel_47 rfl ?_
        refine j_iadd (x := nI v) (y := 1) (v := nI (v + 1)) C dX2_againstPeel_48 (nI_add v 1) ?_
        refine j_iconst (v := 5) C dX2_againstPeel_49 rfl ?_
        refine j_icmp_le (tgt := 56) C dX2_againstPeel_50 (by decide) (fun c_4 => ?_) (fun c_4 => ?_)
        · skip
          have c_4 : (v + 1) ≤ 5 := (nI_leI (a := v + 1) (b := 5) (by omega) (by omega)).mp c_4
          refine j_aload_n 0 C dX2_againstPeel_56 rfl rfl ?_
          refine j_iload_n 1 C dX2_againstPeel_57 rfl rfl ?_
          refine j_callRi (v := jb (jHas f k 4 a 0)) (j_runS (As := [.ref q, .int (nI k)]) (rest := []) [0, 1] C (c_X2_hasBreak l g q ca (nI n) f k a (by omega) ha (by omega)) gX2_againstPeel_X2_hasBreak rfl rfl rfl hd_X2_hasBreak ⟨Nat.le_of_ble_eq_true rfl, Nat.le_of_ble_eq_true rfl⟩ rfl rfl dX2_againstPeel_58 rfl (Nat.le_of_ble_eq_true rfl) ⟨Nat.le_of_ble_eq_true rfl, Nat.le_of_ble_eq_true rfl⟩) ?_
          refine j_if_eq (tgt := 66) C dX2_againstPeel_61 (by decide) (fun c_5 => ?_) (fun c_5 => ?_)
          · skip
            have c_5 : (jHas f k 4 a 0) = false := jb_0 c_5
            refine j_aload_n 0 C dX2_againstPeel_66 rfl rfl ?_
            refine j_callRi (v := nI n) (j_runV (ci := 0) (As := []) (rest := []) [0, 1] C (c_X1_countLoops l g q ca (nI n) f) gX2_againstPeel_X1_countLoops rfl rfl rfl hd_X1_countLoops ⟨Nat.le_of_ble_eq_true rfl, Nat.le_of_ble_eq_true rfl⟩ rfl rfl rfl rfl dX2_againstPeel_67 rfl (Nat.le_of_ble_eq_true rfl) ⟨Nat.le_of_ble_eq_true rfl, Nat.le_of_ble_eq_true rfl⟩) ?_
            refine j_bipush (v := 8) C dX2_againstPeel_70 rfl ?_
            refine j_icmp_lt (tgt := 80) C dX2_againstPeel_72 (by decide) (fun c_6 => ?_) (fun c_6 => ?_)
            · skip
              have c_6 : n < 8 := (nI_ltI (a := n) (b := 8) (by omega) (by omega)).mp c_6
              refine j_iconst (v := 0) C dX2_againstPeel_80 rfl ?_
              exact j_iretR (v := 0) C hr dX2_againstPeel_81 (by rw [jAP, if_neg (by assumption), if_neg (by omega), if_neg (by simp_all)]; first | rw [if_pos (by omega)] | rw [if_neg (by omega)])
            · skip
              have c_6 : ¬ n < 8 := fun z => c_6 ((nI_ltI (a := n) (b := 8) (by omega) (by omega)).mpr z)
              refine j_bipush (v := 6) C dX2_againstPeel_75 rfl ?_
              refine j_goto (tgt := 81) C dX2_againstPeel_77 (by decide) ?_
              exact j_iretR (v := 6) C hr dX2_againstPeel_81 (by rw [jAP, if_neg (by assumption), if_neg (by omega), if_neg (by simp_all)]; first | rw [if_pos (by omega)] | rw [if_neg (by omega)])
          · skip
            have c_5 : (jHas f k 4 a 0) = true := jb_1 c_5
            refine j_iconst (v := 2) C dX2_againstPeel_64 rfl ?_
            exact j_iretR (v := 2) C hr dX2_againstPeel_65 (by rw [jAP, if_neg (by assumption), if_neg (by omega), if_pos (by assumption)])
        · skip
          have c_4 : ¬ (v + 1) ≤ 5 := fun z => c_4 ((nI_leI (a := v + 1) (b := 5) (by omega) (by omega)).mpr z)
          refine j_bipush (v := 8) C dX2_againstPeel_53 rfl ?_
          exact j_iretR (v := 8) C hr dX2_againstPeel_55 (by rw [jAP, if_neg (by assumption), if_pos (by omega)])
  · skip
    refine j_bipush (v := 7) C dX2_againstPeel_24 rfl ?_
    exact j_iretR (v := 7) C hr dX2_againstPeel_26 (by rw [jAP, if_pos (by assumption)])
set_option maxHeartbeats 4000000 in
set_option maxRecDepth 100000 in
theorem c_X2_againstTurn (l : Launch) (g : jG) (q ca : Nat) (n : Int32) (f : Nat → Int32) (k a : Nat) (hk : k < 8) (ha : f (k * 28 + 3) = nI a) (ha6 : a ≤ 6) : jRi l yX2_againstTurn wsX2_againstTurn ({ frames := 4, cells := 0, slots := 0, locals := 89 }) g [.ref q, .int (nI k)] [(q, .inr (1, [.ref ca, .int n])), (ca, jaI g 224 f)] (jAT f k a) := by
  refine j_enterR (cc := cX2_againstTurn) (maxL := 4) (ret := (some .int)) (own := RX2) (L := [(0, .ref q), (1, .int (nI k))]) (by decide) rfl rfl (Nat.le_of_ble_eq_true rfl) rfl (fun p e s m args below meth c C hr => ?_)
  refine j_aload_n 0 C dX2_againstTurn_0 rfl rfl ?_
  refine j_iload_n 1 C dX2_againstTurn_1 rfl rfl ?_
  refine j_callRi (v := f (k * 28 + 3)) (j_runV (ci := 0) (As := [.int (nI k)]) (rest := []) [0, 1] C (c_X1_countSteps l g q ca n f k (by omega)) gX2_againstTurn_X1_countSteps rfl rfl rfl hd_X1_countSteps ⟨Nat.le_of_ble_eq_true rfl, Nat.le_of_ble_eq_true rfl⟩ rfl rfl rfl rfl dX2_againstTurn_2 rfl (Nat.le_of_ble_eq_true rfl) ⟨Nat.le_of_ble_eq_true rfl, Nat.le_of_ble_eq_true rfl⟩) ?_
  refine j_eq (pc' := 5) (L' := [(0, .ref q), (1, .int (nI k))]) (st' := [.int (nI a)]) (ws' := [(q, .inr (1, [.ref ca, .int n])), (ca, jaI g 224 f)]) ?_ rfl rfl (by rw [ha]) rfl
  refine j_istore_n (L' := [(0, .ref q), (1, .int (nI k)), (2, .int (nI a))]) C dX2_againstTurn_5 rfl (Nat.le_of_ble_eq_true rfl) rfl rfl ?_
  refine j_aload_n 0 C dX2_againstTurn_6 rfl rfl ?_
  refine j_iload_n 1 C dX2_againstTurn_7 rfl rfl ?_
  refine j_callRi (v := jb (jHas f k 4 a 0)) (j_runS (As := [.ref q, .int (nI k)]) (rest := []) [0, 1] C (c_X2_hasBreak l g q ca n f k a (by omega) ha (by omega)) gX2_againstTurn_X2_hasBreak rfl rfl rfl hd_X2_hasBreak ⟨Nat.le_of_ble_eq_true rfl, Nat.le_of_ble_eq_true rfl⟩ rfl rfl dX2_againstTurn_8 rfl (Nat.le_of_ble_eq_true rfl) ⟨Nat.le_of_ble_eq_true rfl, Nat.le_of_ble_eq_true rfl⟩) ?_
  refine j_if_eq (tgt := 16) C dX2_againstTurn_11 (by decide) (fun c_1 => ?_) (fun c_1 => ?_)
  · skip
    have c_1 : (jHas f k 4 a 0) = false := jb_0 c_1
    refine j_aload_n 0 C dX2_againstTurn_16 rfl rfl ?_
    refine j_iload_n 1 C dX2_againstTurn_17 rfl rfl ?_
    refine j_callRi (v := jb (jTwo f k a 0 (-1))) (j_runS (As := [.ref q, .int (nI k)]) (rest := []) [0, 1] C (c_X2_hasTwoCodes l g q ca n f k a (by omega) ha (by omega)) gX2_againstTurn_X2_hasTwoCodes rfl rfl rfl hd_X2_hasTwoCodes ⟨Nat.le_of_ble_eq_true rfl, Nat.le_of_ble_eq_true rfl⟩ rfl rfl dX2_againstTurn_18 rfl (Nat.le_of_ble_eq_true rfl) ⟨Nat.le_of_ble_eq_true rfl, Nat.le_of_ble_eq_true rfl⟩) ?_
    refine j_if_eq (tgt := 27) C dX2_againstTurn_21 (by decide) (fun c_2 => ?_) (fun c_2 => ?_)
    · skip
      have c_2 : (jTwo f k a 0 (-1)) = false := jb_0 c_2
      refine j_aload_n 0 C dX2_againstTurn_27 rfl rfl ?_
      refine j_iload_n 1 C dX2_againstTurn_28 rfl rfl ?_
      refine j_iconst (v := 0) C dX2_againstTurn_29 rfl ?_
      refine j_iload_n 2 C dX2_againstTurn_30 rfl rfl ?_
      refine j_iconst (v := 0) C dX2_againstTurn_31 rfl ?_
      refine j_callRi (v := jb (jHas f k 0 (a - 0) 0)) (j_runS (As := [.ref q, .int (nI k), .int 0, .int (nI a), .int 0]) (rest := []) [0, 1] C (c_X2_hasDeed l g q ca n f k 0 a 0 (by omega) (by omega) (by omega)) gX2_againstTurn_X2_hasDeed rfl rfl rfl hd_X2_hasDeed ⟨Nat.le_of_ble_eq_true rfl, Nat.le_of_ble_eq_true rfl⟩ rfl rfl dX2_againstTurn_32 rfl (Nat.le_of_ble_eq_true rfl) ⟨Nat.le_of_ble_eq_true rfl, Nat.le_of_ble_eq_true rfl⟩) ?_
      refine j_if_ne (tgt := 49) C dX2_againstTurn_35 (by decide) (fun c_3 => ?_) (fun c_3 => ?_)
      · skip
        have c_3 : (jHas f k 0 (a - 0) 0) = true := jb_1 c_3
        refine j_bipush (v := 10) C dX2_againstTurn_49 rfl ?_
        exact j_iretR (v := 10) C hr dX2_againstTurn_51 (by simp_all [jAT])
      · skip
        have c_3 : (jHas f k 0 (a - 0) 0) = false := jb_0 c_3
        refine j_aload_n 0 C dX2_againstTurn_38 rfl rfl ?_
        refine j_iload_n 1 C dX2_againstTurn_39 rfl rfl ?_
        refine j_iconst (v := 0) C dX2_againstTurn_40 rfl ?_
        refine j_iload_n 2 C dX2_againstTurn_41 rfl rfl ?_
        refine j_iconst (v := 1) C dX2_againstTurn_42 rfl ?_
        refine j_callRi (v := jb (jHas f k 1 (a - 0) 0)) (j_runS (As := [.ref q, .int (nI k), .int 0, .int (nI a), .int 1]) (rest := []) [0, 1] C (c_X2_hasDeed l g q ca n f k 0 a 1 (by omega) (by omega) (by omega)) gX2_againstTurn_X2_hasDeed rfl rfl rfl hd_X2_hasDeed ⟨Nat.le_of_ble_eq_true rfl, Nat.le_of_ble_eq_true rfl⟩ rfl rfl dX2_againstTurn_43 rfl (Nat.le_of_ble_eq_true rfl) ⟨Nat.le_of_ble_eq_true rfl, Nat.le_of_ble_eq_true rfl⟩) ?_
        refine j_if_eq (tgt := 52) C dX2_againstTurn_46 (by decide) (fun c_4 => ?_) (fun c_4 => ?_)
        · skip
          have c_4 : (jHas f k 1 (a - 0) 0) = false := jb_0 c_4
          refine j_aload_n 0 C dX2_againstTurn_52 rfl rfl ?_
          refine j_iload_n 1 C dX2_againstTurn_53 rfl rfl ?_
          refine j_iconst (v := 0) C dX2_againstTurn_54 rfl ?_
          refine j_iload_n 2 C dX2_againstTurn_55 rfl rfl ?_
          refine j_callRi (v := jLk f k (a - 0) 0 0) (j_runS (As := [.ref q, .int (nI k), .int 0, .int (nI a)]) (rest := []) [0, 1] C (c_X2_lookedWithBy l g q ca n f k 0 a (by omega) (by omega) (by omega)) gX2_againstTurn_X2_lookedWithBy rfl rfl rfl hd_X2_lookedWithBy ⟨Nat.le_of_ble_eq_true rfl, Nat.le_of_ble_eq_true rfl⟩ rfl rfl dX2_againstTurn_56 rfl (Nat.le_of_ble_eq_true rfl) ⟨Nat.le_of_ble_eq_true rfl, Nat.le_of_ble_eq_true rfl⟩) ?_
          refine j_aload_n 0 C dX2_againstTurn_59 rfl rfl ?_
          refine j_iload_n 1 C dX2_againstTurn_60 rfl rfl ?_
          refine j_iconst (v := 0) C dX2_againstTurn_61 rfl ?_
          refine j_iload_n 2 C dX2_againstTurn_62 rfl rfl ?_
          refine j_callRi (v := jWr f k (a - 0) 0 0) (j_runS (As := [.ref q, .int (nI k), .int 0, .int (nI a)]) (rest := [.int (jLk f k (a - 0) 0 0)]) [0, 1] C (c_X2_writtenBy l g q ca n f k 0 a (by omega) (by omega) (by omega)) gX2_againstTurn_X2_writtenBy rfl rfl rfl hd_X2_writtenBy ⟨Nat.le_of_ble_eq_true rfl, Nat.le_of_ble_eq_true rfl⟩ rfl rfl dX2_againstTurn_63 rfl (Nat.le_of_ble_eq_true rfl) ⟨Nat.le_of_ble_eq_true rfl, Nat.le_of_ble_eq_true rfl⟩) ?_
          refine j_iand (x := jLk f k (a - 0) 0 0) (y := jWr f k (a - 0) 0 0) (v := (jLk f k (a - 0) 0 0) &&& (jWr f k (a - 0) 0 0)) C dX2_againstTurn_66 rfl ?_
          refine j_istore_n (L' := [(0, .ref q), (1, .int (nI k)), (2, .int (nI a)), (3, .int ((jLk f k (a - 0) 0 0) &&& (jWr f k (a - 0) 0 0)))]) C dX2_againstTurn_67 rfl (Nat.le_of_ble_eq_true rfl) rfl rfl ?_
          refine j_iload_n 3 C dX2_againstTurn_68 rfl rfl ?_
          refine j_if_eq (tgt := 77) C dX2_againstTurn_69 (by decide) (fun c_5 => ?_) (fun c_5 => ?_)
          · skip
            refine j_iconst (v := 0) C dX2_againstTurn_77 rfl ?_
            exact j_iretR (v := 0) C hr dX2_againstTurn_78 (by simp_all [jAT])
          · skip
            refine j_bipush (v := 11) C dX2_againstTurn_72 rfl ?_
            refine j_goto (tgt := 78) C dX2_againstTurn_74 (by decide) ?_
            exact j_iretR (v := 11) C hr dX2_againstTurn_78 (by simp_all [jAT])
        · skip
          have c_4 : (jHas f k 1 (a - 0) 0) = true := jb_1 c_4
          refine j_bipush (v := 10) C dX2_againstTurn_49 rfl ?_
          exact j_iretR (v := 10) C hr dX2_againstTurn_51 (by simp_all [jAT])
    · skip
      have c_2 : (jTwo f k a 0 (-1)) = true := jb_1 c_2
      refine j_bipush (v := 9) C dX2_againstTurn_24 rfl ?_
      exact j_iretR (v := 9) C hr dX2_againstTurn_26 (by simp_all [jAT])
  · skip
    have c_1 : (jHas f k 4 a 0) = true := jb_1 c_1
    refine j_iconst (v := 2) C dX2_againstTurn_14 rfl ?_
    exact j_iretR (v := 2) C hr dX2_againstTurn_15 (by simp_all [jAT])
set_option maxHeartbeats 4000000 in
set_option maxRecDepth 100000 in
theorem c_X2_against_0 (l : Launch) (g : jG) (q ca : Nat) (n : Int32) (f : Nat → Int32) (k a b : Nat) (w : Int32) (hk : k < 7) (ha : f (k * 28 + 3) = nI a) (ha6 : a ≤ 6) (hb : f ((k + 1) * 28 + 3) = nI b) (hb6 : b ≤ 6) : jRi l yX2_against wsX2_against ({ frames := 5, cells := 0, slots := 0, locals := 117 }) g [.ref q, .int 0, .int (nI k), .int w] [(q, .inr (1, [.ref ca, .int n])), (ca, jaI g 224 f)] (jAJ f k a b) := by
  refine j_enterR (cc := cX2_against) (maxL := 4) (ret := (some .int)) (own := RX2) (L := [(0, .ref q), (1, .int 0), (2, .int (nI k)), (3, .int w)]) (by decide) rfl rfl (Nat.le_of_ble_eq_true rfl) rfl (fun p e s m args below meth c C hr => ?_)
  refine j_iload_n 1 C dX2_against_0 rfl rfl ?_
  refine j_tabIn (tgt := 36) C dX2_against_1 (by decide) (by decide) rfl (by decide) ?_
  refine j_aload_n 0 C dX2_against_36 rfl rfl ?_
  refine j_iload_n 2 C dX2_against_37 rfl rfl ?_
  refine j_callRi (v := jAJ f k a b) (j_runS (As := [.ref q, .int (nI k)]) (rest := []) [0, 1] C (c_X2_againstJoin l g q ca n f k a b (by omega) ha (by omega) hb (by omega)) gX2_against_X2_againstJoin rfl rfl rfl hd_X2_againstJoin ⟨Nat.le_of_ble_eq_true rfl, Nat.le_of_ble_eq_true rfl⟩ rfl rfl dX2_against_38 rfl (Nat.le_of_ble_eq_true rfl) ⟨Nat.le_of_ble_eq_true rfl, Nat.le_of_ble_eq_true rfl⟩) ?_
  exact j_iretR (v := jAJ f k a b) C hr dX2_against_41 rfl
set_option maxHeartbeats 4000000 in
set_option maxRecDepth 100000 in
theorem c_X2_against_1 (l : Launch) (g : jG) (q ca n : Nat) (f : Nat → Int32) (k i a : Nat) (hk : k < 8) (ha : f (k * 28 + 3) = nI a) (ha6 : a ≤ 6) (hi : i ≤ 6) (hn : n ≤ 8) : jRi l yX2_against wsX2_against ({ frames := 5, cells := 0, slots := 0, locals := 117 }) g [.ref q, .int 1, .int (nI k), .int (nI i)] [(q, .inr (1, [.ref ca, .int (nI n)])), (ca, jaI g 224 f)] (jAD f n k i a) := by
  refine j_enterR (cc := cX2_against) (maxL := 4) (ret := (some .int)) (own := RX2) (L := [(0, .ref q), (1, .int 1), (2, .int (nI k)), (3, .int (nI i))]) (by decide) rfl rfl (Nat.le_of_ble_eq_true rfl) rfl (fun p e s m args below meth c C hr => ?_)
  refine j_iload_n 1 C dX2_against_0 rfl rfl ?_
  refine j_tabIn (tgt := 42) C dX2_against_1 (by decide) (by decide) rfl (by decide) ?_
  refine j_aload_n 0 C dX2_against_42 rfl rfl ?_
  refine j_iload_n 2 C dX2_against_43 rfl rfl ?_
  refine j_iload_n 3 C dX2_against_44 rfl rfl ?_
  refine j_callRi (v := jAD f n k i a) (j_runS (As := [.ref q, .int (nI k), .int (nI i)]) (rest := []) [0, 1] C (c_X2_againstDivide l g q ca n f k i a (by omega) ha (by omega) (by omega) (by omega)) gX2_against_X2_againstDivide rfl rfl rfl hd_X2_againstDivide ⟨Nat.le_of_ble_eq_true rfl, Nat.le_of_ble_eq_true rfl⟩ rfl rfl dX2_against_45 rfl (Nat.le_of_ble_eq_true rfl) ⟨Nat.le_of_ble_eq_true rfl, Nat.le_of_ble_eq_true rfl⟩) ?_
  exact j_iretR (v := jAD f n k i a) C hr dX2_against_48 rfl
set_option maxHeartbeats 4000000 in
set_option maxRecDepth 100000 in
theorem c_X2_against_2 (l : Launch) (g : jG) (q ca n : Nat) (f : Nat → Int32) (k w a v u : Nat) (hk : k < 8) (ha : f (k * 28 + 3) = nI a) (ha6 : a ≤ 6) (hn : n ≤ 8) (hw1 : 1 ≤ w) (hw2 : w ≤ 10) (hv : f (k * 28 + 0) = nI v) (hv5 : v ≤ 5) (hu : f (k * 28 + 1) = nI u) (hu5 : u ≤ 5) : jRi l yX2_against wsX2_against ({ frames := 5, cells := 0, slots := 0, locals := 109 }) g [.ref q, .int 2, .int (nI k), .int (nI w)] [(q, .inr (1, [.ref ca, .int (nI n)])), (ca, jaI g 224 f)] (jAP f n k w a v u) := by
  refine j_enterR (cc := cX2_against) (maxL := 4) (ret := (some .int)) (own := RX2) (L := [(0, .ref q), (1, .int 2), (2, .int (nI k)), (3, .int (nI w))]) (by decide) rfl rfl (Nat.le_of_ble_eq_true rfl) rfl (fun p e s m args below meth c C hr => ?_)
  refine j_iload_n 1 C dX2_against_0 rfl rfl ?_
  refine j_tabIn (tgt := 49) C dX2_against_1 (by decide) (by decide) rfl (by decide) ?_
  refine j_aload_n 0 C dX2_against_49 rfl rfl ?_
  refine j_iload_n 2 C dX2_against_50 rfl rfl ?_
  refine j_iload_n 3 C dX2_against_51 rfl rfl ?_
  refine j_callRi (v := jAP f n k w a v u) (j_runS (As := [.ref q, .int (nI k), .int (nI w)]) (rest := []) [0, 1] C (c_X2_againstPeel l g q ca n f k w a v u (by omega) ha (by omega) (by omega) (by omega) (by omega) hv (by omega) hu (by omega)) gX2_against_X2_againstPeel rfl rfl rfl hd_X2_againstPeel ⟨Nat.le_of_ble_eq_true rfl, Nat.le_of_ble_eq_true rfl⟩ rfl rfl dX2_against_52 rfl (Nat.le_of_ble_eq_true rfl) ⟨Nat.le_of_ble_eq_true rfl, Nat.le_of_ble_eq_true rfl⟩) ?_
  exact j_iretR (v := jAP f n k w a v u) C hr dX2_against_55 rfl
set_option maxHeartbeats 4000000 in
set_option maxRecDepth 100000 in
theorem c_X2_against_3 (l : Launch) (g : jG) (q ca : Nat) (n : Int32) (f : Nat → Int32) (k a : Nat) (w : Int32) (hk : k < 8) (ha : f (k * 28 + 3) = nI a) (ha6 : a ≤ 6) : jRi l yX2_against wsX2_against ({ frames := 5, cells := 0, slots := 0, locals := 112 }) g [.ref q, .int 3, .int (nI k), .int w] [(q, .inr (1, [.ref ca, .int n])), (ca, jaI g 224 f)] (jAT f k a) := by
  refine j_enterR (cc := cX2_against) (maxL := 4) (ret := (some .int)) (own := RX2) (L := [(0, .ref q), (1, .int 3), (2, .int (nI k)), (3, .int w)]) (by decide) rfl rfl (Nat.le_of_ble_eq_true rfl) rfl (fun p e s m args below meth c C hr => ?_)
  refine j_iload_n 1 C dX2_against_0 rfl rfl ?_
  refine j_tabIn (tgt := 56) C dX2_against_1 (by decide) (by decide) rfl (by decide) ?_
  refine j_aload_n 0 C dX2_against_56 rfl rfl ?_
  refine j_iload_n 2 C dX2_against_57 rfl rfl ?_
  refine j_callRi (v := jAT f k a) (j_runS (As := [.ref q, .int (nI k)]) (rest := []) [0, 1] C (c_X2_againstTurn l g q ca n f k a (by omega) ha (by omega)) gX2_against_X2_againstTurn rfl rfl rfl hd_X2_againstTurn ⟨Nat.le_of_ble_eq_true rfl, Nat.le_of_ble_eq_true rfl⟩ rfl rfl dX2_against_58 rfl (Nat.le_of_ble_eq_true rfl) ⟨Nat.le_of_ble_eq_true rfl, Nat.le_of_ble_eq_true rfl⟩) ?_
  exact j_iretR (v := jAT f k a) C hr dX2_against_61 rfl
set_option maxHeartbeats 4000000 in
set_option maxRecDepth 100000 in
theorem c_X2_against_4 (l : Launch) (g : jG) (q ca : Nat) (n : Int32) (f : Nat → Int32) (k a b : Nat) (w : Int32) (hk : k < 7) (ha : f (k * 28 + 3) = nI a) (ha6 : a ≤ 6) (hb : f ((k + 1) * 28 + 3) = nI b) (hb6 : b ≤ 6) : jRi l yX2_against wsX2_against ({ frames := 4, cells := 0, slots := 0, locals := 94 }) g [.ref q, .int 4, .int (nI k), .int w] [(q, .inr (1, [.ref ca, .int n])), (ca, jaI g 224 f)] (jParts f k a (k + 1) 0 b) := by
  refine j_enterR (cc := cX2_against) (maxL := 4) (ret := (some .int)) (own := RX2) (L := [(0, .ref q), (1, .int 4), (2, .int (nI k)), (3, .int w)]) (by decide) rfl rfl (Nat.le_of_ble_eq_true rfl) rfl (fun p e s m args below meth c C hr => ?_)
  refine j_iload_n 1 C dX2_against_0 rfl rfl ?_
  refine j_tabIn (tgt := 62) C dX2_against_1 (by decide) (by decide) rfl (by decide) ?_
  refine j_aload_n 0 C dX2_against_62 rfl rfl ?_
  refine j_iload_n 2 C dX2_against_63 rfl rfl ?_
  refine j_aload_n 0 C dX2_against_64 rfl rfl ?_
  refine j_iload_n 2 C dX2_against_65 rfl rfl ?_
  refine j_callRi (v := f (k * 28 + 3)) (j_runV (ci := 0) (As := [.int (nI k)]) (rest := [.int (nI k), .ref q]) [0, 1] C (c_X1_countSteps l g q ca n f k (by omega)) gX2_against_X1_countSteps rfl rfl rfl hd_X1_countSteps ⟨Nat.le_of_ble_eq_true rfl, Nat.le_of_ble_eq_true rfl⟩ rfl rfl rfl rfl dX2_against_66 rfl (Nat.le_of_ble_eq_true rfl) ⟨Nat.le_of_ble_eq_true rfl, Nat.le_of_ble_eq_true rfl⟩) ?_
  refine j_eq (pc' := 69) (L' := [(0, .ref q), (1, .int 4), (2, .int (nI k)), (3, .int w)]) (st' := [.int (nI a), .int (nI k), .ref q]) (ws' := [(q, .inr (1, [.ref ca, .int n])), (ca, jaI g 224 f)]) ?_ rfl rfl (by rw [ha]) rfl
  refine j_iload_n 2 C dX2_against_69 rfl rfl ?_
  refine j_iconst (v := 1) C dX2_against_70 rfl ?_
  refine j_iadd (x := nI k) (y := 1) (v := nI (k + 1)) C dX2_against_71 (nI_add k 1) ?_
  refine j_iconst (v := 0) C dX2_against_72 rfl ?_
  refine j_callRi (v := jParts f k a (k + 1) 0 b) (j_runS (As := [.ref q, .int (nI k), .int (nI a), .int (nI (k + 1)), .int 0]) (rest := []) [0, 1] C (c_X2_againstParts l g q ca n f k a (k + 1) 0 b (by omega) (by omega) (by omega) (by omega) hb (by omega)) gX2_against_X2_againstParts rfl rfl rfl hd_X2_againstParts ⟨Nat.le_of_ble_eq_true rfl, Nat.le_of_ble_eq_true rfl⟩ rfl rfl dX2_against_73 rfl (Nat.le_of_ble_eq_true rfl) ⟨Nat.le_of_ble_eq_true rfl, Nat.le_of_ble_eq_true rfl⟩) ?_
  exact j_iretR (v := jParts f k a (k + 1) 0 b) C hr dX2_against_76 rfl
set_option maxHeartbeats 4000000 in
set_option maxRecDepth 100000 in
theorem c_X2_against_5 (l : Launch) (g : jG) (q ca : Nat) (n : Int32) (f : Nat → Int32) (k w : Int32)  : jRi l yX2_against wsX2_against ({ frames := 0, cells := 0, slots := 0, locals := 0 }) g [.ref q, .int 5, .int k, .int w] [(q, .inr (1, [.ref ca, .int n])), (ca, jaI g 224 f)] 0 := by
  refine j_enterR (cc := cX2_against) (maxL := 4) (ret := (some .int)) (own := RX2) (L := [(0, .ref q), (1, .int 5), (2, .int k), (3, .int w)]) (by decide) rfl rfl (Nat.le_of_ble_eq_true rfl) rfl (fun p e s m args below meth c C hr => ?_)
  refine j_iload_n 1 C dX2_against_0 rfl rfl ?_
  refine j_tabOut (tgt := 77) C dX2_against_1 (by decide) (by decide) ?_
  refine j_iconst (v := 0) C dX2_against_77 rfl ?_
  exact j_iretR (v := 0) C hr dX2_against_78 rfl
