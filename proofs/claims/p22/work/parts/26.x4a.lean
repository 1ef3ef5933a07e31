set_option maxRecDepth 100000 in
theorem hin_X4_programAt_X4 : ∀ w ∈ u_ws RX4 TX4 8, w ∈ wsX4_programAt := fun w h => List.mem_cons_of_mem _ (by exact List.mem_append_left _ (List.mem_append_right _ h))
set_option maxRecDepth 100000 in
theorem hin_X4_refuseEleventhProgram_X4 : ∀ w ∈ u_ws RX4 TX4 8, w ∈ wsX4_refuseEleventhProgram := fun w h => List.mem_cons_of_mem _ (by exact List.mem_append_left _ (List.mem_append_right _ h))
theorem hd_X4_isBetween : yX4_isBetween.cls = RX4 ∧ yX4_isBetween.cls ≠ "java/lang/invoke/MethodHandle" ∧ yX4_isBetween.cls ≠ "java/lang/invoke/VarHandle" ∧ (parseMethodDescriptor yX4_isBetween.desc).map (fun d => d.parameters.length) = some 3 := by decide +kernel
set_option maxRecDepth 100000 in
theorem hin_X4_programs_X4 : ∀ w ∈ u_ws RX4 TX4 8, w ∈ wsX4_programs := fun w h => List.mem_cons_of_mem _ (by exact List.mem_append_right _ h)
theorem hd_X4_programAt : yX4_programAt.cls = RX4 ∧ yX4_programAt.cls ≠ "java/lang/invoke/MethodHandle" ∧ yX4_programAt.cls ≠ "java/lang/invoke/VarHandle" ∧ (parseMethodDescriptor yX4_programAt.desc).map (fun d => d.parameters.length) = some 1 := by decide +kernel
theorem hd_X1_appendLoop : yX1_appendLoop.cls = RX1 ∧ yX1_appendLoop.cls ≠ "java/lang/invoke/MethodHandle" ∧ yX1_appendLoop.cls ≠ "java/lang/invoke/VarHandle" ∧ (parseMethodDescriptor yX1_appendLoop.desc).map (fun d => d.parameters.length) = some 3 := by decide +kernel
theorem hd_X4_refuseOtherLoops : yX4_refuseOtherLoops.cls = RX4 ∧ yX4_refuseOtherLoops.cls ≠ "java/lang/invoke/MethodHandle" ∧ yX4_refuseOtherLoops.cls ≠ "java/lang/invoke/VarHandle" ∧ (parseMethodDescriptor yX4_refuseOtherLoops.desc).map (fun d => d.parameters.length) = some 2 := by decide +kernel
theorem hd_X4_isLook : yX4_isLook.cls = RX4 ∧ yX4_isLook.cls ≠ "java/lang/invoke/MethodHandle" ∧ yX4_isLook.cls ≠ "java/lang/invoke/VarHandle" ∧ (parseMethodDescriptor yX4_isLook.desc).map (fun d => d.parameters.length) = some 2 := by decide +kernel
theorem hd_X4_isDeed : yX4_isDeed.cls = RX4 ∧ yX4_isDeed.cls ≠ "java/lang/invoke/MethodHandle" ∧ yX4_isDeed.cls ≠ "java/lang/invoke/VarHandle" ∧ (parseMethodDescriptor yX4_isDeed.desc).map (fun d => d.parameters.length) = some 2 := by decide +kernel
theorem hd_X1_appendStep : yX1_appendStep.cls = RX1 ∧ yX1_appendStep.cls ≠ "java/lang/invoke/MethodHandle" ∧ yX1_appendStep.cls ≠ "java/lang/invoke/VarHandle" ∧ (parseMethodDescriptor yX1_appendStep.desc).map (fun d => d.parameters.length) = some 5 := by decide +kernel
set_option maxHeartbeats 4000000 in
set_option maxRecDepth 100000 in
theorem c_X4_isBetween (l : Launch) (g : jG) (x lo hi : Int32)  : jRi l yX4_isBetween wsX4_isBetween ({ frames := 0, cells := 0, slots := 0, locals := 0 }) g [.int x, .int lo, .int hi] [] (jb (jBt x lo hi)) := by
  refine j_enterR (cc := cX4_isBetween) (maxL := 3) (ret := (some .boolean)) (own := RX4) (L := [(0, .int x), (1, .int lo), (2, .int hi)]) (by decide) rfl rfl (Nat.le_of_ble_eq_true rfl) rfl (fun p e s m args below meth c C hr => ?_)
  refine j_iload_n 0 C dX4_isBetween_0 rfl rfl ?_
  refine j_iload_n 1 C dX4_isBetween_1 rfl rfl ?_
  refine j_icmp_lt (tgt := 14) C dX4_isBetween_2 (by decide) (fun c_1 => ?_) (fun c_1 => ?_)
  · skip
    refine j_iconst (v := 0) C dX4_isBetween_14 rfl ?_
    exact j_zretR (v := 0) C hr dX4_isBetween_15 rfl (by first | rw [jBt_f1 (by assumption)]; rfl | rw [jBt_f2 (by assumption)]; rfl | (rw [jBt_ff (by assumption) (by assumption)]; rfl))
  · skip
    refine j_iload_n 0 C dX4_isBetween_5 rfl rfl ?_
    refine j_iload_n 2 C dX4_isBetween_6 rfl rfl ?_
    refine j_icmp_gt (tgt := 14) C dX4_isBetween_7 (by decide) (fun c_2 => ?_) (fun c_2 => ?_)
    · skip
      refine j_iconst (v := 0) C dX4_isBetween_14 rfl ?_
      exact j_zretR (v := 0) C hr dX4_isBetween_15 rfl (by first | rw [jBt_f1 (by assumption)]; rfl | rw [jBt_f2 (by assumption)]; rfl | (rw [jBt_ff (by assumption) (by assumption)]; rfl))
    · skip
      refine j_iconst (v := 1) C dX4_isBetween_10 rfl ?_
      refine j_goto (tgt := 15) C dX4_isBetween_11 (by decide) ?_
      exact j_zretR (v := 1) C hr dX4_isBetween_15 rfl (by first | rw [jBt_f1 (by assumption)]; rfl | rw [jBt_f2 (by assumption)]; rfl | (rw [jBt_ff (by assumption) (by assumption)]; rfl))
set_option maxHeartbeats 4000000 in
set_option maxRecDepth 100000 in
theorem c_X4_programAt (l : Launch) (g : jG) (x0 mp N rp : Nat) (rl : Int32) (lt p1 p2 cz : Nat) (T : Nat → Option Nat) (k q : Nat) (hk : k < N) (hN : N ≤ 10) (hT : T k = some q) : jRr l yX4_programAt wsX4_programAt ({ frames := 0, cells := 0, slots := 0, locals := 0 }) g [.ref x0, .int (nI k)] [(x0, .inr (3, [.ref mp, .int (nI N), .ref rp, .int rl, .ref lt, .ref p1, .ref p2, .ref cz])), (mp, jaP g 10 T)] q := by
  refine j_enterR (cc := cX4_programAt) (maxL := 3) (ret := (some (.object "LoopJoiner$Program"))) (own := RX4) (L := [(0, .ref x0), (1, .int (nI k))]) (by decide) rfl rfl (Nat.le_of_ble_eq_true rfl) rfl (fun p e s m args below meth c C hr => ?_)
  refine j_iload_n 1 C dX4_programAt_0 rfl rfl ?_
  refine j_if_lt (tgt := 22) C dX4_programAt_1 (by decide) (fun c_1 => ?_) (fun c_1 => ?_)
  · skip
    have c_1 : k < 0 := (nI_ltI (a := k) (b := 0) (by omega) (by omega)).mp c_1
    exact absurd c_1 (by omega)
  · skip
    have c_1 : ¬ k < 0 := fun z => c_1 ((nI_ltI (a := k) (b := 0) (by omega) (by omega)).mpr z)
    refine j_iload_n 1 C dX4_programAt_4 rfl rfl ?_
    refine j_aload_n 0 C dX4_programAt_5 rfl rfl ?_
    refine j_get (Cn := RX4) (T := TX4) (N := 8) 0 0 C dX4_programAt_6 hin_X4_programAt_X4 rfl rfl (by decide) (List.mem_of_getElem? (i := 3) rfl) rfl ?_
    refine j_alenP (v := 10) 1 C dX4_programAt_9 rfl rfl ?_
    refine j_icmp_ge (tgt := 22) C dX4_programAt_10 (by decide) (fun c_2 => ?_) (fun c_2 => ?_)
    · skip
      have c_2 : 10 ≤ k := (nI_leI (a := 10) (b := k) (by omega) (by omega)).mp c_2
      exact absurd c_2 (by omega)
    · skip
      have c_2 : ¬ 10 ≤ k := fun z => c_2 ((nI_leI (a := 10) (b := k) (by omega) (by omega)).mpr z)
      refine j_aload_n 0 C dX4_programAt_13 rfl rfl ?_
      refine j_get (Cn := RX4) (T := TX4) (N := 8) 0 0 C dX4_programAt_14 hin_X4_programAt_X4 rfl rfl (by decide) (List.mem_of_getElem? (i := 3) rfl) rfl ?_
      refine j_iload_n 1 C dX4_programAt_17 rfl rfl ?_
      refine j_aldPN (x := k) 1 C dX4_programAt_18 rfl rfl (by omega) (by decide) ?_
      refine j_eq (pc' := 19) (L' := [(0, .ref x0), (1, .int (nI k))]) (st' := [.ref q]) (ws' := [(x0, .inr (3, [.ref mp, .int (nI N), .ref rp, .int rl, .ref lt, .ref p1, .ref p2, .ref cz])), (mp, jaP g 10 T)]) ?_ rfl rfl (by rw [hT]; rfl) rfl
      refine j_goto (tgt := 23) C dX4_programAt_19 (by decide) ?_
      refine j_astore_n (L' := [(0, .ref x0), (1, .int (nI k)), (2, .ref q)]) C dX4_programAt_23 rfl (Nat.le_of_ble_eq_true rfl) rfl rfl ?_
      refine j_aload_n 2 C dX4_programAt_24 rfl rfl ?_
      refine j_ifnonnull (tgt := 38) C dX4_programAt_25 (by decide) ?_
      refine j_aload_n 2 C dX4_programAt_38 rfl rfl ?_
      exact j_aretR (v := q) C hr (Or.inl ⟨_, rfl⟩) dX4_programAt_39 rfl
set_option maxHeartbeats 4000000 in
set_option maxRecDepth 100000 in
theorem c_X4_refuseEleventhProgram (l : Launch) (g : jG) (x0 mp N rp : Nat) (rl : Int32) (lt p1 p2 cz : Nat) (hN : N < 10) : jWv l yX4_refuseEleventhProgram wsX4_refuseEleventhProgram ({ frames := 0, cells := 0, slots := 0, locals := 0 }) g [.ref x0] [(x0, .inr (3, [.ref mp, .int (nI N), .ref rp, .int rl, .ref lt, .ref p1, .ref p2, .ref cz]))] [(x0, .inr (3, [.ref mp, .int (nI N), .ref rp, .int rl, .ref lt, .ref p1, .ref p2, .ref cz]))] := by
  refine j_enterW (Qc := fun sz_ => va_Qv (fun (_ : Unit) => True) (fun _ t => va_P g.1 vwCl [(x0, .inr (3, [.ref mp, .int (nI N), .ref rp, .int rl, .ref lt, .ref p1, .ref p2, .ref cz]))] t.heap) (va_A [(x0, .inr (3, [.ref mp, .int (nI N), .ref rp, .int rl, .ref lt, .ref p1, .ref p2, .ref cz]))] sz_)) (cc := cX4_refuseEleventhProgram) (maxL := 1) (ret := none) (own := RX4) (L := [(0, .ref x0)]) (by decide) rfl rfl (Nat.le_of_ble_eq_true rfl) rfl (fun p e s m args below meth c C hr => ?_)
  refine j_aload_n 0 C dX4_refuseEleventhProgram_0 rfl rfl ?_
  refine j_get (Cn := RX4) (T := TX4) (N := 8) 0 1 C dX4_refuseEleventhProgram_1 hin_X4_refuseEleventhProgram_X4 rfl rfl (by decide) (List.mem_of_getElem? (i := 3) rfl) rfl ?_
  refine j_bipush (v := 10) C dX4_refuseEleventhProgram_4 rfl ?_
  refine j_icmp_lt (tgt := 19) C dX4_refuseEleventhProgram_6 (by decide) (fun c_1 => ?_) (fun c_1 => ?_)
  · skip
    have c_1 : N < 10 := (nI_ltI (a := N) (b := 10) (by omega) (by omega)).mp c_1
    exact j_vretW C hr dX4_refuseEleventhProgram_19 () trivial rfl
  · skip
    have c_1 : ¬ N < 10 := fun z => c_1 ((nI_ltI (a := N) (b := 10) (by omega) (by omega)).mpr z)
    exact absurd c_1 (by omega)
set_option maxHeartbeats 4000000 in
set_option maxRecDepth 100000 in
theorem c_X4_refuseOtherLoops (l : Launch) (g : jG) (q ca n : Nat) (f : Nat → Int32) (j : Nat) (hj : j < n) (hn : n ≤ 8) : jWv l yX4_refuseOtherLoops wsX4_refuseOtherLoops ({ frames := 1, cells := 0, slots := 0, locals := 22 }) g [.ref q, .int (nI j)] [(q, .inr (1, [.ref ca, .int (nI n)])), (ca, jaI g 224 f)] [(q, .inr (1, [.ref ca, .int (nI n)])), (ca, jaI g 224 f)] := by
  refine j_enterW (Qc := fun sz_ => va_Qv (fun (_ : Unit) => True) (fun _ t => va_P g.1 vwCl [(q, .inr (1, [.ref ca, .int (nI n)])), (ca, jaI g 224 f)] t.heap) (va_A [(q, .inr (1, [.ref ca, .int (nI n)])), (ca, jaI g 224 f)] sz_)) (cc := cX4_refuseOtherLoops) (maxL := 2) (ret := none) (own := RX4) (L := [(0, .ref q), (1, .int (nI j))]) (by decide) rfl rfl (Nat.le_of_ble_eq_true rfl) rfl (fun p e s m args below meth c C hr => ?_)
  refine j_iload_n 1 C dX4_refuseOtherLoops_0 rfl rfl ?_
  refine j_iconst (v := 0) C dX4_refuseOtherLoops_1 rfl ?_
  refine j_aload_n 0 C dX4_refuseOtherLoops_2 rfl rfl ?_
  refine j_callRi (v := nI n) (j_runV (ci := 0) (As := []) (rest := [.int 0, .int (nI j)]) [0, 1] C (c_X1_countLoops l g q ca (nI n) f) gX4_refuseOtherLoops_X1_countLoops rfl rfl rfl hd_X1_countLoops ⟨Nat.le_of_ble_eq_true rfl, Nat.le_of_ble_eq_true rfl⟩ rfl rfl rfl rfl dX4_refuseOtherLoops_3 rfl (Nat.le_of_ble_eq_true rfl) ⟨Nat.le_of_ble_eq_true rfl, Nat.le_of_ble_eq_true rfl⟩) ?_
  refine j_iconst (v := 1) C dX4_refuseOtherLoops_6 rfl ?_
  refine j_isub (x := nI n) (y := 1) (v := nI n - 1) C dX4_refuseOtherLoops_7 rfl ?_
  refine j_callRi (v := jb (jBt (nI j) 0 (nI n - 1))) (j_runS (As := [.int (nI j), .int 0, .int (nI n - 1)]) (rest := []) [] C (c_X4_isBetween l g (nI j) 0 (nI n - 1)) gX4_refuseOtherLoops_X4_isBetween rfl rfl rfl hd_X4_isBetween ⟨Nat.le_of_ble_eq_true rfl, Nat.le_of_ble_eq_true rfl⟩ rfl rfl dX4_refuseOtherLoops_8 rfl (Nat.le_of_ble_eq_true rfl) ⟨Nat.le_of_ble_eq_true rfl, Nat.le_of_ble_eq_true rfl⟩) ?_
  refine j_eq (pc' := 11) (L' := [(0, .ref q), (1, .int (nI j))]) (st' := [.int (jb true)]) (ws' := [(q, .inr (1, [.ref ca, .int (nI n)])), (ca, jaI g 224 f)]) ?_ rfl rfl (by rw [jBt_n hj (by omega)]) rfl
  refine j_if_ne (tgt := 24) C dX4_refuseOtherLoops_11 (by decide) (fun c_1 => ?_) (fun c_1 => ?_)
  · skip
    have c_1 : true = true := jb_1 c_1
    exact j_vretW C hr dX4_refuseOtherLoops_24 () trivial rfl
  · skip
    have c_1 : true = false := jb_0 c_1
    (first | exact absurd c_1 (by decide) | exact absurd c_1 (by omega) | simp_all)
set_option maxHeartbeats 4000000 in
set_option maxRecDepth 100000 in
theorem c_X4_isLook (l : Launch) (g : jG) (v0 v1 : Int32)  : jRi l yX4_isLook wsX4_isLook ({ frames := 1, cells := 0, slots := 0, locals := 22 }) g [.int v0, .int v1] [] (jb (jBt v0 0 4 && (jBt v1 (-100) 100 || jBt v1 1000 1003))) := by
  refine j_enterR (cc := cX4_isLook) (maxL := 2) (ret := (some .boolean)) (own := RX4) (L := [(0, .int v0), (1, .int v1)]) (by decide) rfl rfl (Nat.le_of_ble_eq_true rfl) rfl (fun p e s m args below meth c C hr => ?_)
  refine j_iload_n 0 C dX4_isLook_0 rfl rfl ?_
  refine j_iconst (v := 0) C dX4_isLook_1 rfl ?_
  refine j_iconst (v := 4) C dX4_isLook_2 rfl ?_
  refine j_callRi (v := jb (jBt v0 0 4)) (j_runS (As := [.int v0, .int 0, .int 4]) (rest := []) [] C (c_X4_isBetween l g v0 0 4) gX4_isLook_X4_isBetween rfl rfl rfl hd_X4_isBetween ⟨Nat.le_of_ble_eq_true rfl, Nat.le_of_ble_eq_true rfl⟩ rfl rfl dX4_isLook_3 rfl (Nat.le_of_ble_eq_true rfl) ⟨Nat.le_of_ble_eq_true rfl, Nat.le_of_ble_eq_true rfl⟩) ?_
  refine j_if_eq (tgt := 31) C dX4_isLook_6 (by decide) (fun c_1 => ?_) (fun c_1 => ?_)
  · skip
    have c_1 : (jBt v0 0 4) = false := jb_0 c_1
    refine j_iconst (v := 0) C dX4_isLook_31 rfl ?_
    exact j_zretR (v := 0) C hr dX4_isLook_32 rfl (by simp_all [jb])
  · skip
    have c_1 : (jBt v0 0 4) = true := jb_1 c_1
    refine j_iload_n 1 C dX4_isLook_9 rfl rfl ?_
    refine j_bipush (v := -100) C dX4_isLook_10 rfl ?_
    refine j_bipush (v := 100) C dX4_isLook_12 rfl ?_
    refine j_callRi (v := jb (jBt v1 (-100) 100)) (j_runS (As := [.int v1, .int (-100), .int 100]) (rest := []) [] C (c_X4_isBetween l g v1 (-100) 100) gX4_isLook_X4_isBetween rfl rfl rfl hd_X4_isBetween ⟨Nat.le_of_ble_eq_true rfl, Nat.le_of_ble_eq_true rfl⟩ rfl rfl dX4_isLook_14 rfl (Nat.le_of_ble_eq_true rfl) ⟨Nat.le_of_ble_eq_true rfl, Nat.le_of_ble_eq_true rfl⟩) ?_
    refine j_if_ne (tgt := 27) C dX4_isLook_17 (by decide) (fun c_2 => ?_) (fun c_2 => ?_)
    · skip
      have c_2 : (jBt v1 (-100) 100) = true := jb_1 c_2
      refine j_iconst (v := 1) C dX4_isLook_27 rfl ?_
      refine j_goto (tgt := 32) C dX4_isLook_28 (by decide) ?_
      exact j_zretR (v := 1) C hr dX4_isLook_32 rfl (by simp_all [jb])
    · skip
      have c_2 : (jBt v1 (-100) 100) = false := jb_0 c_2
      refine j_iload_n 1 C dX4_isLook_20 rfl rfl ?_
      refine j_callRi (v := jb (jIsV v1)) (j_runS (As := [.int v1]) (rest := []) [] C (c_X4_isVariable l g v1) gX4_isLook_X4_isVariable rfl rfl rfl hd_X4_isVariable ⟨Nat.le_of_ble_eq_true rfl, Nat.le_of_ble_eq_true rfl⟩ rfl rfl dX4_isLook_21 rfl (Nat.le_of_ble_eq_true rfl) ⟨Nat.le_of_ble_eq_true rfl, Nat.le_of_ble_eq_true rfl⟩) ?_
      refine j_eq (pc' := 24) (L' := [(0, .int v0), (1, .int v1)]) (st' := [.int (jb (jBt v1 1000 1003))]) (ws' := []) ?_ rfl rfl (by rw [jIsV_b]) rfl
      refine j_if_eq (tgt := 31) C dX4_isLook_24 (by decide) (fun c_3 => ?_) (fun c_3 => ?_)
      · skip
        have c_3 : (jBt v1 1000 1003) = false := jb_0 c_3
        refine j_iconst (v := 0) C dX4_isLook_31 rfl ?_
        exact j_zretR (v := 0) C hr dX4_isLook_32 rfl (by simp_all [jb])
      · skip
        have c_3 : (jBt v1 1000 1003) = true := jb_1 c_3
        refine j_iconst (v := 1) C dX4_isLook_27 rfl ?_
        refine j_goto (tgt := 32) C dX4_isLook_28 (by decide) ?_
        exact j_zretR (v := 1) C hr dX4_isLook_32 rfl (by simp_all [jb])
set_option maxHeartbeats 4000000 in
set_option maxRecDepth 100000 in
theorem c_X4_isDeed (l : Launch) (g : jG) (v2 v3 : Int32)  : jRi l yX4_isDeed wsX4_isDeed ({ frames := 1, cells := 0, slots := 0, locals := 22 }) g [.int v2, .int v3] [] (jb (jBt v2 0 5 && jBt v3 0 (if v2 = 4 then 0 else if v2 = 5 then 100 else 3))) := by
  refine j_enterR (cc := cX4_isDeed) (maxL := 2) (ret := (some .boolean)) (own := RX4) (L := [(0, .int v2), (1, .int v3)]) (by decide) rfl rfl (Nat.le_of_ble_eq_true rfl) rfl (fun p e s m args below meth c C hr => ?_)
  refine j_iload_n 0 C dX4_isDeed_0 rfl rfl ?_
  refine j_iconst (v := 4) C dX4_isDeed_1 rfl ?_
  refine j_icmp_ne (tgt := 15) C dX4_isDeed_2 (by decide) (fun c_1 => ?_) (fun c_1 => ?_)
  · skip
    refine j_iload_n 0 C dX4_isDeed_15 rfl rfl ?_
    refine j_iconst (v := 5) C dX4_isDeed_16 rfl ?_
    refine j_icmp_ne (tgt := 28) C dX4_isDeed_17 (by decide) (fun c_2 => ?_) (fun c_2 => ?_)
    · skip
      refine j_iload_n 0 C dX4_isDeed_28 rfl rfl ?_
      refine j_iconst (v := 0) C dX4_isDeed_29 rfl ?_
      refine j_iconst (v := 3) C dX4_isDeed_30 rfl ?_
      refine j_callRi (v := jb (jBt v2 0 3)) (j_runS (As := [.int v2, .int 0, .int 3]) (rest := []) [] C (c_X4_isBetween l g v2 0 3) gX4_isDeed_X4_isBetween rfl rfl rfl hd_X4_isBetween ⟨Nat.le_of_ble_eq_true rfl, Nat.le_of_ble_eq_true rfl⟩ rfl rfl dX4_isDeed_31 rfl (Nat.le_of_ble_eq_true rfl) ⟨Nat.le_of_ble_eq_true rfl, Nat.le_of_ble_eq_true rfl⟩) ?_
      refine j_if_eq (tgt := 50) C dX4_isDeed_34 (by decide) (fun c_3 => ?_) (fun c_3 => ?_)
      · skip
        have c_3 : (jBt v2 0 3) = false := jb_0 c_3
        refine j_iconst (v := 0) C dX4_isDeed_50 rfl ?_
        exact j_zretR (v := 0) C hr dX4_isDeed_51 rfl (by rw [jD_3 (by assumption) (by assumption)]; simp_all [jb])
      · skip
        have c_3 : (jBt v2 0 3) = true := jb_1 c_3
        refine j_iload_n 1 C dX4_isDeed_37 rfl rfl ?_
        refine j_iconst (v := 0) C dX4_isDeed_38 rfl ?_
        refine j_iconst (v := 3) C dX4_isDeed_39 rfl ?_
        refine j_callRi (v := jb (jBt v3 0 3)) (j_runS (As := [.int v3, .int 0, .int 3]) (rest := []) [] C (c_X4_isBetween l g v3 0 3) gX4_isDeed_X4_isBetween rfl rfl rfl hd_X4_isBetween ⟨Nat.le_of_ble_eq_true rfl, Nat.le_of_ble_eq_true rfl⟩ rfl rfl dX4_isDeed_40 rfl (Nat.le_of_ble_eq_true rfl) ⟨Nat.le_of_ble_eq_true rfl, Nat.le_of_ble_eq_true rfl⟩) ?_
        refine j_if_eq (tgt := 50) C dX4_isDeed_43 (by decide) (fun c_4 => ?_) (fun c_4 => ?_)
        · skip
          have c_4 : (jBt v3 0 3) = false := jb_0 c_4
          refine j_iconst (v := 0) C dX4_isDeed_50 rfl ?_
          exact j_zretR (v := 0) C hr dX4_isDeed_51 rfl (by rw [jD_3 (by assumption) (by assumption)]; simp_all [jb])
        · skip
          have c_4 : (jBt v3 0 3) = true := jb_1 c_4
          refine j_iconst (v := 1) C dX4_isDeed_46 rfl ?_
          refine j_goto (tgt := 51) C dX4_isDeed_47 (by decide) ?_
          exact j_zretR (v := 1) C hr dX4_isDeed_51 rfl (by rw [jD_3 (by assumption) (by assumption)]; simp_all [jb])
    · skip
      refine j_iload_n 1 C dX4_isDeed_20 rfl rfl ?_
      refine j_iconst (v := 0) C dX4_isDeed_21 rfl ?_
      refine j_bipush (v := 100) C dX4_isDeed_22 rfl ?_
      refine j_callRi (v := jb (jBt v3 0 100)) (j_runS (As := [.int v3, .int 0, .int 100]) (rest := []) [] C (c_X4_isBetween l g v3 0 100) gX4_isDeed_X4_isBetween rfl rfl rfl hd_X4_isBetween ⟨Nat.le_of_ble_eq_true rfl, Nat.le_of_ble_eq_true rfl⟩ rfl rfl dX4_isDeed_24 rfl (Nat.le_of_ble_eq_true rfl) ⟨Nat.le_of_ble_eq_true rfl, Nat.le_of_ble_eq_true rfl⟩) ?_
      exact j_zretR (v := jb (jBt v3 0 100)) C hr dX4_isDeed_27 (jb_n (jBt v3 0 100)) (by rw [‹v2 = 5›, jD_5])
  · skip
    refine j_iload_n 1 C dX4_isDeed_5 rfl rfl ?_
    refine j_if_ne (tgt := 13) C dX4_isDeed_6 (by decide) (fun c_5 => ?_) (fun c_5 => ?_)
    · skip
      refine j_iconst (v := 0) C dX4_isDeed_13 rfl ?_
      exact j_zretR (v := 0) C hr dX4_isDeed_14 rfl (by rw [‹v2 = 4›, jD_4]; simp_all [jb])
    · skip
      refine j_iconst (v := 1) C dX4_isDeed_9 rfl ?_
      refine j_goto (tgt := 14) C dX4_isDeed_10 (by decide) ?_
      exact j_zretR (v := 1) C hr dX4_isDeed_14 rfl (by rw [‹v2 = 4›, jD_4]; simp_all [jb])
set_option maxHeartbeats 4000000 in
set_option maxRecDepth 100000 in
theorem c_X4_programs (l : Launch) (g : jG) (x0 mp N rp : Nat) (rl : Int32) (lt p1 p2 cz : Nat)  : jRi l yX4_programs wsX4_programs ({ frames := 0, cells := 0, slots := 0, locals := 0 }) g [.ref x0] [(x0, .inr (3, [.ref mp, .int (nI N), .ref rp, .int rl, .ref lt, .ref p1, .ref p2, .ref cz]))] (nI N) := by
  refine j_enterR (cc := cX4_programs) (maxL := 1) (ret := (some .int)) (own := RX4) (L := [(0, .ref x0)]) (by decide) rfl rfl (Nat.le_of_ble_eq_true rfl) rfl (fun p e s m args below meth c C hr => ?_)
  refine j_aload_n 0 C dX4_programs_0 rfl rfl ?_
  refine j_get (Cn := RX4) (T := TX4) (N := 8) 0 1 C dX4_programs_1 hin_X4_programs_X4 rfl rfl (by decide) (List.mem_of_getElem? (i := 1) rfl) rfl ?_
  exact j_iretR (v := nI N) C hr dX4_programs_4 rfl
set_option maxHeartbeats 4000000 in
set_option maxRecDepth 100000 in
theorem c_X4_loops (l : Launch) (g : jG) (x0 mp N rp : Nat) (rl : Int32) (lt p1 p2 cz : Nat) (T : Nat → Option Nat) (k : Nat) (q ca n : Nat) (f : Nat → Int32) (hk : k < N) (hN : N ≤ 10) (hq : T k = some q) : jRi l yX4_loops wsX4_loops ({ frames := 1, cells := 0, slots := 0, locals := 22 }) g [.ref x0, .int (nI k)] [(x0, .inr (3, [.ref mp, .int (nI N), .ref rp, .int rl, .ref lt, .ref p1, .ref p2, .ref cz])), (mp, jaP g 10 T), (q, .inr (1, [.ref ca, .int (nI n)])), (ca, jaI g 224 f)] (nI n) := by
  refine j_enterR (cc := cX4_loops) (maxL := 2) (ret := (some .int)) (own := RX4) (L := [(0, .ref x0), (1, .int (nI k))]) (by decide) rfl rfl (Nat.le_of_ble_eq_true rfl) rfl (fun p e s m args below meth c C hr => ?_)
  refine j_aload_n 0 C dX4_loops_0 rfl rfl ?_
  refine j_iload_n 1 C dX4_loops_1 rfl rfl ?_
  refine j_callRr (v := q) (j_runV (ci := 0) (As := [.int (nI k)]) (rest := []) [0, 1] C (c_X4_programAt l g x0 mp N rp rl lt p1 p2 cz T k q (by omega) (by omega) hq) gX4_loops_X4_programAt rfl rfl rfl hd_X4_programAt ⟨Nat.le_of_ble_eq_true rfl, Nat.le_of_ble_eq_true rfl⟩ rfl rfl rfl rfl dX4_loops_2 rfl (Nat.le_of_ble_eq_true rfl) ⟨Nat.le_of_ble_eq_true rfl, Nat.le_of_ble_eq_true rfl⟩) ?_
  refine j_callRi (v := nI n) (j_runV (ci := 2) (As := []) (rest := []) [2, 3] C (c_X1_countLoops l g q ca (nI n) f) gX4_loops_X1_countLoops rfl rfl rfl hd_X1_countLoops ⟨Nat.le_of_ble_eq_true rfl, Nat.le_of_ble_eq_true rfl⟩ rfl rfl rfl rfl dX4_loops_5 rfl (Nat.le_of_ble_eq_true rfl) ⟨Nat.le_of_ble_eq_true rfl, Nat.le_of_ble_eq_true rfl⟩) ?_
  exact j_iretR (v := nI n) C hr dX4_loops_8 rfl
set_option maxHeartbeats 4000000 in
set_option maxRecDepth 100000 in
theorem c_X4_addLoop (l : Launch) (g : jG) (x0 mp N rp : Nat) (rl : Int32) (lt p1 p2 cz : Nat) (T : Nat → Option Nat) (k : Nat) (q ca n : Nat) (f : Nat → Int32) (s0 e0 : Int32) (up : Bool) (hk : k < N) (hN : N ≤ 10) (hq : T k = some q) (h1 : jBt s0 0 5 = true) (h2 : jBt e0 0 5 = true) (hn : n < 8) : jWi l yX4_addLoop wsX4_addLoop ({ frames := 3, cells := 0, slots := 0, locals := 69 }) g [.ref x0, .int (nI k), .int s0, .int e0, .int (jb up)] [(x0, .inr (3, [.ref mp, .int (nI N), .ref rp, .int rl, .ref lt, .ref p1, .ref p2, .ref cz])), (mp, jaP g 10 T), (q, .inr (1, [.ref ca, .int (nI n)])), (ca, jaI g 224 f)] [(x0, .inr (3, [.ref mp, .int (nI N), .ref rp, .int rl, .ref lt, .ref p1, .ref p2, .ref cz])), (mp, jaP g 10 T), (q, .inr (1, [.ref ca, .int (nI (n + 1))])), (ca, jaI g 224 (upd (upd (upd (upd f (n * 28 + 0) s0) (n * 28 + 1) e0) (n * 28 + 2) (jb up)) (n * 28 + 3) 0))] (nI n) := by
  refine j_enterW (Qc := fun sz_ => va_Qi (fun r (_ : Unit) => r = nI n) (fun _ t => va_P g.1 vwCl [(x0, .inr (3, [.ref mp, .int (nI N), .ref rp, .int rl, .ref lt, .ref p1, .ref p2, .ref cz])), (mp, jaP g 10 T), (q, .inr (1, [.ref ca, .int (nI (n + 1))])), (ca, jaI g 224 (upd (upd (upd (upd f (n * 28 + 0) s0) (n * 28 + 1) e0) (n * 28 + 2) (jb up)) (n * 28 + 3) 0))] t.heap) (va_A [(x0, .inr (3, [.ref mp, .int (nI N), .ref rp, .int rl, .ref lt, .ref p1, .ref p2, .ref cz])), (mp, jaP g 10 T), (q, .inr (1, [.ref ca, .int (nI n)])), (ca, jaI g 224 f)] sz_)) (cc := cX4_addLoop) (maxL := 6) (ret := (some .int)) (own := RX4) (L := [(0, .ref x0), (1, .int (nI k)), (2, .int s0), (3, .int e0), (4, .int (jb up))]) (by decide) rfl rfl (Nat.le_of_ble_eq_true rfl) rfl (fun p e s m args below meth c C hr => ?_)
  refine j_aload_n 0 C dX4_addLoop_0 rfl rfl ?_
  refine j_iload_n 1 C dX4_addLoop_1 rfl rfl ?_
  refine j_callRr (v := q) (j_runV (ci := 0) (As := [.int (nI k)]) (rest := []) [0, 1] C (c_X4_programAt l g x0 mp N rp rl lt p1 p2 cz T k q (by omega) (by omega) hq) gX4_addLoop_X4_programAt rfl rfl rfl hd_X4_programAt ⟨Nat.le_of_ble_eq_true rfl, Nat.le_of_ble_eq_true rfl⟩ rfl rfl rfl rfl dX4_addLoop_2 rfl (Nat.le_of_ble_eq_true rfl) ⟨Nat.le_of_ble_eq_true rfl, Nat.le_of_ble_eq_true rfl⟩) ?_
  refine j_astore (L' := [(0, .ref x0), (1, .int (nI k)), (2, .int s0), (3, .int e0), (4, .int (jb up)), (5, .ref q)]) C dX4_addLoop_5 (Nat.le_of_ble_eq_true rfl) rfl rfl ?_
  refine j_iload_n 2 C dX4_addLoop_7 rfl rfl ?_
  refine j_iconst (v := 0) C dX4_addLoop_8 rfl ?_
  refine j_iconst (v := 5) C dX4_addLoop_9 rfl ?_
  refine j_callRi (v := jb (jBt s0 0 5)) (j_runS (As := [.int s0, .int 0, .int 5]) (rest := []) [] C (c_X4_isBetween l g s0 0 5) gX4_addLoop_X4_isBetween rfl rfl rfl hd_X4_isBetween ⟨Nat.le_of_ble_eq_true rfl, Nat.le_of_ble_eq_true rfl⟩ rfl rfl dX4_addLoop_10 rfl (Nat.le_of_ble_eq_true rfl) ⟨Nat.le_of_ble_eq_true rfl, Nat.le_of_ble_eq_true rfl⟩) ?_
  refine j_eq (pc' := 13) (L' := [(0, .ref x0), (1, .int (nI k)), (2, .int s0), (3, .int e0), (4, .int (jb up)), (5, .ref q)]) (st' := [.int (jb true)]) (ws' := [(x0, .inr (3, [.ref mp, .int (nI N), .ref rp, .int rl, .ref lt, .ref p1, .ref p2, .ref cz])), (mp, jaP g 10 T), (q, .inr (1, [.ref ca, .int (nI n)])), (ca, jaI g 224 f)]) ?_ rfl rfl (by rw [h1]) rfl
  refine j_if_eq (tgt := 25) C dX4_addLoop_13 (by decide) (fun c_1 => ?_) (fun c_1 => ?_)
  · skip
    have c_1 : true = false := jb_0 c_1
    (first | exact absurd c_1 (by decide) | exact absurd c_1 (by omega) | simp_all)
  · skip
    have c_1 : true = true := jb_1 c_1
    refine j_iload_n 3 C dX4_addLoop_16 rfl rfl ?_
    refine j_iconst (v := 0) C dX4_addLoop_17 rfl ?_
    refine j_iconst (v := 5) C dX4_addLoop_18 rfl ?_
    refine j_callRi (v := jb (jBt e0 0 5)) (j_runS (As := [.int e0, .int 0, .int 5]) (rest := []) [] C (c_X4_isBetween l g e0 0 5) gX4_addLoop_X4_isBetween rfl rfl rfl hd_X4_isBetween ⟨Nat.le_of_ble_eq_true rfl, Nat.le_of_ble_eq_true rfl⟩ rfl rfl dX4_addLoop_19 rfl (Nat.le_of_ble_eq_true rfl) ⟨Nat.le_of_ble_eq_true rfl, Nat.le_of_ble_eq_true rfl⟩) ?_
    refine j_eq (pc' := 22) (L' := [(0, .ref x0), (1, .int (nI k)), (2, .int s0), (3, .int e0), (4, .int (jb up)), (5, .ref q)]) (st' := [.int (jb true)]) (ws' := [(x0, .inr (3, [.ref mp, .int (nI N), .ref rp, .int rl, .ref lt, .ref p1, .ref p2, .ref cz])), (mp, jaP g 10 T), (q, .inr (1, [.ref ca, .int (nI n)])), (ca, jaI g 224 f)]) ?_ rfl rfl (by rw [h2]) rfl
    refine j_if_ne (tgt := 35) C dX4_addLoop_22 (by decide) (fun c_2 => ?_) (fun c_2 => ?_)
    · skip
      have c_2 : true = true := jb_1 c_2
      refine j_aload 5 C dX4_addLoop_35 rfl ?_
      refine j_callRi (v := nI n) (j_runV (ci := 2) (As := []) (rest := []) [2, 3] C (c_X1_countLoops l g q ca (nI n) f) gX4_addLoop_X1_countLoops rfl rfl rfl hd_X1_countLoops ⟨Nat.le_of_ble_eq_true rfl, Nat.le_of_ble_eq_true rfl⟩ rfl rfl rfl rfl dX4_addLoop_37 rfl (Nat.le_of_ble_eq_true rfl) ⟨Nat.le_of_ble_eq_true rfl, Nat.le_of_ble_eq_true rfl⟩) ?_
      refine j_bipush (v := 8) C dX4_addLoop_40 rfl ?_
      refine j_icmp_lt (tgt := 55) C dX4_addLoop_42 (by decide) (fun c_3 => ?_) (fun c_3 => ?_)
      · skip
        have c_3 : n < 8 := (nI_ltI (a := n) (b := 8) (by omega) (by omega)).mp c_3
        refine j_aload 5 C dX4_addLoop_55 rfl ?_
        refine j_iload_n 2 C dX4_addLoop_57 rfl rfl ?_
        refine j_iload_n 3 C dX4_addLoop_58 rfl rfl ?_
        refine j_iload 4 C dX4_addLoop_59 rfl ?_
        refine j_callWi [2, 3] (fun _ => [(x0, .inr (3, [.ref mp, .int (nI N), .ref rp, .int rl, .ref lt, .ref p1, .ref p2, .ref cz])), (mp, jaP g 10 T), (q, .inr (1, [.ref ca, .int (nI (n + 1))])), (ca, jaI g 224 (upd (upd (upd (upd f (n * 28 + 0) s0) (n * 28 + 1) e0) (n * 28 + 2) (jb up)) (n * 28 + 3) 0))]) C (j_runV (ci := 2) (As := [.int s0, .int e0, .int (jb up)]) (rest := []) [2, 3] C (c_X1_appendLoop l g q ca n f s0 e0 up (by omega)) gX4_addLoop_X1_appendLoop rfl rfl rfl hd_X1_appendLoop ⟨Nat.le_of_ble_eq_true rfl, Nat.le_of_ble_eq_true rfl⟩ rfl rfl rfl rfl dX4_addLoop_61 rfl (Nat.le_of_ble_eq_true rfl) ⟨Nat.le_of_ble_eq_true rfl, Nat.le_of_ble_eq_true rfl⟩) rfl (fun _ => rfl) (fun _ => rfl) (fun z _ hz => ?_)
        subst hz
        exact j_iretW (v := nI n) C hr dX4_addLoop_64 () rfl rfl
      · skip
        have c_3 : ¬ n < 8 := fun z => c_3 ((nI_ltI (a := n) (b := 8) (by omega) (by omega)).mpr z)
        exact absurd c_3 (by omega)
    · skip
      have c_2 : true = false := jb_0 c_2
      (first | exact absurd c_2 (by decide) | exact absurd c_2 (by omega) | simp_all)
set_option maxHeartbeats 4000000 in
set_option maxRecDepth 100000 in
theorem c_X4_addStep (l : Launch) (g : jG) (x0 mp N rp : Nat) (rl : Int32) (lt p1 p2 cz : Nat) (T : Nat → Option Nat) (k : Nat) (q ca n : Nat) (f : Nat → Int32) (j : Nat) (a : Nat) (v0 v1 v2 v3 : Int32) (hk : k < N) (hN : N ≤ 10) (hq : T k = some q) (hj : j < n) (hn : n ≤ 8) (hb : ((jBt v0 0 4 && (jBt v1 (-100) 100 || jBt v1 1000 1003)) && (jBt v2 0 5 && jBt v3 0 (if v2 = 4 then 0 else if v2 = 5 then 100 else 3))) = true) (ha : f (j * 28 + 3) = nI a) (ha6 : a < 6) : jWi l yX4_addStep wsX4_addStep ({ frames := 4, cells := 0, slots := 0, locals := 91 }) g [.ref x0, .int (nI k), .int (nI j), .int v0, .int v1, .int v2, .int v3] [(x0, .inr (3, [.ref mp, .int (nI N), .ref rp, .int rl, .ref lt, .ref p1, .ref p2, .ref cz])), (mp, jaP g 10 T), (q, .inr (1, [.ref ca, .int (nI n)])), (ca, jaI g 224 f)] [(x0, .inr (3, [.ref mp, .int (nI N), .ref rp, .int rl, .ref lt, .ref p1, .ref p2, .ref cz])), (mp, jaP g 10 T), (q, .inr (1, [.ref ca, .int (nI n)])), (ca, jaI g 224 (upd (upd (upd (upd (upd f (j * 28 + 4 + a * 4 + 0) v0) (j * 28 + 4 + a * 4 + 1) v1) (j * 28 + 4 + a * 4 + 2) v2) (j * 28 + 4 + a * 4 + 3) v3) (j * 28 + 3) (nI (a + 1))))] (nI a) := by
  refine j_enterW (Qc := fun sz_ => va_Qi (fun r (_ : Unit) => r = nI a) (fun _ t => va_P g.1 vwCl [(x0, .inr (3, [.ref mp, .int (nI N), .ref rp, .int rl, .ref lt, .ref p1, .ref p2, .ref cz])), (mp, jaP g 10 T), (q, .inr (1, [.ref ca, .int (nI n)])), (ca, jaI g 224 (upd (upd (upd (upd (upd f (j * 28 + 4 + a * 4 + 0) v0) (j * 28 + 4 + a * 4 + 1) v1) (j * 28 + 4 + a * 4 + 2) v2) (j * 28 + 4 + a * 4 + 3) v3) (j * 28 + 3) (nI (a + 1))))] t.heap) (va_A [(x0, .inr (3, [.ref mp, .int (nI N), .ref rp, .int rl, .ref lt, .ref p1, .ref p2, .ref cz])), (mp, jaP g 10 T), (q, .inr (1, [.ref ca, .int (nI n)])), (ca, jaI g 224 f)] sz_)) (cc := cX4_addStep) (maxL := 8) (ret := (some .int)) (own := RX4) (L := [(0, .ref x0), (1, .int (nI k)), (2, .int (nI j)), (3, .int v0), (4, .int v1), (5, .int v2), (6, .int v3)]) (by decide) rfl rfl (Nat.le_of_ble_eq_true rfl) rfl (fun p e s m args below meth c C hr => ?_)
  refine j_aload_n 0 C dX4_addStep_0 rfl rfl ?_
  refine j_iload_n 1 C dX4_addStep_1 rfl rfl ?_
  refine j_callRr (v := q) (j_runV (ci := 0) (As := [.int (nI k)]) (rest := []) [0, 1] C (c_X4_programAt l g x0 mp N rp rl lt p1 p2 cz T k q (by omega) (by omega) hq) gX4_addStep_X4_programAt rfl rfl rfl hd_X4_programAt ⟨Nat.le_of_ble_eq_true rfl, Nat.le_of_ble_eq_true rfl⟩ rfl rfl rfl rfl dX4_addStep_2 rfl (Nat.le_of_ble_eq_true rfl) ⟨Nat.le_of_ble_eq_true rfl, Nat.le_of_ble_eq_true rfl⟩) ?_
  refine j_astore (L' := [(0, .ref x0), (1, .int (nI k)), (2, .int (nI j)), (3, .int v0), (4, .int v1), (5, .int v2), (6, .int v3), (7, .ref q)]) C dX4_addStep_5 (Nat.le_of_ble_eq_true rfl) rfl rfl ?_
  refine j_aload 7 C dX4_addStep_7 rfl ?_
  refine j_iload_n 2 C dX4_addStep_9 rfl rfl ?_
  refine j_callWv [2, 3] (fun _ => [(x0, .inr (3, [.ref mp, .int (nI N), .ref rp, .int rl, .ref lt, .ref p1, .ref p2, .ref cz])), (mp, jaP g 10 T), (q, .inr (1, [.ref ca, .int (nI n)])), (ca, jaI g 224 f)]) C (j_runS (As := [.ref q, .int (nI j)]) (rest := []) [2, 3] C (c_X4_refuseOtherLoops l g q ca n f j (by omega) (by omega)) gX4_addStep_X4_refuseOtherLoops rfl rfl rfl hd_X4_refuseOtherLoops ⟨Nat.le_of_ble_eq_true rfl, Nat.le_of_ble_eq_true rfl⟩ rfl rfl dX4_addStep_10 rfl (Nat.le_of_ble_eq_true rfl) ⟨Nat.le_of_ble_eq_true rfl, Nat.le_of_ble_eq_true rfl⟩) rfl (fun _ => rfl) (fun _ => rfl) (fun _ _ => ?_)
  refine j_iload_n 3 C dX4_addStep_13 rfl rfl ?_
  refine j_iload 4 C dX4_addStep_14 rfl ?_
  refine j_callRi (v := jb (jBt v0 0 4 && (jBt v1 (-100) 100 || jBt v1 1000 1003))) (j_runS (As := [.int v0, .int v1]) (rest := []) [] C (c_X4_isLook l g v0 v1) gX4_addStep_X4_isLook rfl rfl rfl hd_X4_isLook ⟨Nat.le_of_ble_eq_true rfl, Nat.le_of_ble_eq_true rfl⟩ rfl rfl dX4_addStep_16 rfl (Nat.le_of_ble_eq_true rfl) ⟨Nat.le_of_ble_eq_true rfl, Nat.le_of_ble_eq_true rfl⟩) ?_
  refine j_if_eq (tgt := 32) C dX4_addStep_19 (by decide) (fun c_1 => ?_) (fun c_1 => ?_)
  · skip
    have c_1 : (jBt v0 0 4 && (jBt v1 (-100) 100 || jBt v1 1000 1003)) = false := jb_0 c_1
    (first | exact absurd c_1 (by decide) | exact absurd c_1 (by omega) | simp_all)
  · skip
    have c_1 : (jBt v0 0 4 && (jBt v1 (-100) 100 || jBt v1 1000 1003)) = true := jb_1 c_1
    refine j_iload 5 C dX4_addStep_22 rfl ?_
    refine j_iload 6 C dX4_addStep_24 rfl ?_
    refine j_callRi (v := jb (jBt v2 0 5 && jBt v3 0 (if v2 = 4 then 0 else if v2 = 5 then 100 else 3))) (j_runS (As := [.int v2, .int v3]) (rest := []) [] C (c_X4_isDeed l g v2 v3) gX4_addStep_X4_isDeed rfl rfl rfl hd_X4_isDeed ⟨Nat.le_of_ble_eq_true rfl, Nat.le_of_ble_eq_true rfl⟩ rfl rfl dX4_addStep_26 rfl (Nat.le_of_ble_eq_true rfl) ⟨Nat.le_of_ble_eq_true rfl, Nat.le_of_ble_eq_true rfl⟩) ?_
    refine j_if_ne (tgt := 42) C dX4_addStep_29 (by decide) (fun c_2 => ?_) (fun c_2 => ?_)
    · skip
      have c_2 : (jBt v2 0 5 && jBt v3 0 (if v2 = 4 then 0 else if v2 = 5 then 100 else 3)) = true := jb_1 c_2
      refine j_aload 7 C dX4_addStep_42 rfl ?_
      refine j_iload_n 2 C dX4_addStep_44 rfl rfl ?_
      refine j_callRi (v := f (j * 28 + 3)) (j_runV (ci := 2) (As := [.int (nI j)]) (rest := []) [2, 3] C (c_X1_countSteps l g q ca (nI n) f j (by omega)) gX4_addStep_X1_countSteps rfl rfl rfl hd_X1_countSteps ⟨Nat.le_of_ble_eq_true rfl, Nat.le_of_ble_eq_true rfl⟩ rfl rfl rfl rfl dX4_addStep_45 rfl (Nat.le_of_ble_eq_true rfl) ⟨Nat.le_of_ble_eq_true rfl, Nat.le_of_ble_eq_true rfl⟩) ?_
      refine j_eq (pc' := 48) (L' := [(0, .ref x0), (1, .int (nI k)), (2, .int (nI j)), (3, .int v0), (4, .int v1), (5, .int v2), (6, .int v3), (7, .ref q)]) (st' := [.int (nI a)]) (ws' := [(x0, .inr (3, [.ref mp, .int (nI N), .ref rp, .int rl, .ref lt, .ref p1, .ref p2, .ref cz])), (mp, jaP g 10 T), (q, .inr (1, [.ref ca, .int (nI n)])), (ca, jaI g 224 f)]) ?_ rfl rfl (by rw [ha]) rfl
      refine j_bipush (v := 6) C dX4_addStep_48 rfl ?_
      refine j_icmp_lt (tgt := 63) C dX4_addStep_50 (by decide) (fun c_3 => ?_) (fun c_3 => ?_)
      · skip
        have c_3 : a < 6 := (nI_ltI (a := a) (b := 6) (by omega) (by omega)).mp c_3
        refine j_aload 7 C dX4_addStep_63 rfl ?_
        refine j_iload_n 2 C dX4_addStep_65 rfl rfl ?_
        refine j_iload_n 3 C dX4_addStep_66 rfl rfl ?_
        refine j_iload 4 C dX4_addStep_67 rfl ?_
        refine j_iload 5 C dX4_addStep_69 rfl ?_
        refine j_iload 6 C dX4_addStep_71 rfl ?_
        refine j_callWi [2, 3] (fun _ => [(x0, .inr (3, [.ref mp, .int (nI N), .ref rp, .int rl, .ref lt, .ref p1, .ref p2, .ref cz])), (mp, jaP g 10 T), (q, .inr (1, [.ref ca, .int (nI n)])), (ca, jaI g 224 (upd (upd (upd (upd (upd f (j * 28 + 4 + a * 4 + 0) v0) (j * 28 + 4 + a * 4 + 1) v1) (j * 28 + 4 + a * 4 + 2) v2) (j * 28 + 4 + a * 4 + 3) v3) (j * 28 + 3) (nI (a + 1))))]) C (j_runV (ci := 2) (As := [.int (nI j), .int v0, .int v1, .int v2, .int v3]) (rest := []) [2, 3] C (c_X1_appendStep l g q ca (nI n) f j a v0 v1 v2 v3 (by omega) ha (by omega)) gX4_addStep_X1_appendStep rfl rfl rfl hd_X1_appendStep ⟨Nat.le_of_ble_eq_true rfl, Nat.le_of_ble_eq_true rfl⟩ rfl rfl rfl rfl dX4_addStep_73 rfl (Nat.le_of_ble_eq_true rfl) ⟨Nat.le_of_ble_eq_true rfl, Nat.le_of_ble_eq_true rfl⟩) rfl (fun _ => rfl) (fun _ => rfl) (fun z _ hz => ?_)
        subst hz
        exact j_iretW (v := nI a) C hr dX4_addStep_76 () rfl rfl
      · skip
        have c_3 : ¬ a < 6 := fun z => c_3 ((nI_ltI (a := a) (b := 6) (by omega) (by omega)).mpr z)
        exact absurd c_3 (by omega)
    · skip
      have c_2 : (jBt v2 0 5 && jBt v3 0 (if v2 = 4 then 0 else if v2 = 5 then 100 else 3)) = false := jb_0 c_2
      (first | exact absurd c_2 (by decide) | exact absurd c_2 (by omega) | simp_all)
