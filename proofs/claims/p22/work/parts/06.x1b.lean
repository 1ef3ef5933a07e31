set_option maxRecDepth 100000 in
theorem hin_X1_appendLoop_X1 : ∀ w ∈ u_ws RX1 TX1 2, w ∈ wsX1_appendLoop := fun w h => List.mem_cons_of_mem _ (by exact List.mem_append_right _ h)
theorem hd_X1_setLoopFact : yX1_setLoopFact.cls = RX1 ∧ yX1_setLoopFact.cls ≠ "java/lang/invoke/MethodHandle" ∧ yX1_setLoopFact.cls ≠ "java/lang/invoke/VarHandle" ∧ (parseMethodDescriptor yX1_setLoopFact.desc).map (fun d => d.parameters.length) = some 3 := by decide +kernel
theorem hd_X1_countSteps : yX1_countSteps.cls = RX1 ∧ yX1_countSteps.cls ≠ "java/lang/invoke/MethodHandle" ∧ yX1_countSteps.cls ≠ "java/lang/invoke/VarHandle" ∧ (parseMethodDescriptor yX1_countSteps.desc).map (fun d => d.parameters.length) = some 1 := by decide +kernel
theorem hd_X1_placeOf : yX1_placeOf.cls = RX1 ∧ yX1_placeOf.cls ≠ "java/lang/invoke/MethodHandle" ∧ yX1_placeOf.cls ≠ "java/lang/invoke/VarHandle" ∧ (parseMethodDescriptor yX1_placeOf.desc).map (fun d => d.parameters.length) = some 2 := by decide +kernel
set_option maxRecDepth 100000 in
theorem hin_X1_becomeLike_X1 : ∀ w ∈ u_ws RX1 TX1 2, w ∈ wsX1_becomeLike := fun w h => List.mem_cons_of_mem _ (by exact List.mem_append_right _ h)
set_option maxRecDepth 100000 in
theorem hin_X1_removeLoop_X1 : ∀ w ∈ u_ws RX1 TX1 2, w ∈ wsX1_removeLoop := fun w h => List.mem_cons_of_mem _ (by exact List.mem_append_right _ h)
set_option maxRecDepth 100000 in
theorem hin_X1_repeatLoop_X1 : ∀ w ∈ u_ws RX1 TX1 2, w ∈ wsX1_repeatLoop := fun w h => List.mem_cons_of_mem _ (by exact List.mem_append_right _ h)
theorem hd_X1_stepFact : yX1_stepFact.cls = RX1 ∧ yX1_stepFact.cls ≠ "java/lang/invoke/MethodHandle" ∧ yX1_stepFact.cls ≠ "java/lang/invoke/VarHandle" ∧ (parseMethodDescriptor yX1_stepFact.desc).map (fun d => d.parameters.length) = some 3 := by decide +kernel
set_option maxHeartbeats 4000000 in
set_option maxRecDepth 100000 in
theorem c_X1_appendLoop (l : Launch) (g : jG) (q ca n : Nat) (f : Nat → Int32) (a b : Int32) (u : Bool) (hn : n < 8) : jWi l yX1_appendLoop wsX1_appendLoop ({ frames := 2, cells := 0, slots := 0, locals := 45 }) g [.ref q, .int a, .int b, .int (jb u)] [(q, .inr (1, [.ref ca, .int (nI n)])), (ca, jaI g 224 f)] [(q, .inr (1, [.ref ca, .int (nI (n + 1))])), (ca, jaI g 224 (upd (upd (upd (upd f (n * 28 + 0) a) (n * 28 + 1) b) (n * 28 + 2) (jb u)) (n * 28 + 3) 0))] (nI n) := by
  refine j_enterW (Qc := fun sz_ => va_Qi (fun r (_ : Unit) => r = nI n) (fun _ t => va_P g.1 vwCl [(q, .inr (1, [.ref ca, .int (nI (n + 1))])), (ca, jaI g 224 (upd (upd (upd (upd f (n * 28 + 0) a) (n * 28 + 1) b) (n * 28 + 2) (jb u)) (n * 28 + 3) 0))] t.heap) (va_A [(q, .inr (1, [.ref ca, .int (nI n)])), (ca, jaI g 224 f)] sz_)) (cc := cX1_appendLoop) (maxL := 5) (ret := (some .int)) (own := RX1) (L := [(0, .ref q), (1, .int a), (2, .int b), (3, .int (jb u))]) (by decide) rfl rfl (Nat.le_of_ble_eq_true rfl) rfl (fun p e s m args below meth c C hr => ?_)
  refine j_aload_n 0 C dX1_appendLoop_0 rfl rfl ?_
  refine j_get (Cn := RX1) (T := TX1) (N := 2) 0 1 C dX1_appendLoop_1 hin_X1_appendLoop_X1 rfl rfl (by decide) (List.mem_of_getElem? (i := 1) rfl) rfl ?_
  refine j_istore (L' := [(0, .ref q), (1, .int a), (2, .int b), (3, .int (jb u)), (4, .int (nI n))]) C dX1_appendLoop_4 (Nat.le_of_ble_eq_true rfl) rfl rfl ?_
  refine j_aload_n 0 C dX1_appendLoop_6 rfl rfl ?_
  refine j_iload 4 C dX1_appendLoop_7 rfl ?_
  refine j_iconst (v := 0) C dX1_appendLoop_9 rfl ?_
  refine j_iload_n 1 C dX1_appendLoop_10 rfl rfl ?_
  refine j_callWv [0, 1] (fun _ => [(q, .inr (1, [.ref ca, .int (nI n)])), (ca, jaI g 224 (upd f (n * 28 + 0) a))]) C (j_runV (ci := 0) (As := [.int (nI n), .int 0, .int a]) (rest := []) [0, 1] C (c_X1_setLoopFact l g q ca (nI n) f n 0 a (by omega)) gX1_appendLoop_X1_setLoopFact rfl rfl rfl hd_X1_setLoopFact ⟨Nat.le_of_ble_eq_true rfl, Nat.le_of_ble_eq_true rfl⟩ rfl rfl rfl rfl dX1_appendLoop_11 rfl (Nat.le_of_ble_eq_true rfl) ⟨Nat.le_of_ble_eq_true rfl, Nat.le_of_ble_eq_true rfl⟩) rfl (fun _ => rfl) (fun _ => rfl) (fun _ _ => ?_)
  refine j_aload_n 0 C dX1_appendLoop_14 rfl rfl ?_
  refine j_iload 4 C dX1_appendLoop_15 rfl ?_
  refine j_iconst (v := 1) C dX1_appendLoop_17 rfl ?_
  refine j_iload_n 2 C dX1_appendLoop_18 rfl rfl ?_
  refine j_callWv [0, 1] (fun _ => [(q, .inr (1, [.ref ca, .int (nI n)])), (ca, jaI g 224 (upd (upd f (n * 28 + 0) a) (n * 28 + 1) b))]) C (j_runV (ci := 0) (As := [.int (nI n), .int 1, .int b]) (rest := []) [0, 1] C (c_X1_setLoopFact l g q ca (nI n) (upd f (n * 28 + 0) a) n 1 b (by omega)) gX1_appendLoop_X1_setLoopFact rfl rfl rfl hd_X1_setLoopFact ⟨Nat.le_of_ble_eq_true rfl, Nat.le_of_ble_eq_true rfl⟩ rfl rfl rfl rfl dX1_appendLoop_19 rfl (Nat.le_of_ble_eq_true rfl) ⟨Nat.le_of_ble_eq_true rfl, Nat.le_of_ble_eq_true rfl⟩) rfl (fun _ => rfl) (fun _ => rfl) (fun _ _ => ?_)
  refine j_aload_n 0 C dX1_appendLoop_22 rfl rfl ?_
  refine j_iload 4 C dX1_appendLoop_23 rfl ?_
  refine j_iconst (v := 2) C dX1_appendLoop_25 rfl ?_
  refine j_iload_n 3 C dX1_appendLoop_26 rfl rfl ?_
  refine j_if_eq (tgt := 34) C dX1_appendLoop_27 (by decide) (fun c_1 => ?_) (fun c_1 => ?_)
  · skip
    have c_1 : u = false := jb_0 c_1
    refine j_iconst (v := 0) C dX1_appendLoop_34 rfl ?_
    refine j_eq (pc' := 35) (L' := [(0, .ref q), (1, .int a), (2, .int b), (3, .int (jb u)), (4, .int (nI n))]) (st' := [.int (jb u), .int 2, .int (nI n), .ref q]) (ws' := [(q, .inr (1, [.ref ca, .int (nI n)])), (ca, jaI g 224 (upd (upd f (n * 28 + 0) a) (n * 28 + 1) b))]) ?_ rfl rfl (by subst c_1; rfl) rfl
    refine j_callWv [0, 1] (fun _ => [(q, .inr (1, [.ref ca, .int (nI n)])), (ca, jaI g 224 (upd (upd (upd f (n * 28 + 0) a) (n * 28 + 1) b) (n * 28 + 2) (jb u)))]) C (j_runV (ci := 0) (As := [.int (nI n), .int 2, .int (jb u)]) (rest := []) [0, 1] C (c_X1_setLoopFact l g q ca (nI n) (upd (upd f (n * 28 + 0) a) (n * 28 + 1) b) n 2 (jb u) (by omega)) gX1_appendLoop_X1_setLoopFact rfl rfl rfl hd_X1_setLoopFact ⟨Nat.le_of_ble_eq_true rfl, Nat.le_of_ble_eq_true rfl⟩ rfl rfl rfl rfl dX1_appendLoop_35 rfl (Nat.le_of_ble_eq_true rfl) ⟨Nat.le_of_ble_eq_true rfl, Nat.le_of_ble_eq_true rfl⟩) rfl (fun _ => rfl) (fun _ => rfl) (fun _ _ => ?_)
    refine j_aload_n 0 C dX1_appendLoop_38 rfl rfl ?_
    refine j_iload 4 C dX1_appendLoop_39 rfl ?_
    refine j_iconst (v := 3) C dX1_appendLoop_41 rfl ?_
    refine j_iconst (v := 0) C dX1_appendLoop_42 rfl ?_
    refine j_callWv [0, 1] (fun _ => [(q, .inr (1, [.ref ca, .int (nI n)])), (ca, jaI g 224 (upd (upd (upd (upd f (n * 28 + 0) a) (n * 28 + 1) b) (n * 28 + 2) (jb u)) (n * 28 + 3) 0))]) C (j_runV (ci := 0) (As := [.int (nI n), .int 3, .int 0]) (rest := []) [0, 1] C (c_X1_setLoopFact l g q ca (nI n) (upd (upd (upd f (n * 28 + 0) a) (n * 28 + 1) b) (n * 28 + 2) (jb u)) n 3 0 (by omega)) gX1_appendLoop_X1_setLoopFact rfl rfl rfl hd_X1_setLoopFact ⟨Nat.le_of_ble_eq_true rfl, Nat.le_of_ble_eq_true rfl⟩ rfl rfl rfl rfl dX1_appendLoop_43 rfl (Nat.le_of_ble_eq_true rfl) ⟨Nat.le_of_ble_eq_true rfl, Nat.le_of_ble_eq_true rfl⟩) rfl (fun _ => rfl) (fun _ => rfl) (fun _ _ => ?_)
    refine j_aload_n 0 C dX1_appendLoop_46 rfl rfl ?_
    refine j_iload 4 C dX1_appendLoop_47 rfl ?_
    refine j_iconst (v := 1) C dX1_appendLoop_49 rfl ?_
    refine j_iadd (x := nI n) (y := 1) (v := nI (n + 1)) C dX1_appendLoop_50 (nI_add n 1) ?_
    refine j_put (Cn := RX1) (T := TX1) (N := 2) (ws' := [(q, .inr (1, [.ref ca, .int (nI (n + 1))])), (ca, jaI g 224 (upd (upd (upd (upd f (n * 28 + 0) a) (n * 28 + 1) b) (n * 28 + 2) (jb u)) (n * 28 + 3) 0))]) tyX1 0 1 C dX1_appendLoop_51 hin_X1_appendLoop_X1 tyX1_ok nmX1 rfl rfl (by decide) (List.mem_of_getElem? (i := 1) rfl) rfl (tyX1_ok 1 (by decide)) rfl rfl (Nat.le_of_ble_eq_true rfl) rfl ?_
    refine j_iload 4 C dX1_appendLoop_54 rfl ?_
    exact j_iretW (v := nI n) C hr dX1_appendLoop_56 () rfl rfl
  · skip
    have c_1 : u = true := jb_1 c_1
    refine j_iconst (v := 1) C dX1_appendLoop_30 rfl ?_
    refine j_goto (tgt := 35) C dX1_appendLoop_31 (by decide) ?_
    refine j_eq (pc' := 35) (L' := [(0, .ref q), (1, .int a), (2, .int b), (3, .int (jb u)), (4, .int (nI n))]) (st' := [.int (jb u), .int 2, .int (nI n), .ref q]) (ws' := [(q, .inr (1, [.ref ca, .int (nI n)])), (ca, jaI g 224 (upd (upd f (n * 28 + 0) a) (n * 28 + 1) b))]) ?_ rfl rfl (by subst c_1; rfl) rfl
    refine j_callWv [0, 1] (fun _ => [(q, .inr (1, [.ref ca, .int (nI n)])), (ca, jaI g 224 (upd (upd (upd f (n * 28 + 0) a) (n * 28 + 1) b) (n * 28 + 2) (jb u)))]) C (j_runV (ci := 0) (As := [.int (nI n), .int 2, .int (jb u)]) (rest := []) [0, 1] C (c_X1_setLoopFact l g q ca (nI n) (upd (upd f (n * 28 + 0) a) (n * 28 + 1) b) n 2 (jb u) (by omega)) gX1_appendLoop_X1_setLoopFact rfl rfl rfl hd_X1_setLoopFact ⟨Nat.le_of_ble_eq_true rfl, Nat.le_of_ble_eq_true rfl⟩ rfl rfl rfl rfl dX1_appendLoop_35 rfl (Nat.le_of_ble_eq_true rfl) ⟨Nat.le_of_ble_eq_true rfl, Nat.le_of_ble_eq_true rfl⟩) rfl (fun _ => rfl) (fun _ => rfl) (fun _ _ => ?_)
    refine j_aload_n 0 C dX1_appendLoop_38 rfl rfl ?_
    refine j_iload 4 C dX1_appendLoop_39 rfl ?_
    refine j_iconst (v := 3) C dX1_appendLoop_41 rfl ?_
    refine j_iconst (v := 0) C dX1_appendLoop_42 rfl ?_
    refine j_callWv [0, 1] (fun _ => [(q, .inr (1, [.ref ca, .int (nI n)])), (ca, jaI g 224 (upd (upd (upd (upd f (n * 28 + 0) a) (n * 28 + 1) b) (n * 28 + 2) (jb u)) (n * 28 + 3) 0))]) C (j_runV (ci := 0) (As := [.int (nI n), .int 3, .int 0]) (rest := []) [0, 1] C (c_X1_setLoopFact l g q ca (nI n) (upd (upd (upd f (n * 28 + 0) a) (n * 28 + 1) b) (n * 28 + 2) (jb u)) n 3 0 (by omega)) gX1_appendLoop_X1_setLoopFact rfl rfl rfl hd_X1_setLoopFact ⟨Nat.le_of_ble_eq_true rfl, Nat.le_of_ble_eq_true rfl⟩ rfl rfl rfl rfl dX1_appendLoop_43 rfl (Nat.le_of_ble_eq_true rfl) ⟨Nat.le_of_ble_eq_true rfl, Nat.le_of_ble_eq_true rfl⟩) rfl (fun _ => rfl) (fun _ => rfl) (fun _ _ => ?_)
    refine j_aload_n 0 C dX1_appendLoop_46 rfl rfl ?_
    refine j_iload 4 C dX1_appendLoop_47 rfl ?_
    refine j_iconst (v := 1) C dX1_appendLoop_49 rfl ?_
    refine j_iadd (x := nI n) (y := 1) (v := nI (n + 1)) C dX1_appendLoop_50 (nI_add n 1) ?_
    refine j_put (Cn := RX1) (T := TX1) (N := 2) (ws' := [(q, .inr (1, [.ref ca, .int (nI (n + 1))])), (ca, jaI g 224 (upd (upd (upd (upd f (n * 28 + 0) a) (n * 28 + 1) b) (n * 28 + 2) (jb u)) (n * 28 + 3) 0))]) tyX1 0 1 C dX1_appendLoop_51 hin_X1_appendLoop_X1 tyX1_ok nmX1 rfl rfl (by decide) (List.mem_of_getElem? (i := 1) rfl) rfl (tyX1_ok 1 (by decide)) rfl rfl (Nat.le_of_ble_eq_true rfl) rfl ?_
    refine j_iload 4 C dX1_appendLoop_54 rfl ?_
    exact j_iretW (v := nI n) C hr dX1_appendLoop_56 () rfl rfl
set_option maxHeartbeats 4000000 in
set_option maxRecDepth 100000 in
theorem c_X1_appendStep (l : Launch) (g : jG) (q ca : Nat) (n : Int32) (f : Nat → Int32) (k j : Nat) (v0 v1 v2 v3 : Int32) (hk : k < 8) (hj : f (k * 28 + 3) = nI j) (hj6 : j < 6) : jWi l yX1_appendStep wsX1_appendStep ({ frames := 3, cells := 0, slots := 0, locals := 64 }) g [.ref q, .int (nI k), .int v0, .int v1, .int v2, .int v3] [(q, .inr (1, [.ref ca, .int n])), (ca, jaI g 224 f)] [(q, .inr (1, [.ref ca, .int n])), (ca, jaI g 224 (upd (upd (upd (upd (upd f (k * 28 + 4 + j * 4 + 0) v0) (k * 28 + 4 + j * 4 + 1) v1) (k * 28 + 4 + j * 4 + 2) v2) (k * 28 + 4 + j * 4 + 3) v3) (k * 28 + 3) (nI (j + 1))))] (nI j) := by
  refine j_enterW (Qc := fun sz_ => va_Qi (fun r (_ : Unit) => r = nI j) (fun _ t => va_P g.1 vwCl [(q, .inr (1, [.ref ca, .int n])), (ca, jaI g 224 (upd (upd (upd (upd (upd f (k * 28 + 4 + j * 4 + 0) v0) (k * 28 + 4 + j * 4 + 1) v1) (k * 28 + 4 + j * 4 + 2) v2) (k * 28 + 4 + j * 4 + 3) v3) (k * 28 + 3) (nI (j + 1))))] t.heap) (va_A [(q, .inr (1, [.ref ca, .int n])), (ca, jaI g 224 f)] sz_)) (cc := cX1_appendStep) (maxL := 8) (ret := (some .int)) (own := RX1) (L := [(0, .ref q), (1, .int (nI k)), (2, .int v0), (3, .int v1), (4, .int v2), (5, .int v3)]) (by decide) rfl rfl (Nat.le_of_ble_eq_true rfl) rfl (fun p e s m args below meth c C hr => ?_)
  refine j_aload_n 0 C dX1_appendStep_0 rfl rfl ?_
  refine j_iload_n 1 C dX1_appendStep_1 rfl rfl ?_
  refine j_callRi (v := f (k * 28 + 3)) (j_runV (ci := 0) (As := [.int (nI k)]) (rest := []) [0, 1] C (c_X1_countSteps l g q ca n f k (by omega)) gX1_appendStep_X1_countSteps rfl rfl rfl hd_X1_countSteps ⟨Nat.le_of_ble_eq_true rfl, Nat.le_of_ble_eq_true rfl⟩ rfl rfl rfl rfl dX1_appendStep_2 rfl (Nat.le_of_ble_eq_true rfl) ⟨Nat.le_of_ble_eq_true rfl, Nat.le_of_ble_eq_true rfl⟩) ?_
  refine j_eq (pc' := 5) (L' := [(0, .ref q), (1, .int (nI k)), (2, .int v0), (3, .int v1), (4, .int v2), (5, .int v3)]) (st' := [.int (nI j)]) (ws' := [(q, .inr (1, [.ref ca, .int n])), (ca, jaI g 224 f)]) ?_ rfl rfl (by rw [hj]) rfl
  refine j_istore (L' := [(0, .ref q), (1, .int (nI k)), (2, .int v0), (3, .int v1), (4, .int v2), (5, .int v3), (6, .int (nI j))]) C dX1_appendStep_5 (Nat.le_of_ble_eq_true rfl) rfl rfl ?_
  refine j_iload_n 1 C dX1_appendStep_7 rfl rfl ?_
  refine j_iload 6 C dX1_appendStep_8 rfl ?_
  refine j_callRi (v := nI (k * 28 + 4 + j * 4)) (j_runS (As := [.int (nI k), .int (nI j)]) (rest := []) [] C (c_X1_placeOf l g k j) gX1_appendStep_X1_placeOf rfl rfl rfl hd_X1_placeOf ⟨Nat.le_of_ble_eq_true rfl, Nat.le_of_ble_eq_true rfl⟩ rfl rfl dX1_appendStep_10 rfl (Nat.le_of_ble_eq_true rfl) ⟨Nat.le_of_ble_eq_true rfl, Nat.le_of_ble_eq_true rfl⟩) ?_
  refine j_istore (L' := [(0, .ref q), (1, .int (nI k)), (2, .int v0), (3, .int v1), (4, .int v2), (5, .int v3), (6, .int (nI j)), (7, .int (nI (k * 28 + 4 + j * 4)))]) C dX1_appendStep_13 (Nat.le_of_ble_eq_true rfl) rfl rfl ?_
  refine j_aload_n 0 C dX1_appendStep_15 rfl rfl ?_
  refine j_iload 7 C dX1_appendStep_16 rfl ?_
  refine j_iconst (v := 0) C dX1_appendStep_18 rfl ?_
  refine j_iadd (x := nI (k * 28 + 4 + j * 4)) (y := 0) (v := nI (k * 28 + 4 + j * 4 + 0)) C dX1_appendStep_19 (nI_add (k * 28 + 4 + j * 4) 0) ?_
  refine j_iload_n 2 C dX1_appendStep_20 rfl rfl ?_
  refine j_callWv [0, 1] (fun _ => [(q, .inr (1, [.ref ca, .int n])), (ca, jaI g 224 (upd f (k * 28 + 4 + j * 4 + 0) v0))]) C (j_runV (ci := 0) (As := [.int (nI (k * 28 + 4 + j * 4 + 0)), .int v0]) (rest := []) [0, 1] C (c_X1_write l g q ca n f (k * 28 + 4 + j * 4 + 0) v0 (by omega)) gX1_appendStep_X1_write rfl rfl rfl hd_X1_write ⟨Nat.le_of_ble_eq_true rfl, Nat.le_of_ble_eq_true rfl⟩ rfl rfl rfl rfl dX1_appendStep_21 rfl (Nat.le_of_ble_eq_true rfl) ⟨Nat.le_of_ble_eq_true rfl, Nat.le_of_ble_eq_true rfl⟩) rfl (fun _ => rfl) (fun _ => rfl) (fun _ _ => ?_)
  refine j_aload_n 0 C dX1_appendStep_24 rfl rfl ?_
  refine j_iload 7 C dX1_appendStep_25 rfl ?_
  refine j_iconst (v := 1) C dX1_appendStep_27 rfl ?_
  refine j_iadd (x := nI (k * 28 + 4 + j * 4)) (y := 1) (v := nI (k * 28 + 4 + j * 4 + 1)) C dX1_appendStep_28 (nI_add (k * 28 + 4 + j * 4) 1) ?_
  refine j_iload_n 3 C dX1_appendStep_29 rfl rfl ?_
  refine j_callWv [0, 1] (fun _ => [(q, .inr (1, [.ref ca, .int n])), (ca, jaI g 224 (upd (upd f (k * 28 + 4 + j * 4 + 0) v0) (k * 28 + 4 + j * 4 + 1) v1))]) C (j_runV (ci := 0) (As := [.int (nI (k * 28 + 4 + j * 4 + 1)), .int v1]) (rest := []) [0, 1] C (c_X1_write l g q ca n (upd f (k * 28 + 4 + j * 4 + 0) v0) (k * 28 + 4 + j * 4 + 1) v1 (by omega)) gX1_appendStep_X1_write rfl rfl rfl hd_X1_write ⟨Nat.le_of_ble_eq_true rfl, Nat.le_of_ble_eq_true rfl⟩ rfl rfl rfl rfl dX1_appendStep_30 rfl (Nat.le_of_ble_eq_true rfl) ⟨Nat.le_of_ble_eq_true rfl, Nat.le_of_ble_eq_true rfl⟩) rfl (fun _ => rfl) (fun _ => rfl) (fun _ _ => ?_)
  refine j_aload_n 0 C dX1_appendStep_33 rfl rfl ?_
  refine j_iload 7 C dX1_appendStep_34 rfl ?_
  refine j_iconst (v := 2) C dX1_appendStep_36 rfl ?_
  refine j_iadd (x := nI (k * 28 + 4 + j * 4)) (y := 2) (v := nI (k * 28 + 4 + j * 4 + 2)) C dX1_appendStep_37 (nI_add (k * 28 + 4 + j * 4) 2) ?_
  refine j_iload 4 C dX1_appendStep_38 rfl ?_
  refine j_callWv [0, 1] (fun _ => [(q, .inr (1, [.ref ca, .int n])), (ca, jaI g 224 (upd (upd (upd f (k * 28 + 4 + j * 4 + 0) v0) (k * 28 + 4 + j * 4 + 1) v1) (k * 28 + 4 + j * 4 + 2) v2))]) C (j_runV (ci := 0) (As := [.int (nI (k * 28 + 4 + j * 4 + 2)), .int v2]) (rest := []) [0, 1] C (c_X1_write l g q ca n (upd (upd f (k * 28 + 4 + j * 4 + 0) v0) (k * 28 + 4 + j * 4 + 1) v1) (k * 28 + 4 + j * 4 + 2) v2 (by omega)) gX1_appendStep_X1_write rfl rfl rfl hd_X1_write ⟨Nat.le_of_ble_eq_true rfl, Nat.le_of_ble_eq_true rfl⟩ rfl rfl rfl rfl dX1_appendStep_40 rfl (Nat.le_of_ble_eq_true rfl) ⟨Nat.le_of_ble_eq_true rfl, Nat.le_of_ble_eq_true rfl⟩) rfl (fun _ => rfl) (fun _ => rfl) (fun _ _ => ?_)
  refine j_aload_n 0 C dX1_appendStep_43 rfl rfl ?_
  refine j_iload 7 C dX1_appendStep_44 rfl ?_
  refine j_iconst (v := 3) C dX1_appendStep_46 rfl ?_
  refine j_iadd (x := nI (k * 28 + 4 + j * 4)) (y := 3) (v := nI (k * 28 + 4 + j * 4 + 3)) C dX1_appendStep_47 (nI_add (k * 28 + 4 + j * 4) 3) ?_
  refine j_iload 5 C dX1_appendStep_48 rfl ?_
  refine j_callWv [0, 1] (fun _ => [(q, .inr (1, [.ref ca, .int n])), (ca, jaI g 224 (upd (upd (upd (upd f (k * 28 + 4 + j * 4 + 0) v0) (k * 28 + 4 + j * 4 + 1) v1) (k * 28 + 4 + j * 4 + 2) v2) (k * 28 + 4 + j * 4 + 3) v3))]) C (j_runV (ci := 0) (As := [.int (nI (k * 28 + 4 + j * 4 + 3)), .int v3]) (rest := []) [0, 1] C (c_X1_write l g q ca n (upd (upd (upd f (k * 28 + 4 + j * 4 + 0) v0) (k * 28 + 4 + j * 4 + 1) v1) (k * 28 + 4 + j * 4 + 2) v2) (k * 28 + 4 + j * 4 + 3) v3 (by omega)) gX1_appendStep_X1_write rfl rfl rfl hd_X1_write ⟨Nat.le_of_ble_eq_true rfl, Nat.le_of_ble_eq_true rfl⟩ rfl rfl rfl rfl dX1_appendStep_50 rfl (Nat.le_of_ble_eq_true rfl) ⟨Nat.le_of_ble_eq_true rfl, Nat.le_of_ble_eq_true rfl⟩) rfl (fun _ => rfl) (fun _ => rfl) (fun _ _ => ?_)
  refine j_aload_n 0 C dX1_appendStep_53 rfl rfl ?_
  refine j_iload_n 1 C dX1_appendStep_54 rfl rfl ?_
  refine j_iconst (v := 3) C dX1_appendStep_55 rfl ?_
  refine j_iload 6 C dX1_appendStep_56 rfl ?_
  refine j_iconst (v := 1) C dX1_appendStep_58 rfl ?_
  refine j_iadd (x := nI j) (y := 1) (v := nI (j + 1)) C dX1_appendStep_59 (nI_add j 1) ?_
  refine j_callWv [0, 1] (fun _ => [(q, .inr (1, [.ref ca, .int n])), (ca, jaI g 224 (upd (upd (upd (upd (upd f (k * 28 + 4 + j * 4 + 0) v0) (k * 28 + 4 + j * 4 + 1) v1) (k * 28 + 4 + j * 4 + 2) v2) (k * 28 + 4 + j * 4 + 3) v3) (k * 28 + 3) (nI (j + 1))))]) C (j_runV (ci := 0) (As := [.int (nI k), .int 3, .int (nI (j + 1))]) (rest := []) [0, 1] C (c_X1_setLoopFact l g q ca n (upd (upd (upd (upd f (k * 28 + 4 + j * 4 + 0) v0) (k * 28 + 4 + j * 4 + 1) v1) (k * 28 + 4 + j * 4 + 2) v2) (k * 28 + 4 + j * 4 + 3) v3) k 3 (nI (j + 1)) (by omega)) gX1_appendStep_X1_setLoopFact rfl rfl rfl hd_X1_setLoopFact ⟨Nat.le_of_ble_eq_true rfl, Nat.le_of_ble_eq_true rfl⟩ rfl rfl rfl rfl dX1_appendStep_60 rfl (Nat.le_of_ble_eq_true rfl) ⟨Nat.le_of_ble_eq_true rfl, Nat.le_of_ble_eq_true rfl⟩) rfl (fun _ => rfl) (fun _ => rfl) (fun _ _ => ?_)
  refine j_iload 6 C dX1_appendStep_63 rfl ?_
  exact j_iretW (v := nI j) C hr dX1_appendStep_65 () rfl rfl
set_option maxHeartbeats 4000000 in
set_option maxRecDepth 100000 in
theorem c_X1_becomeLike (l : Launch) (g : jG) (q ca : Nat) (n : Int32) (f : Nat → Int32) (q2 ca2 : Nat) (n2 : Int32) (f2 : Nat → Int32)  : jWv l yX1_becomeLike wsX1_becomeLike ({ frames := 1, cells := 0, slots := 0, locals := 21 }) g [.ref q, .ref q2] [(q, .inr (1, [.ref ca, .int n])), (ca, jaI g 224 f), (q2, .inr (1, [.ref ca2, .int n2])), (ca2, jaI g 224 f2)] [(q, .inr (1, [.ref ca, .int n2])), (ca, jaI g 224 f2), (q2, .inr (1, [.ref ca2, .int n2])), (ca2, jaI g 224 f2)] := by
  refine j_enterW (Qc := fun sz_ => va_Qv (fun (_ : Unit) => True) (fun _ t => va_P g.1 vwCl [(q, .inr (1, [.ref ca, .int n2])), (ca, jaI g 224 f2), (q2, .inr (1, [.ref ca2, .int n2])), (ca2, jaI g 224 f2)] t.heap) (va_A [(q, .inr (1, [.ref ca, .int n])), (ca, jaI g 224 f), (q2, .inr (1, [.ref ca2, .int n2])), (ca2, jaI g 224 f2)] sz_)) (cc := cX1_becomeLike) (maxL := 3) (ret := none) (own := RX1) (L := [(0, .ref q), (1, .ref q2)]) (by decide) rfl rfl (Nat.le_of_ble_eq_true rfl) rfl (fun p e s m args below meth c C hr => ?_)
  refine j_iconst (v := 0) C dX1_becomeLike_0 rfl ?_
  refine j_istore_n (L' := [(0, .ref q), (1, .ref q2), (2, .int 0)]) C dX1_becomeLike_1 rfl (Nat.le_of_ble_eq_true rfl) rfl rfl ?_
  refine j_loop (σ := Nat) (fun (x : Nat) => [(0, .ref q), (1, .ref q2), (2, .int (nI x))]) (fun (x : Nat) => [(q, .inr (1, [.ref ca, .int n])), (ca, jaI g 224 (jBl f f2 x)), (q2, .inr (1, [.ref ca2, .int n2])), (ca2, jaI g 224 f2)]) (fun (x : Nat) => (x ≤ 224)) (fun (x : Nat) => 224 - x) (fun x_ hi_2 ih_1 => ?_) 0 (by omega) rfl (by rw [jBl_0])
  obtain ⟨x, hx_⟩ : ∃ z, z = x_ := ⟨_, rfl⟩
  subst hx_
  have hi_2_0 : (x ≤ 224) := hi_2
  refine j_eq (pc' := 2) (L' := [(0, .ref q), (1, .ref q2), (2, .int (nI x))]) (st' := []) (ws' := [(q, .inr (1, [.ref ca, .int n])), (ca, jaI g 224 (jBl f f2 x)), (q2, .inr (1, [.ref ca2, .int n2])), (ca2, jaI g 224 f2)]) ?_ rfl rfl rfl rfl
  refine j_iload_n 2 C dX1_becomeLike_2 rfl rfl ?_
  refine j_aload_n 0 C dX1_becomeLike_3 rfl rfl ?_
  refine j_get (Cn := RX1) (T := TX1) (N := 2) 0 0 C dX1_becomeLike_4 hin_X1_becomeLike_X1 rfl rfl (by decide) (List.mem_of_getElem? (i := 1) rfl) rfl ?_
  refine j_alenI (v := 224) 1 C dX1_becomeLike_7 rfl rfl ?_
  refine j_icmp_ge (tgt := 28) C dX1_becomeLike_8 (by decide) (fun c_3 => ?_) (fun c_3 => ?_)
  · skip
    have c_3 : 224 ≤ x := (nI_leI (a := 224) (b := x) (by omega) (by omega)).mp c_3
    refine j_arrI (f' := f2) (ws' := [(q, .inr (1, [.ref ca, .int n])), (ca, jaI g 224 f2), (q2, .inr (1, [.ref ca2, .int n2])), (ca2, jaI g 224 f2)]) 1 rfl (fun i hi => if_pos (by omega)) rfl ?_
    refine j_aload_n 0 C dX1_becomeLike_28 rfl rfl ?_
    refine j_aload_n 1 C dX1_becomeLike_29 rfl rfl ?_
    refine j_get (Cn := RX1) (T := TX1) (N := 2) 2 1 C dX1_becomeLike_30 hin_X1_becomeLike_X1 rfl rfl (by decide) (List.mem_of_getElem? (i := 2) rfl) rfl ?_
    refine j_put (Cn := RX1) (T := TX1) (N := 2) (ws' := [(q, .inr (1, [.ref ca, .int n2])), (ca, jaI g 224 f2), (q2, .inr (1, [.ref ca2, .int n2])), (ca2, jaI g 224 f2)]) tyX1 0 1 C dX1_becomeLike_33 hin_X1_becomeLike_X1 tyX1_ok nmX1 rfl rfl (by decide) (List.mem_of_getElem? (i := 2) rfl) rfl (tyX1_ok 1 (by decide)) rfl rfl (Nat.le_of_ble_eq_true rfl) rfl ?_
    exact j_vretW C hr dX1_becomeLike_36 () trivial rfl
  · skip
    have c_3 : ¬ 224 ≤ x := fun z => c_3 ((nI_leI (a := 224) (b := x) (by omega) (by omega)).mpr z)
    refine j_aload_n 0 C dX1_becomeLike_11 rfl rfl ?_
    refine j_get (Cn := RX1) (T := TX1) (N := 2) 0 0 C dX1_becomeLike_12 hin_X1_becomeLike_X1 rfl rfl (by decide) (List.mem_of_getElem? (i := 1) rfl) rfl ?_
    refine j_iload_n 2 C dX1_becomeLike_15 rfl rfl ?_
    refine j_aload_n 1 C dX1_becomeLike_16 rfl rfl ?_
    refine j_iload_n 2 C dX1_becomeLike_17 rfl rfl ?_
    refine j_callRi (v := f2 x) (j_runV (ci := 2) (As := [.int (nI x)]) (rest := [.int (nI x), .ref ca]) [2, 3] C (c_X1_read l g q2 ca2 n2 f2 x (by omega)) gX1_becomeLike_X1_read rfl rfl rfl hd_X1_read ⟨Nat.le_of_ble_eq_true rfl, Nat.le_of_ble_eq_true rfl⟩ rfl rfl rfl rfl dX1_becomeLike_18 rfl (Nat.le_of_ble_eq_true rfl) ⟨Nat.le_of_ble_eq_true rfl, Nat.le_of_ble_eq_true rfl⟩) ?_
    refine j_iastN (x := x) (ws' := [(q, .inr (1, [.ref ca, .int n])), (ca, jaI g 224 (upd (jBl f f2 x) x (f2 x))), (q2, .inr (1, [.ref ca2, .int n2])), (ca2, jaI g 224 f2)]) 1 C dX1_becomeLike_21 rfl rfl (by omega) (by decide) rfl ?_
    refine j_iinc (v := nI (x + 1)) (L' := [(0, .ref q), (1, .ref q2), (2, .int (nI (x + 1)))]) 2 C dX1_becomeLike_22 rfl (nI_add x 1) (Nat.le_of_ble_eq_true rfl) rfl rfl ?_
    refine j_goto (tgt := 2) C dX1_becomeLike_25 (by decide) ?_
    refine j_eq (pc' := 2) (L' := [(0, .ref q), (1, .ref q2), (2, .int (nI (x + 1)))]) (st' := []) (ws' := [(q, .inr (1, [.ref ca, .int n])), (ca, jaI g 224 (jBl f f2 (x + 1))), (q2, .inr (1, [.ref ca2, .int n2])), (ca2, jaI g 224 f2)]) ?_ rfl rfl rfl (by rw [jBl_s])
    exact ih_1 (x + 1) (by omega) (show 224 - (x + 1) < 224 - x from by omega)
set_option maxHeartbeats 4000000 in
set_option maxRecDepth 100000 in
theorem c_X1_copyStep (l : Launch) (g : jG) (q ca : Nat) (n : Int32) (f : Nat → Int32) (k1 j1 k2 j2 : Nat) (h1 : k1 * 28 + 4 + j1 * 4 + 4 ≤ 224) (h2 : k2 * 28 + 4 + j2 * 4 + 4 ≤ 224) (h3 : k2 * 28 + 4 + j2 * 4 ≤ k1 * 28 + 4 + j1 * 4) : jWv l yX1_copyStep wsX1_copyStep ({ frames := 1, cells := 0, slots := 0, locals := 22 }) g [.ref q, .int (nI k1), .int (nI j1), .int (nI k2), .int (nI j2)] [(q, .inr (1, [.ref ca, .int n])), (ca, jaI g 224 f)] [(q, .inr (1, [.ref ca, .int n])), (ca, jaI g 224 (va_cpy f f (k1 * 28 + 4 + j1 * 4) (k2 * 28 + 4 + j2 * 4) 4))] := by
  refine j_enterW (Qc := fun sz_ => va_Qv (fun (_ : Unit) => True) (fun _ t => va_P g.1 vwCl [(q, .inr (1, [.ref ca, .int n])), (ca, jaI g 224 (va_cpy f f (k1 * 28 + 4 + j1 * 4) (k2 * 28 + 4 + j2 * 4) 4))] t.heap) (va_A [(q, .inr (1, [.ref ca, .int n])), (ca, jaI g 224 f)] sz_)) (cc := cX1_copyStep) (maxL := 8) (ret := none) (own := RX1) (L := [(0, .ref q), (1, .int (nI k1)), (2, .int (nI j1)), (3, .int (nI k2)), (4, .int (nI j2))]) (by decide) rfl rfl (Nat.le_of_ble_eq_true rfl) rfl (fun p e s m args below meth c C hr => ?_)
  refine j_iload_n 1 C dX1_copyStep_0 rfl rfl ?_
  refine j_iload_n 2 C dX1_copyStep_1 rfl rfl ?_
  refine j_callRi (v := nI (k1 * 28 + 4 + j1 * 4)) (j_runS (As := [.int (nI k1), .int (nI j1)]) (rest := []) [] C (c_X1_placeOf l g k1 j1) gX1_copyStep_X1_placeOf rfl rfl rfl hd_X1_placeOf ⟨Nat.le_of_ble_eq_true rfl, Nat.le_of_ble_eq_true rfl⟩ rfl rfl dX1_copyStep_2 rfl (Nat.le_of_ble_eq_true rfl) ⟨Nat.le_of_ble_eq_true rfl, Nat.le_of_ble_eq_true rfl⟩) ?_
  refine j_istore (L' := [(0, .ref q), (1, .int (nI k1)), (2, .int (nI j1)), (3, .int (nI k2)), (4, .int (nI j2)), (5, .int (nI (k1 * 28 + 4 + j1 * 4)))]) C dX1_copyStep_5 (Nat.le_of_ble_eq_true rfl) rfl rfl ?_
  refine j_iload_n 3 C dX1_copyStep_7 rfl rfl ?_
  refine j_iload 4 C dX1_copyStep_8 rfl ?_
  refine j_callRi (v := nI (k2 * 28 + 4 + j2 * 4)) (j_runS (As := [.int (nI k2), .int (nI j2)]) (rest := []) [] C (c_X1_placeOf l g k2 j2) gX1_copyStep_X1_placeOf rfl rfl rfl hd_X1_placeOf ⟨Nat.le_of_ble_eq_true rfl, Nat.le_of_ble_eq_true rfl⟩ rfl rfl dX1_copyStep_10 rfl (Nat.le_of_ble_eq_true rfl) ⟨Nat.le_of_ble_eq_true rfl, Nat.le_of_ble_eq_true rfl⟩) ?_
  refine j_istore (L' := [(0, .ref q), (1, .int (nI k1)), (2, .int (nI j1)), (3, .int (nI k2)), (4, .int (nI j2)), (5, .int (nI (k1 * 28 + 4 + j1 * 4))), (6, .int (nI (k2 * 28 + 4 + j2 * 4)))]) C dX1_copyStep_13 (Nat.le_of_ble_eq_true rfl) rfl rfl ?_
  refine j_iconst (v := 0) C dX1_copyStep_15 rfl ?_
  refine j_istore (L' := [(0, .ref q), (1, .int (nI k1)), (2, .int (nI j1)), (3, .int (nI k2)), (4, .int (nI j2)), (5, .int (nI (k1 * 28 + 4 + j1 * 4))), (6, .int (nI (k2 * 28 + 4 + j2 * 4))), (7, .int 0)]) C dX1_copyStep_16 (Nat.le_of_ble_eq_true rfl) rfl rfl ?_
  refine j_loop (σ := Nat) (fun (x : Nat) => [(0, .ref q), (1, .int (nI k1)), (2, .int (nI j1)), (3, .int (nI k2)), (4, .int (nI j2)), (5, .int (nI (k1 * 28 + 4 + j1 * 4))), (6, .int (nI (k2 * 28 + 4 + j2 * 4))), (7, .int (nI x))]) (fun (x : Nat) => [(q, .inr (1, [.ref ca, .int n])), (ca, jaI g 224 (va_cpy f f (k1 * 28 + 4 + j1 * 4) (k2 * 28 + 4 + j2 * 4) x))]) (fun (x : Nat) => (x ≤ 4)) (fun (x : Nat) => 4 - x) (fun x_ hi_2 ih_1 => ?_) 0 (by omega) rfl (by rw [jcp_0])
  obtain ⟨x, hx_⟩ : ∃ z, z = x_ := ⟨_, rfl⟩
  subst hx_
  have hi_2_0 : (x ≤ 4) := hi_2
  refine j_eq (pc' := 18) (L' := [(0, .ref q), (1, .int (nI k1)), (2, .int (nI j1)), (3, .int (nI k2)), (4, .int (nI j2)), (5, .int (nI (k1 * 28 + 4 + j1 * 4))), (6, .int (nI (k2 * 28 + 4 + j2 * 4))), (7, .int (nI x))]) (st' := []) (ws' := [(q, .inr (1, [.ref ca, .int n])), (ca, jaI g 224 (va_cpy f f (k1 * 28 + 4 + j1 * 4) (k2 * 28 + 4 + j2 * 4) x))]) ?_ rfl rfl rfl rfl
  refine j_iload 7 C dX1_copyStep_18 rfl ?_
  refine j_iconst (v := 4) C dX1_copyStep_20 rfl ?_
  refine j_icmp_ge (tgt := 48) C dX1_copyStep_21 (by decide) (fun c_3 => ?_) (fun c_3 => ?_)
  · skip
    have c_3 : 4 ≤ x := (nI_leI (a := 4) (b := x) (by omega) (by omega)).mp c_3
    exact j_vretW C hr dX1_copyStep_48 () trivial (by rw [show x = 4 by omega])
  · skip
    have c_3 : ¬ 4 ≤ x := fun z => c_3 ((nI_leI (a := 4) (b := x) (by omega) (by omega)).mpr z)
    refine j_aload_n 0 C dX1_copyStep_24 rfl rfl ?_
    refine j_iload 6 C dX1_copyStep_25 rfl ?_
    refine j_iload 7 C dX1_copyStep_27 rfl ?_
    refine j_iadd (x := nI (k2 * 28 + 4 + j2 * 4)) (y := nI x) (v := nI (k2 * 28 + 4 + j2 * 4 + x)) C dX1_copyStep_29 (nI_add (k2 * 28 + 4 + j2 * 4) x) ?_
    refine j_aload_n 0 C dX1_copyStep_30 rfl rfl ?_
    refine j_iload 5 C dX1_copyStep_31 rfl ?_
    refine j_iload 7 C dX1_copyStep_33 rfl ?_
    refine j_iadd (x := nI (k1 * 28 + 4 + j1 * 4)) (y := nI x) (v := nI (k1 * 28 + 4 + j1 * 4 + x)) C dX1_copyStep_35 (nI_add (k1 * 28 + 4 + j1 * 4) x) ?_
    refine j_callRi (v := (va_cpy f f (k1 * 28 + 4 + j1 * 4) (k2 * 28 + 4 + j2 * 4) x) (k1 * 28 + 4 + j1 * 4 + x)) (j_runV (ci := 0) (As := [.int (nI (k1 * 28 + 4 + j1 * 4 + x))]) (rest := [.int (nI (k2 * 28 + 4 + j2 * 4 + x)), .ref q]) [0, 1] C (c_X1_read l g q ca n (va_cpy f f (k1 * 28 + 4 + j1 * 4) (k2 * 28 + 4 + j2 * 4) x) (k1 * 28 + 4 + j1 * 4 + x) (by omega)) gX1_copyStep_X1_read rfl rfl rfl hd_X1_read ⟨Nat.le_of_ble_eq_true rfl, Nat.le_of_ble_eq_true rfl⟩ rfl rfl rfl rfl dX1_copyStep_36 rfl (Nat.le_of_ble_eq_true rfl) ⟨Nat.le_of_ble_eq_true rfl, Nat.le_of_ble_eq_true rfl⟩) ?_
    refine j_callWv [0, 1] (fun _ => [(q, .inr (1, [.ref ca, .int n])), (ca, jaI g 224 (upd (va_cpy f f (k1 * 28 + 4 + j1 * 4) (k2 * 28 + 4 + j2 * 4) x) (k2 * 28 + 4 + j2 * 4 + x) ((va_cpy f f (k1 * 28 + 4 + j1 * 4) (k2 * 28 + 4 + j2 * 4) x) (k1 * 28 + 4 + j1 * 4 + x))))]) C (j_runV (ci := 0) (As := [.int (nI (k2 * 28 + 4 + j2 * 4 + x)), .int ((va_cpy f f (k1 * 28 + 4 + j1 * 4) (k2 * 28 + 4 + j2 * 4) x) (k1 * 28 + 4 + j1 * 4 + x))]) (rest := []) [0, 1] C (c_X1_write l g q ca n (va_cpy f f (k1 * 28 + 4 + j1 * 4) (k2 * 28 + 4 + j2 * 4) x) (k2 * 28 + 4 + j2 * 4 + x) ((va_cpy f f (k1 * 28 + 4 + j1 * 4) (k2 * 28 + 4 + j2 * 4) x) (k1 * 28 + 4 + j1 * 4 + x)) (by omega)) gX1_copyStep_X1_write rfl rfl rfl hd_X1_write ⟨Nat.le_of_ble_eq_true rfl, Nat.le_of_ble_eq_true rfl⟩ rfl rfl rfl rfl dX1_copyStep_39 rfl (Nat.le_of_ble_eq_true rfl) ⟨Nat.le_of_ble_eq_true rfl, Nat.le_of_ble_eq_true rfl⟩) rfl (fun _ => rfl) (fun _ => rfl) (fun _ _ => ?_)
    refine j_iinc (v := nI (x + 1)) (L' := [(0, .ref q), (1, .int (nI k1)), (2, .int (nI j1)), (3, .int (nI k2)), (4, .int (nI j2)), (5, .int (nI (k1 * 28 + 4 + j1 * 4))), (6, .int (nI (k2 * 28 + 4 + j2 * 4))), (7, .int (nI (x + 1)))]) 7 C dX1_copyStep_42 rfl (nI_add x 1) (Nat.le_of_ble_eq_true rfl) rfl rfl ?_
    refine j_goto (tgt := 18) C dX1_copyStep_45 (by decide) ?_
    refine j_eq (pc' := 18) (L' := [(0, .ref q), (1, .int (nI k1)), (2, .int (nI j1)), (3, .int (nI k2)), (4, .int (nI j2)), (5, .int (nI (k1 * 28 + 4 + j1 * 4))), (6, .int (nI (k2 * 28 + 4 + j2 * 4))), (7, .int (nI (x + 1)))]) (st' := []) (ws' := [(q, .inr (1, [.ref ca, .int n])), (ca, jaI g 224 (va_cpy f f (k1 * 28 + 4 + j1 * 4) (k2 * 28 + 4 + j2 * 4) (x + 1)))]) ?_ rfl rfl rfl (by rw [jcp_s f h3 rfl rfl])
    exact ih_1 (x + 1) (by omega) (show 4 - (x + 1) < 4 - x from by omega)
set_option maxHeartbeats 4000000 in
set_option maxRecDepth 100000 in
theorem c_X1_removeLoop (l : Launch) (g : jG) (q ca n : Nat) (f : Nat → Int32) (k : Nat) (hk : k < n) (hn : n ≤ 8) : jWv l yX1_removeLoop wsX1_removeLoop ({ frames := 1, cells := 0, slots := 0, locals := 22 }) g [.ref q, .int (nI k)] [(q, .inr (1, [.ref ca, .int (nI n)])), (ca, jaI g 224 f)] [(q, .inr (1, [.ref ca, .int (nI (n - 1))])), (ca, jaI g 224 (jRm f (k * 28) ((n - 1) * 28)))] := by
  refine j_enterW (Qc := fun sz_ => va_Qv (fun (_ : Unit) => True) (fun _ t => va_P g.1 vwCl [(q, .inr (1, [.ref ca, .int (nI (n - 1))])), (ca, jaI g 224 (jRm f (k * 28) ((n - 1) * 28)))] t.heap) (va_A [(q, .inr (1, [.ref ca, .int (nI n)])), (ca, jaI g 224 f)] sz_)) (cc := cX1_removeLoop) (maxL := 3) (ret := none) (own := RX1) (L := [(0, .ref q), (1, .int (nI k))]) (by decide) rfl rfl (Nat.le_of_ble_eq_true rfl) rfl (fun p e s m args below meth c C hr => ?_)
  refine j_iload_n 1 C dX1_removeLoop_0 rfl rfl ?_
  refine j_bipush (v := 28) C dX1_removeLoop_1 rfl ?_
  refine j_imul (x := nI k) (y := 28) (v := nI (k * 28)) C dX1_removeLoop_3 (pk_mul k 28) ?_
  refine j_istore_n (L' := [(0, .ref q), (1, .int (nI k)), (2, .int (nI (k * 28)))]) C dX1_removeLoop_4 rfl (Nat.le_of_ble_eq_true rfl) rfl rfl ?_
  refine j_loop (σ := Nat) (fun (x : Nat) => [(0, .ref q), (1, .int (nI k)), (2, .int (nI x))]) (fun (x : Nat) => [(q, .inr (1, [.ref ca, .int (nI n)])), (ca, jaI g 224 (jRm f (k * 28) x))]) (fun (x : Nat) => (k * 28 ≤ x) ∧ (x ≤ (n - 1) * 28)) (fun (x : Nat) => (n - 1) * 28 - x) (fun x_ hi_2 ih_1 => ?_) (k * 28) ⟨(by omega), (by omega)⟩ rfl (by rw [jRm_0])
  obtain ⟨x, hx_⟩ : ∃ z, z = x_ := ⟨_, rfl⟩
  subst hx_
  obtain ⟨hi_2_0, hi_2_1⟩ := (show (k * 28 ≤ x) ∧ (x ≤ (n - 1) * 28) from hi_2)
  refine j_eq (pc' := 5) (L' := [(0, .ref q), (1, .int (nI k)), (2, .int (nI x))]) (st' := []) (ws' := [(q, .inr (1, [.ref ca, .int (nI n)])), (ca, jaI g 224 (jRm f (k * 28) x))]) ?_ rfl rfl rfl rfl
  refine j_iload_n 2 C dX1_removeLoop_5 rfl rfl ?_
  refine j_aload_n 0 C dX1_removeLoop_6 rfl rfl ?_
  refine j_get (Cn := RX1) (T := TX1) (N := 2) 0 1 C dX1_removeLoop_7 hin_X1_removeLoop_X1 rfl rfl (by decide) (List.mem_of_getElem? (i := 1) rfl) rfl ?_
  refine j_iconst (v := 1) C dX1_removeLoop_10 rfl ?_
  refine j_isub (x := nI n) (y := 1) (v := nI (n - 1)) C dX1_removeLoop_11 (pk_sub (a := n) (b := 1) (by omega)) ?_
  refine j_bipush (v := 28) C dX1_removeLoop_12 rfl ?_
  refine j_imul (x := nI (n - 1)) (y := 28) (v := nI ((n - 1) * 28)) C dX1_removeLoop_14 (pk_mul (n - 1) 28) ?_
  refine j_icmp_ge (tgt := 37) C dX1_removeLoop_15 (by decide) (fun c_3 => ?_) (fun c_3 => ?_)
  · skip
    have c_3 : ((n - 1) * 28) ≤ x := (nI_leI (a := (n - 1) * 28) (b := x) (by omega) (by omega)).mp c_3
    refine j_aload_n 0 C dX1_removeLoop_37 rfl rfl ?_
    refine j_dup C dX1_removeLoop_38 rfl ?_
    refine j_get (Cn := RX1) (T := TX1) (N := 2) 0 1 C dX1_removeLoop_39 hin_X1_removeLoop_X1 rfl rfl (by decide) (List.mem_of_getElem? (i := 1) rfl) rfl ?_
    refine j_iconst (v := 1) C dX1_removeLoop_42 rfl ?_
    refine j_isub (x := nI n) (y := 1) (v := nI (n - 1)) C dX1_removeLoop_43 (pk_sub (a := n) (b := 1) (by omega)) ?_
    refine j_put (Cn := RX1) (T := TX1) (N := 2) (ws' := [(q, .inr (1, [.ref ca, .int (nI (n - 1))])), (ca, jaI g 224 (jRm f (k * 28) x))]) tyX1 0 1 C dX1_removeLoop_44 hin_X1_removeLoop_X1 tyX1_ok nmX1 rfl rfl (by decide) (List.mem_of_getElem? (i := 1) rfl) rfl (tyX1_ok 1 (by decide)) rfl rfl (Nat.le_of_ble_eq_true rfl) rfl ?_
    exact j_vretW C hr dX1_removeLoop_47 () trivial (by rw [show x = (n - 1) * 28 by omega])
  · skip
    have c_3 : ¬ ((n - 1) * 28) ≤ x := fun z => c_3 ((nI_leI (a := (n - 1) * 28) (b := x) (by omega) (by omega)).mpr z)
    refine j_aload_n 0 C dX1_removeLoop_18 rfl rfl ?_
    refine j_iload_n 2 C dX1_removeLoop_19 rfl rfl ?_
    refine j_aload_n 0 C dX1_removeLoop_20 rfl rfl ?_
    refine j_iload_n 2 C dX1_removeLoop_21 rfl rfl ?_
    refine j_bipush (v := 28) C dX1_removeLoop_22 rfl ?_
    refine j_iadd (x := nI x) (y := 28) (v := nI (x + 28)) C dX1_removeLoop_24 (nI_add x 28) ?_
    refine j_callRi (v := (jRm f (k * 28) x) (x + 28)) (j_runV (ci := 0) (As := [.int (nI (x + 28))]) (rest := [.int (nI x), .ref q]) [0, 1] C (c_X1_read l g q ca (nI n) (jRm f (k * 28) x) (x + 28) (by omega)) gX1_removeLoop_X1_read rfl rfl rfl hd_X1_read ⟨Nat.le_of_ble_eq_true rfl, Nat.le_of_ble_eq_true rfl⟩ rfl rfl rfl rfl dX1_removeLoop_25 rfl (Nat.le_of_ble_eq_true rfl) ⟨Nat.le_of_ble_eq_true rfl, Nat.le_of_ble_eq_true rfl⟩) ?_
    refine j_callWv [0, 1] (fun _ => [(q, .inr (1, [.ref ca, .int (nI n)])), (ca, jaI g 224 (upd (jRm f (k * 28) x) x ((jRm f (k * 28) x) (x + 28))))]) C (j_runV (ci := 0) (As := [.int (nI x), .int ((jRm f (k * 28) x) (x + 28))]) (rest := []) [0, 1] C (c_X1_write l g q ca (nI n) (jRm f (k * 28) x) x ((jRm f (k * 28) x) (x + 28)) (by omega)) gX1_removeLoop_X1_write rfl rfl rfl hd_X1_write ⟨Nat.le_of_ble_eq_true rfl, Nat.le_of_ble_eq_true rfl⟩ rfl rfl rfl rfl dX1_removeLoop_28 rfl (Nat.le_of_ble_eq_true rfl) ⟨Nat.le_of_ble_eq_true rfl, Nat.le_of_ble_eq_true rfl⟩) rfl (fun _ => rfl) (fun _ => rfl) (fun _ _ => ?_)
    refine j_iinc (v := nI (x + 1)) (L' := [(0, .ref q), (1, .int (nI k)), (2, .int (nI (x + 1)))]) 2 C dX1_removeLoop_31 rfl (nI_add x 1) (Nat.le_of_ble_eq_true rfl) rfl rfl ?_
    refine j_goto (tgt := 5) C dX1_removeLoop_34 (by decide) ?_
    refine j_eq (pc' := 5) (L' := [(0, .ref q), (1, .int (nI k)), (2, .int (nI (x + 1)))]) (st' := []) (ws' := [(q, .inr (1, [.ref ca, .int (nI n)])), (ca, jaI g 224 (jRm f (k * 28) (x + 1)))]) ?_ rfl rfl rfl (by rw [jRm_s f (by omega)])
    exact ih_1 (x + 1) ⟨(by omega), (by omega)⟩ (show (n - 1) * 28 - (x + 1) < (n - 1) * 28 - x from by omega)
set_option maxHeartbeats 4000000 in
set_option maxRecDepth 100000 in
theorem c_X1_repeatLoop (l : Launch) (g : jG) (q ca n : Nat) (f : Nat → Int32) (k : Nat) (hk : k < n) (hn : n < 8) : jWv l yX1_repeatLoop wsX1_repeatLoop ({ frames := 1, cells := 0, slots := 0, locals := 22 }) g [.ref q, .int (nI k)] [(q, .inr (1, [.ref ca, .int (nI n)])), (ca, jaI g 224 f)] [(q, .inr (1, [.ref ca, .int (nI (n + 1))])), (ca, jaI g 224 (jRp f (n * 28) (k * 28)))] := by
  refine j_enterW (Qc := fun sz_ => va_Qv (fun (_ : Unit) => True) (fun _ t => va_P g.1 vwCl [(q, .inr (1, [.ref ca, .int (nI (n + 1))])), (ca, jaI g 224 (jRp f (n * 28) (k * 28)))] t.heap) (va_A [(q, .inr (1, [.ref ca, .int (nI n)])), (ca, jaI g 224 f)] sz_)) (cc := cX1_repeatLoop) (maxL := 3) (ret := none) (own := RX1) (L := [(0, .ref q), (1, .int (nI k))]) (by decide) rfl rfl (Nat.le_of_ble_eq_true rfl) rfl (fun p e s m args below meth c C hr => ?_)
  refine j_aload_n 0 C dX1_repeatLoop_0 rfl rfl ?_
  refine j_get (Cn := RX1) (T := TX1) (N := 2) 0 1 C dX1_repeatLoop_1 hin_X1_repeatLoop_X1 rfl rfl (by decide) (List.mem_of_getElem? (i := 1) rfl) rfl ?_
  refine j_bipush (v := 28) C dX1_repeatLoop_4 rfl ?_
  refine j_imul (x := nI n) (y := 28) (v := nI (n * 28)) C dX1_repeatLoop_6 (pk_mul n 28) ?_
  refine j_iconst (v := 1) C dX1_repeatLoop_7 rfl ?_
  refine j_isub (x := nI (n * 28)) (y := 1) (v := nI (n * 28) - 1) C dX1_repeatLoop_8 rfl ?_
  refine j_istore_n (L' := [(0, .ref q), (1, .int (nI k)), (2, .int (nI (n * 28) - 1))]) C dX1_repeatLoop_9 rfl (Nat.le_of_ble_eq_true rfl) rfl rfl ?_
  refine j_loop (σ := Nat) (fun (x : Nat) => [(0, .ref q), (1, .int (nI k)), (2, .int (nI x - 1))]) (fun (x : Nat) => [(q, .inr (1, [.ref ca, .int (nI n)])), (ca, jaI g 224 (jRp f (n * 28) x))]) (fun (x : Nat) => (k * 28 ≤ x) ∧ (x ≤ n * 28)) (fun (x : Nat) => x) (fun x_ hi_2 ih_1 => ?_) (n * 28) ⟨(by omega), (by omega)⟩ rfl (by rw [jRp_0])
  obtain ⟨x, hx_⟩ : ∃ z, z = x_ := ⟨_, rfl⟩
  subst hx_
  obtain ⟨hi_2_0, hi_2_1⟩ := (show (k * 28 ≤ x) ∧ (x ≤ n * 28) from hi_2)
  refine j_eq (pc' := 10) (L' := [(0, .ref q), (1, .int (nI k)), (2, .int (nI x - 1))]) (st' := []) (ws' := [(q, .inr (1, [.ref ca, .int (nI n)])), (ca, jaI g 224 (jRp f (n * 28) x))]) ?_ rfl rfl rfl rfl
  refine j_iload_n 2 C dX1_repeatLoop_10 rfl rfl ?_
  refine j_iload_n 1 C dX1_repeatLoop_11 rfl rfl ?_
  refine j_bipush (v := 28) C dX1_repeatLoop_12 rfl ?_
  refine j_imul (x := nI k) (y := 28) (v := nI (k * 28)) C dX1_repeatLoop_14 (pk_mul k 28) ?_
  refine j_icmp_lt (tgt := 37) C dX1_repeatLoop_15 (by decide) (fun c_3 => ?_) (fun c_3 => ?_)
  · skip
    have c_3 : x ≤ k * 28 := (jm_lt (by omega) (by omega)).mp c_3
    refine j_aload_n 0 C dX1_repeatLoop_37 rfl rfl ?_
    refine j_dup C dX1_repeatLoop_38 rfl ?_
    refine j_get (Cn := RX1) (T := TX1) (N := 2) 0 1 C dX1_repeatLoop_39 hin_X1_repeatLoop_X1 rfl rfl (by decide) (List.mem_of_getElem? (i := 1) rfl) rfl ?_
    refine j_iconst (v := 1) C dX1_repeatLoop_42 rfl ?_
    refine j_iadd (x := nI n) (y := 1) (v := nI (n + 1)) C dX1_repeatLoop_43 (nI_add n 1) ?_
    refine j_put (Cn := RX1) (T := TX1) (N := 2) (ws' := [(q, .inr (1, [.ref ca, .int (nI (n + 1))])), (ca, jaI g 224 (jRp f (n * 28) x))]) tyX1 0 1 C dX1_repeatLoop_44 hin_X1_repeatLoop_X1 tyX1_ok nmX1 rfl rfl (by decide) (List.mem_of_getElem? (i := 1) rfl) rfl (tyX1_ok 1 (by decide)) rfl rfl (Nat.le_of_ble_eq_true rfl) rfl ?_
    exact j_vretW C hr dX1_repeatLoop_47 () trivial (by rw [show x = k * 28 by omega])
  · skip
    have c_3 : ¬ x ≤ k * 28 := fun z => c_3 ((jm_lt (by omega) (by omega)).mpr z)
    obtain ⟨y, rfl⟩ : ∃ y, x = y + 1 := ⟨x - 1, by omega⟩
    refine j_eq (pc' := 18) (L' := [(0, .ref q), (1, .int (nI k)), (2, .int (nI y))]) (st' := []) (ws' := [(q, .inr (1, [.ref ca, .int (nI n)])), (ca, jaI g 224 (jRp f (n * 28) (y + 1)))]) ?_ rfl (by rw [jm_s]) rfl rfl
    refine j_aload_n 0 C dX1_repeatLoop_18 rfl rfl ?_
    refine j_iload_n 2 C dX1_repeatLoop_19 rfl rfl ?_
    refine j_bipush (v := 28) C dX1_repeatLoop_20 rfl ?_
    refine j_iadd (x := nI y) (y := 28) (v := nI (y + 28)) C dX1_repeatLoop_22 (nI_add y 28) ?_
    refine j_aload_n 0 C dX1_repeatLoop_23 rfl rfl ?_
    refine j_iload_n 2 C dX1_repeatLoop_24 rfl rfl ?_
    refine j_callRi (v := (jRp f (n * 28) (y + 1)) y) (j_runV (ci := 0) (As := [.int (nI y)]) (rest := [.int (nI (y + 28)), .ref q]) [0, 1] C (c_X1_read l g q ca (nI n) (jRp f (n * 28) (y + 1)) y (by omega)) gX1_repeatLoop_X1_read rfl rfl rfl hd_X1_read ⟨Nat.le_of_ble_eq_true rfl, Nat.le_of_ble_eq_true rfl⟩ rfl rfl rfl rfl dX1_repeatLoop_25 rfl (Nat.le_of_ble_eq_true rfl) ⟨Nat.le_of_ble_eq_true rfl, Nat.le_of_ble_eq_true rfl⟩) ?_
    refine j_callWv [0, 1] (fun _ => [(q, .inr (1, [.ref ca, .int (nI n)])), (ca, jaI g 224 (upd (jRp f (n * 28) (y + 1)) (y + 28) ((jRp f (n * 28) (y + 1)) y)))]) C (j_runV (ci := 0) (As := [.int (nI (y + 28)), .int ((jRp f (n * 28) (y + 1)) y)]) (rest := []) [0, 1] C (c_X1_write l g q ca (nI n) (jRp f (n * 28) (y + 1)) (y + 28) ((jRp f (n * 28) (y + 1)) y) (by omega)) gX1_repeatLoop_X1_write rfl rfl rfl hd_X1_write ⟨Nat.le_of_ble_eq_true rfl, Nat.le_of_ble_eq_true rfl⟩ rfl rfl rfl rfl dX1_repeatLoop_28 rfl (Nat.le_of_ble_eq_true rfl) ⟨Nat.le_of_ble_eq_true rfl, Nat.le_of_ble_eq_true rfl⟩) rfl (fun _ => rfl) (fun _ => rfl) (fun _ _ => ?_)
    refine j_iinc (v := nI y - 1) (L' := [(0, .ref q), (1, .int (nI k)), (2, .int (nI y - 1))]) 2 C dX1_repeatLoop_31 rfl (jm_m1 y) (Nat.le_of_ble_eq_true rfl) rfl rfl ?_
    refine j_goto (tgt := 10) C dX1_repeatLoop_34 (by decide) ?_
    refine j_eq (pc' := 10) (L' := [(0, .ref q), (1, .int (nI k)), (2, .int (nI y - 1))]) (st' := []) (ws' := [(q, .inr (1, [.ref ca, .int (nI n)])), (ca, jaI g 224 (jRp f (n * 28) y))]) ?_ rfl rfl rfl (by rw [jRp_s f (by omega)])
    exact ih_1 y ⟨(by omega), (by omega)⟩ (show y < y + 1 from by omega)
set_option maxHeartbeats 4000000 in
set_option maxRecDepth 100000 in
theorem c_X1_swapWithNext (l : Launch) (g : jG) (q ca : Nat) (n : Int32) (f : Nat → Int32) (k : Nat) (hk : k < 7) : jWv l yX1_swapWithNext wsX1_swapWithNext ({ frames := 1, cells := 0, slots := 0, locals := 22 }) g [.ref q, .int (nI k)] [(q, .inr (1, [.ref ca, .int n])), (ca, jaI g 224 f)] [(q, .inr (1, [.ref ca, .int n])), (ca, jaI g 224 (jSw f (k * 28) (k * 28 + 28)))] := by
  refine j_enterW (Qc := fun sz_ => va_Qv (fun (_ : Unit) => True) (fun _ t => va_P g.1 vwCl [(q, .inr (1, [.ref ca, .int n])), (ca, jaI g 224 (jSw f (k * 28) (k * 28 + 28)))] t.heap) (va_A [(q, .inr (1, [.ref ca, .int n])), (ca, jaI g 224 f)] sz_)) (cc := cX1_swapWithNext) (maxL := 5) (ret := none) (own := RX1) (L := [(0, .ref q), (1, .int (nI k))]) (by decide) rfl rfl (Nat.le_of_ble_eq_true rfl) rfl (fun p e s m args below meth c C hr => ?_)
  refine j_iload_n 1 C dX1_swapWithNext_0 rfl rfl ?_
  refine j_bipush (v := 28) C dX1_swapWithNext_1 rfl ?_
  refine j_imul (x := nI k) (y := 28) (v := nI (k * 28)) C dX1_swapWithNext_3 (pk_mul k 28) ?_
  refine j_istore_n (L' := [(0, .ref q), (1, .int (nI k)), (2, .int (nI (k * 28)))]) C dX1_swapWithNext_4 rfl (Nat.le_of_ble_eq_true rfl) rfl rfl ?_
  refine j_iload_n 2 C dX1_swapWithNext_5 rfl rfl ?_
  refine j_istore_n (L' := [(0, .ref q), (1, .int (nI k)), (2, .int (nI (k * 28))), (3, .int (nI (k * 28)))]) C dX1_swapWithNext_6 rfl (Nat.le_of_ble_eq_true rfl) rfl rfl ?_
  refine j_loop (σ := Nat) (fun (x : Nat) => [(0, .ref q), (1, .int (nI k)), (2, .int (nI (k * 28))), (3, .int (nI x))]) (fun (x : Nat) => [(q, .inr (1, [.ref ca, .int n])), (ca, jaI g 224 (jSw f (k * 28) x))]) (fun (x : Nat) => (k * 28 ≤ x) ∧ (x ≤ k * 28 + 28)) (fun (x : Nat) => k * 28 + 28 - x) (fun x_ hi_2 ih_1 => ?_) (k * 28) ⟨(by omega), (by omega)⟩ rfl (by rw [jSw_0])
  obtain ⟨x, hx_⟩ : ∃ z, z = x_ := ⟨_, rfl⟩
  subst hx_
  obtain ⟨hi_2_0, hi_2_1⟩ := (show (k * 28 ≤ x) ∧ (x ≤ k * 28 + 28) from hi_2)
  refine j_eq (pc' := 7) (L' := [(0, .ref q), (1, .int (nI k)), (2, .int (nI (k * 28))), (3, .int (nI x))]) (st' := []) (ws' := [(q, .inr (1, [.ref ca, .int n])), (ca, jaI g 224 (jSw f (k * 28) x))]) ?_ rfl rfl rfl rfl
  refine j_iload_n 3 C dX1_swapWithNext_7 rfl rfl ?_
  refine j_iload_n 2 C dX1_swapWithNext_8 rfl rfl ?_
  refine j_bipush (v := 28) C dX1_swapWithNext_9 rfl ?_
  refine j_iadd (x := nI (k * 28)) (y := 28) (v := nI (k * 28 + 28)) C dX1_swapWithNext_11 (nI_add (k * 28) 28) ?_
  refine j_icmp_ge (tgt := 51) C dX1_swapWithNext_12 (by decide) (fun c_3 => ?_) (fun c_3 => ?_)
  · skip
    have c_3 : (k * 28 + 28) ≤ x := (nI_leI (a := k * 28 + 28) (b := x) (by omega) (by omega)).mp c_3
    exact j_vretW C hr dX1_swapWithNext_51 () trivial (by rw [show x = k * 28 + 28 by omega])
  · skip
    have c_3 : ¬ (k * 28 + 28) ≤ x := fun z => c_3 ((nI_leI (a := k * 28 + 28) (b := x) (by omega) (by omega)).mpr z)
    refine j_aload_n 0 C dX1_swapWithNext_15 rfl rfl ?_
    refine j_iload_n 3 C dX1_swapWithNext_16 rfl rfl ?_
    refine j_callRi (v := (jSw f (k * 28) x) x) (j_runV (ci := 0) (As := [.int (nI x)]) (rest := []) [0, 1] C (c_X1_read l g q ca n (jSw f (k * 28) x) x (by omega)) gX1_swapWithNext_X1_read rfl rfl rfl hd_X1_read ⟨Nat.le_of_ble_eq_true rfl, Nat.le_of_ble_eq_true rfl⟩ rfl rfl rfl rfl dX1_swapWithNext_17 rfl (Nat.le_of_ble_eq_true rfl) ⟨Nat.le_of_ble_eq_true rfl, Nat.le_of_ble_eq_true rfl⟩) ?_
    refine j_istore (L' := [(0, .ref q), (1, .int (nI k)), (2, .int (nI (k * 28))), (3, .int (nI x)), (4, .int ((jSw f (k * 28) x) x))]) C dX1_swapWithNext_20 (Nat.le_of_ble_eq_true rfl) rfl rfl ?_
    refine j_aload_n 0 C dX1_swapWithNext_22 rfl rfl ?_
    refine j_iload_n 3 C dX1_swapWithNext_23 rfl rfl ?_
    refine j_aload_n 0 C dX1_swapWithNext_24 rfl rfl ?_
    refine j_iload_n 3 C dX1_swapWithNext_25 rfl rfl ?_
    refine j_bipush (v := 28) C dX1_swapWithNext_26 rfl ?_
    refine j_iadd (x := nI x) (y := 28) (v := nI (x + 28)) C dX1_swapWithNext_28 (nI_add x 28) ?_
    refine j_callRi (v := (jSw f (k * 28) x) (x + 28)) (j_runV (ci := 0) (As := [.int (nI (x + 28))]) (rest := [.int (nI x), .ref q]) [0, 1] C (c_X1_read l g q ca n (jSw f (k * 28) x) (x + 28) (by omega)) gX1_swapWithNext_X1_read rfl rfl rfl hd_X1_read ⟨Nat.le_of_ble_eq_true rfl, Nat.le_of_ble_eq_true rfl⟩ rfl rfl rfl rfl dX1_swapWithNext_29 rfl (Nat.le_of_ble_eq_true rfl) ⟨Nat.le_of_ble_eq_true rfl, Nat.le_of_ble_eq_true rfl⟩) ?_
    refine j_callWv [0, 1] (fun _ => [(q, .inr (1, [.ref ca, .int n])), (ca, jaI g 224 (upd (jSw f (k * 28) x) x ((jSw f (k * 28) x) (x + 28))))]) C (j_runV (ci := 0) (As := [.int (nI x), .int ((jSw f (k * 28) x) (x + 28))]) (rest := []) [0, 1] C (c_X1_write l g q ca n (jSw f (k * 28) x) x ((jSw f (k * 28) x) (x + 28)) (by omega)) gX1_swapWithNext_X1_write rfl rfl rfl hd_X1_write ⟨Nat.le_of_ble_eq_true rfl, Nat.le_of_ble_eq_true rfl⟩ rfl rfl rfl rfl dX1_swapWithNext_32 rfl (Nat.le_of_ble_eq_true rfl) ⟨Nat.le_of_ble_eq_true rfl, Nat.le_of_ble_eq_true rfl⟩) rfl (fun _ => rfl) (fun _ => rfl) (fun _ _ => ?_)
    refine j_aload_n 0 C dX1_swapWithNext_35 rfl rfl ?_
    refine j_iload_n 3 C dX1_swapWithNext_36 rfl rfl ?_
    refine j_bipush (v := 28) C dX1_swapWithNext_37 rfl ?_
    refine j_iadd (x := nI x) (y := 28) (v := nI (x + 28)) C dX1_swapWithNext_39 (nI_add x 28) ?_
    refine j_iload 4 C dX1_swapWithNext_40 rfl ?_
    refine j_callWv [0, 1] (fun _ => [(q, .inr (1, [.ref ca, .int n])), (ca, jaI g 224 (upd (upd (jSw f (k * 28) x) x ((jSw f (k * 28) x) (x + 28))) (x + 28) ((jSw f (k * 28) x) x)))]) C (j_runV (ci := 0) (As := [.int (nI (x + 28)), .int ((jSw f (k * 28) x) x)]) (rest := []) [0, 1] C (c_X1_write l g q ca n (upd (jSw f (k * 28) x) x ((jSw f (k * 28) x) (x + 28))) (x + 28) ((jSw f (k * 28) x) x) (by omega)) gX1_swapWithNext_X1_write rfl rfl rfl hd_X1_write ⟨Nat.le_of_ble_eq_true rfl, Nat.le_of_ble_eq_true rfl⟩ rfl rfl rfl rfl dX1_swapWithNext_42 rfl (Nat.le_of_ble_eq_true rfl) ⟨Nat.le_of_ble_eq_true rfl, Nat.le_of_ble_eq_true rfl⟩) rfl (fun _ => rfl) (fun _ => rfl) (fun _ _ => ?_)
    refine j_iinc (v := nI (x + 1)) (L' := [(0, .ref q), (1, .int (nI k)), (2, .int (nI (k * 28))), (3, .int (nI (x + 1))), (4, .int ((jSw f (k * 28) x) x))]) 3 C dX1_swapWithNext_45 rfl (nI_add x 1) (Nat.le_of_ble_eq_true rfl) rfl rfl ?_
    refine j_goto (tgt := 7) C dX1_swapWithNext_48 (by decide) ?_
    refine j_pick (L' := [(0, .ref q), (1, .int (nI k)), (2, .int (nI (k * 28))), (3, .int (nI (x + 1)))]) [0, 1, 2, 3] rfl ?_
    refine j_eq (pc' := 7) (L' := [(0, .ref q), (1, .int (nI k)), (2, .int (nI (k * 28))), (3, .int (nI (x + 1)))]) (st' := []) (ws' := [(q, .inr (1, [.ref ca, .int n])), (ca, jaI g 224 (jSw f (k * 28) (x + 1)))]) ?_ rfl rfl rfl (by rw [jSw_s f (by omega) (by omega)])
    exact ih_1 (x + 1) ⟨(by omega), (by omega)⟩ (show k * 28 + 28 - (x + 1) < k * 28 + 28 - x from by omega)
set_option maxHeartbeats 4000000 in
set_option maxRecDepth 100000 in
theorem c_X1_countReachedSteps (l : Launch) (g : jG) (q ca : Nat) (n : Int32) (f : Nat → Int32) (k a : Nat) (hk : k < 8) (ha : f (k * 28 + 3) = nI a) (ha6 : a ≤ 6) : jRi l yX1_countReachedSteps wsX1_countReachedSteps ({ frames := 3, cells := 0, slots := 0, locals := 64 }) g [.ref q, .int (nI k)] [(q, .inr (1, [.ref ca, .int n])), (ca, jaI g 224 f)] (nI (jReach f k a 0)) := by
  refine j_enterR (cc := cX1_countReachedSteps) (maxL := 5) (ret := (some .int)) (own := RX1) (L := [(0, .ref q), (1, .int (nI k))]) (by decide) rfl rfl (Nat.le_of_ble_eq_true rfl) rfl (fun p e s m args below meth c C hr => ?_)
  refine j_aload_n 0 C dX1_countReachedSteps_0 rfl rfl ?_
  refine j_iload_n 1 C dX1_countReachedSteps_1 rfl rfl ?_
  refine j_callRi (v := f (k * 28 + 3)) (j_runV (ci := 0) (As := [.int (nI k)]) (rest := []) [0, 1] C (c_X1_countSteps l g q ca n f k (by omega)) gX1_countReachedSteps_X1_countSteps rfl rfl rfl hd_X1_countSteps ⟨Nat.le_of_ble_eq_true rfl, Nat.le_of_ble_eq_true rfl⟩ rfl rfl rfl rfl dX1_countReachedSteps_2 rfl (Nat.le_of_ble_eq_true rfl) ⟨Nat.le_of_ble_eq_true rfl, Nat.le_of_ble_eq_true rfl⟩) ?_
  refine j_eq (pc' := 5) (L' := [(0, .ref q), (1, .int (nI k))]) (st' := [.int (nI a)]) (ws' := [(q, .inr (1, [.ref ca, .int n])), (ca, jaI g 224 f)]) ?_ rfl rfl (by rw [ha]) rfl
  refine j_istore_n (L' := [(0, .ref q), (1, .int (nI k)), (2, .int (nI a))]) C dX1_countReachedSteps_5 rfl (Nat.le_of_ble_eq_true rfl) rfl rfl ?_
  refine j_iconst (v := 0) C dX1_countReachedSteps_6 rfl ?_
  refine j_istore_n (L' := [(0, .ref q), (1, .int (nI k)), (2, .int (nI a)), (3, .int 0)]) C dX1_countReachedSteps_7 rfl (Nat.le_of_ble_eq_true rfl) rfl rfl ?_
  refine j_loop (σ := Nat) (fun (j : Nat) => [(0, .ref q), (1, .int (nI k)), (2, .int (nI a)), (3, .int (nI j))]) (fun (j : Nat) => [(q, .inr (1, [.ref ca, .int n])), (ca, jaI g 224 f)]) (fun (j : Nat) => (j ≤ a) ∧ (jReach f k (a - j) j = jReach f k a 0)) (fun (j : Nat) => a - j) (fun x_ hi_2 ih_1 => ?_) 0 ⟨(by omega), rfl⟩ rfl rfl
  obtain ⟨j, hx_⟩ : ∃ z, z = x_ := ⟨_, rfl⟩
  subst hx_
  obtain ⟨hI0, hI1⟩ := (show (j ≤ a) ∧ (jReach f k (a - j) j = jReach f k a 0) from hi_2)
  refine j_eq (pc' := 8) (L' := [(0, .ref q), (1, .int (nI k)), (2, .int (nI a)), (3, .int (nI j))]) (st' := []) (ws' := [(q, .inr (1, [.ref ca, .int n])), (ca, jaI g 224 f)]) ?_ rfl rfl rfl rfl
  refine j_iload_n 3 C dX1_countReachedSteps_8 rfl rfl ?_
  refine j_iload_n 2 C dX1_countReachedSteps_9 rfl rfl ?_
  refine j_icmp_ge (tgt := 54) C dX1_countReachedSteps_10 (by decide) (fun c_3 => ?_) (fun c_3 => ?_)
  · skip
    have c_3 : a ≤ j := (nI_leI (a := a) (b := j) (by omega) (by omega)).mp c_3
    refine j_iload_n 2 C dX1_countReachedSteps_54 rfl rfl ?_
    exact j_iretR (v := nI a) C hr dX1_countReachedSteps_55 (by rw [← hI1, show a - j = 0 by omega]; show nI a = nI j; congr 1; omega)
  · skip
    have c_3 : ¬ a ≤ j := fun z => c_3 ((nI_leI (a := a) (b := j) (by omega) (by omega)).mpr z)
    refine j_aload_n 0 C dX1_countReachedSteps_13 rfl rfl ?_
    refine j_iload_n 1 C dX1_countReachedSteps_14 rfl rfl ?_
    refine j_iload_n 3 C dX1_countReachedSteps_15 rfl rfl ?_
    refine j_iconst (v := 2) C dX1_countReachedSteps_16 rfl ?_
    refine j_callRi (v := f (k * 28 + 4 + j * 4 + 2)) (j_runV (ci := 0) (As := [.int (nI k), .int (nI j), .int 2]) (rest := []) [0, 1] C (c_X1_stepFact l g q ca n f k j 2 (by omega)) gX1_countReachedSteps_X1_stepFact rfl rfl rfl hd_X1_stepFact ⟨Nat.le_of_ble_eq_true rfl, Nat.le_of_ble_eq_true rfl⟩ rfl rfl rfl rfl dX1_countReachedSteps_17 rfl (Nat.le_of_ble_eq_true rfl) ⟨Nat.le_of_ble_eq_true rfl, Nat.le_of_ble_eq_true rfl⟩) ?_
    refine j_istore (L' := [(0, .ref q), (1, .int (nI k)), (2, .int (nI a)), (3, .int (nI j)), (4, .int (f (k * 28 + 4 + j * 4 + 2)))]) C dX1_countReachedSteps_20 (Nat.le_of_ble_eq_true rfl) rfl rfl ?_
    refine j_aload_n 0 C dX1_countReachedSteps_22 rfl rfl ?_
    refine j_iload_n 1 C dX1_countReachedSteps_23 rfl rfl ?_
    refine j_iload_n 3 C dX1_countReachedSteps_24 rfl rfl ?_
    refine j_iconst (v := 0) C dX1_countReachedSteps_25 rfl ?_
    refine j_callRi (v := f (k * 28 + 4 + j * 4 + 0)) (j_runV (ci := 0) (As := [.int (nI k), .int (nI j), .int 0]) (rest := []) [0, 1] C (c_X1_stepFact l g q ca n f k j 0 (by omega)) gX1_countReachedSteps_X1_stepFact rfl rfl rfl hd_X1_stepFact ⟨Nat.le_of_ble_eq_true rfl, Nat.le_of_ble_eq_true rfl⟩ rfl rfl rfl rfl dX1_countReachedSteps_26 rfl (Nat.le_of_ble_eq_true rfl) ⟨Nat.le_of_ble_eq_true rfl, Nat.le_of_ble_eq_true rfl⟩) ?_
    refine j_if_ne (tgt := 48) C dX1_countReachedSteps_29 (by decide) (fun c_4 => ?_) (fun c_4 => ?_)
    · skip
      refine j_iinc (v := nI (j + 1)) (L' := [(0, .ref q), (1, .int (nI k)), (2, .int (nI a)), (3, .int (nI (j + 1))), (4, .int (f (k * 28 + 4 + j * 4 + 2)))]) 3 C dX1_countReachedSteps_48 rfl (nI_add j 1) (Nat.le_of_ble_eq_true rfl) rfl rfl ?_
      refine j_goto (tgt := 8) C dX1_countReachedSteps_51 (by decide) ?_
      refine j_pick (L' := [(0, .ref q), (1, .int (nI k)), (2, .int (nI a)), (3, .int (nI (j + 1)))]) [0, 1, 2, 3] rfl ?_
      exact ih_1 (j + 1) ⟨(by omega), (by rw [← hI1, show a - j = (a - (j + 1)) + 1 by omega, jReach_s, if_neg]; rintro ⟨q1, q2⟩; simp_all)⟩ (show a - (j + 1) < a - j from by omega)
    · skip
      refine j_iload 4 C dX1_countReachedSteps_32 rfl ?_
      refine j_iconst (v := 4) C dX1_countReachedSteps_34 rfl ?_
      refine j_icmp_eq (tgt := 44) C dX1_countReachedSteps_35 (by decide) (fun c_5 => ?_) (fun c_5 => ?_)
      · skip
        refine j_iload_n 3 C dX1_countReachedSteps_44 rfl rfl ?_
        refine j_iconst (v := 1) C dX1_countReachedSteps_45 rfl ?_
        refine j_iadd (x := nI j) (y := 1) (v := nI (j + 1)) C dX1_countReachedSteps_46 (nI_add j 1) ?_
        exact j_iretR (v := nI (j + 1)) C hr dX1_countReachedSteps_47 (by rw [← hI1, show a - j = (a - (j + 1)) + 1 by omega, jReach_s, if_pos]; constructor; assumption; first | exact Or.inl (by assumption) | exact Or.inr (by assumption))
      · skip
        refine j_iload 4 C dX1_countReachedSteps_38 rfl ?_
        refine j_iconst (v := 5) C dX1_countReachedSteps_40 rfl ?_
        refine j_icmp_ne (tgt := 48) C dX1_countReachedSteps_41 (by decide) (fun c_6 => ?_) (fun c_6 => ?_)
        · skip
          refine j_iinc (v := nI (j + 1)) (L' := [(0, .ref q), (1, .int (nI k)), (2, .int (nI a)), (3, .int (nI (j + 1))), (4, .int (f (k * 28 + 4 + j * 4 + 2)))]) 3 C dX1_countReachedSteps_48 rfl (nI_add j 1) (Nat.le_of_ble_eq_true rfl) rfl rfl ?_
          refine j_goto (tgt := 8) C dX1_countReachedSteps_51 (by decide) ?_
          refine j_pick (L' := [(0, .ref q), (1, .int (nI k)), (2, .int (nI a)), (3, .int (nI (j + 1)))]) [0, 1, 2, 3] rfl ?_
          exact ih_1 (j + 1) ⟨(by omega), (by rw [← hI1, show a - j = (a - (j + 1)) + 1 by omega, jReach_s, if_neg]; rintro ⟨q1, q2⟩; simp_all)⟩ (show a - (j + 1) < a - j from by omega)
        · skip
          refine j_iload_n 3 C dX1_countReachedSteps_44 rfl rfl ?_
          refine j_iconst (v := 1) C dX1_countReachedSteps_45 rfl ?_
          refine j_iadd (x := nI j) (y := 1) (v := nI (j + 1)) C dX1_countReachedSteps_46 (nI_add j 1) ?_
          exact j_iretR (v := nI (j + 1)) C hr dX1_countReachedSteps_47 (by rw [← hI1, show a - j = (a - (j + 1)) + 1 by omega, jReach_s, if_pos]; constructor; assumption; first | exact Or.inl (by assumption) | exact Or.inr (by assumption))
