set_option maxRecDepth 100000 in
theorem hin_X1_read_X1 : ∀ w ∈ u_ws RX1 TX1 2, w ∈ wsX1_read := fun w h => List.mem_cons_of_mem _ (by exact List.mem_append_right _ h)
set_option maxRecDepth 100000 in
theorem hin_X1_write_X1 : ∀ w ∈ u_ws RX1 TX1 2, w ∈ wsX1_write := fun w h => List.mem_cons_of_mem _ (by exact List.mem_append_right _ h)
set_option maxRecDepth 100000 in
theorem hin_X1_countLoops_X1 : ∀ w ∈ u_ws RX1 TX1 2, w ∈ wsX1_countLoops := fun w h => List.mem_cons_of_mem _ (by exact List.mem_append_right _ h)
theorem hd_X1_read : yX1_read.cls = RX1 ∧ yX1_read.cls ≠ "java/lang/invoke/MethodHandle" ∧ yX1_read.cls ≠ "java/lang/invoke/VarHandle" ∧ (parseMethodDescriptor yX1_read.desc).map (fun d => d.parameters.length) = some 1 := by decide +kernel
theorem hd_X1_loopFact : yX1_loopFact.cls = RX1 ∧ yX1_loopFact.cls ≠ "java/lang/invoke/MethodHandle" ∧ yX1_loopFact.cls ≠ "java/lang/invoke/VarHandle" ∧ (parseMethodDescriptor yX1_loopFact.desc).map (fun d => d.parameters.length) = some 2 := by decide +kernel
set_option maxRecDepth 100000 in
theorem hin_X1_stepFact_X1 : ∀ w ∈ u_ws RX1 TX1 2, w ∈ wsX1_stepFact := fun w h => List.mem_cons_of_mem _ (by exact List.mem_append_right _ h)
theorem hd_X1_write : yX1_write.cls = RX1 ∧ yX1_write.cls ≠ "java/lang/invoke/MethodHandle" ∧ yX1_write.cls ≠ "java/lang/invoke/VarHandle" ∧ (parseMethodDescriptor yX1_write.desc).map (fun d => d.parameters.length) = some 2 := by decide +kernel
set_option maxHeartbeats 4000000 in
set_option maxRecDepth 100000 in
/-- read: a cell -/
theorem c_X1_read (l : Launch) (g : jG) (q ca : Nat) (n : Int32) (f : Nat → Int32) (x : Nat) (hx : x < 224) : jRi l yX1_read wsX1_read ({ frames := 0, cells := 0, slots := 0, locals := 0 }) g [.ref q, .int (nI x)] [(q, .inr (1, [.ref ca, .int n])), (ca, jaI g 224 f)] (f x) := by
  refine j_enterR (cc := cX1_read) (maxL := 2) (ret := (some .int)) (own := RX1) (L := [(0, .ref q), (1, .int (nI x))]) (by decide) rfl rfl (Nat.le_of_ble_eq_true rfl) rfl (fun p e s m args below meth c C hr => ?_)
  refine j_iload_n 1 C dX1_read_0 rfl rfl ?_
  refine j_if_lt (tgt := 22) C dX1_read_1 (by decide) (fun c_1 => ?_) (fun c_1 => ?_)
  · skip
    have c_1 : x < 0 := (nI_ltI (a := x) (b := 0) (by omega) (by omega)).mp c_1
    exact absurd c_1 (by omega)
  · skip
    have c_1 : ¬ x < 0 := fun z => c_1 ((nI_ltI (a := x) (b := 0) (by omega) (by omega)).mpr z)
    refine j_iload_n 1 C dX1_read_4 rfl rfl ?_
    refine j_aload_n 0 C dX1_read_5 rfl rfl ?_
    refine j_get (Cn := RX1) (T := TX1) (N := 2) 0 0 C dX1_read_6 hin_X1_read_X1 rfl rfl (by decide) (List.mem_of_getElem? (i := 1) rfl) rfl ?_
    refine j_alenI (v := 224) 1 C dX1_read_9 rfl rfl ?_
    refine j_icmp_ge (tgt := 22) C dX1_read_10 (by decide) (fun c_2 => ?_) (fun c_2 => ?_)
    · skip
      have c_2 : 224 ≤ x := (nI_leI (a := 224) (b := x) (by omega) (by omega)).mp c_2
      exact absurd c_2 (by omega)
    · skip
      have c_2 : ¬ 224 ≤ x := fun z => c_2 ((nI_leI (a := 224) (b := x) (by omega) (by omega)).mpr z)
      refine j_aload_n 0 C dX1_read_13 rfl rfl ?_
      refine j_get (Cn := RX1) (T := TX1) (N := 2) 0 0 C dX1_read_14 hin_X1_read_X1 rfl rfl (by decide) (List.mem_of_getElem? (i := 1) rfl) rfl ?_
      refine j_iload_n 1 C dX1_read_17 rfl rfl ?_
      refine j_ialdN (x := x) 1 C dX1_read_18 rfl rfl (by omega) (by decide) ?_
      refine j_goto (tgt := 23) C dX1_read_19 (by decide) ?_
      exact j_iretR (v := f x) C hr dX1_read_23 rfl
set_option maxHeartbeats 4000000 in
set_option maxRecDepth 100000 in
/-- write: a cell -/
theorem c_X1_write (l : Launch) (g : jG) (q ca : Nat) (n : Int32) (f : Nat → Int32) (x : Nat) (v : Int32) (hx : x < 224) : jWv l yX1_write wsX1_write ({ frames := 0, cells := 0, slots := 0, locals := 0 }) g [.ref q, .int (nI x), .int v] [(q, .inr (1, [.ref ca, .int n])), (ca, jaI g 224 f)] [(q, .inr (1, [.ref ca, .int n])), (ca, jaI g 224 (upd f x v))] := by
  refine j_enterW (Qc := fun sz_ => va_Qv (fun (_ : Unit) => True) (fun _ t => va_P g.1 vwCl [(q, .inr (1, [.ref ca, .int n])), (ca, jaI g 224 (upd f x v))] t.heap) (va_A [(q, .inr (1, [.ref ca, .int n])), (ca, jaI g 224 f)] sz_)) (cc := cX1_write) (maxL := 3) (ret := none) (own := RX1) (L := [(0, .ref q), (1, .int (nI x)), (2, .int v)]) (by decide) rfl rfl (Nat.le_of_ble_eq_true rfl) rfl (fun p e s m args below meth c C hr => ?_)
  refine j_iload_n 1 C dX1_write_0 rfl rfl ?_
  refine j_if_lt (tgt := 20) C dX1_write_1 (by decide) (fun c_1 => ?_) (fun c_1 => ?_)
  · skip
    have c_1 : x < 0 := (nI_ltI (a := x) (b := 0) (by omega) (by omega)).mp c_1
    exact absurd c_1 (by omega)
  · skip
    have c_1 : ¬ x < 0 := fun z => c_1 ((nI_ltI (a := x) (b := 0) (by omega) (by omega)).mpr z)
    refine j_iload_n 1 C dX1_write_4 rfl rfl ?_
    refine j_aload_n 0 C dX1_write_5 rfl rfl ?_
    refine j_get (Cn := RX1) (T := TX1) (N := 2) 0 0 C dX1_write_6 hin_X1_write_X1 rfl rfl (by decide) (List.mem_of_getElem? (i := 1) rfl) rfl ?_
    refine j_alenI (v := 224) 1 C dX1_write_9 rfl rfl ?_
    refine j_icmp_ge (tgt := 20) C dX1_write_10 (by decide) (fun c_2 => ?_) (fun c_2 => ?_)
    · skip
      have c_2 : 224 ≤ x := (nI_leI (a := 224) (b := x) (by omega) (by omega)).mp c_2
      exact absurd c_2 (by omega)
    · skip
      have c_2 : ¬ 224 ≤ x := fun z => c_2 ((nI_leI (a := 224) (b := x) (by omega) (by omega)).mpr z)
      refine j_aload_n 0 C dX1_write_13 rfl rfl ?_
      refine j_get (Cn := RX1) (T := TX1) (N := 2) 0 0 C dX1_write_14 hin_X1_write_X1 rfl rfl (by decide) (List.mem_of_getElem? (i := 1) rfl) rfl ?_
      refine j_iload_n 1 C dX1_write_17 rfl rfl ?_
      refine j_iload_n 2 C dX1_write_18 rfl rfl ?_
      refine j_iastN (x := x) (ws' := [(q, .inr (1, [.ref ca, .int n])), (ca, jaI g 224 (upd f x v))]) 1 C dX1_write_19 rfl rfl (by omega) (by decide) rfl ?_
      exact j_vretW C hr dX1_write_20 () trivial rfl
set_option maxHeartbeats 4000000 in
set_option maxRecDepth 100000 in
theorem c_X1_placeOf (l : Launch) (g : jG) (a b : Nat)  : jRi l yX1_placeOf wsX1_placeOf ({ frames := 0, cells := 0, slots := 0, locals := 0 }) g [.int (nI a), .int (nI b)] [] (nI (a * 28 + 4 + b * 4)) := by
  refine j_enterR (cc := cX1_placeOf) (maxL := 2) (ret := (some .int)) (own := RX1) (L := [(0, .int (nI a)), (1, .int (nI b))]) (by decide) rfl rfl (Nat.le_of_ble_eq_true rfl) rfl (fun p e s m args below meth c C hr => ?_)
  refine j_iload_n 0 C dX1_placeOf_0 rfl rfl ?_
  refine j_bipush (v := 28) C dX1_placeOf_1 rfl ?_
  refine j_imul (x := nI a) (y := 28) (v := nI (a * 28)) C dX1_placeOf_3 (pk_mul a 28) ?_
  refine j_iconst (v := 4) C dX1_placeOf_4 rfl ?_
  refine j_iadd (x := nI (a * 28)) (y := 4) (v := nI (a * 28 + 4)) C dX1_placeOf_5 (nI_add (a * 28) 4) ?_
  refine j_iload_n 1 C dX1_placeOf_6 rfl rfl ?_
  refine j_iconst (v := 4) C dX1_placeOf_7 rfl ?_
  refine j_imul (x := nI b) (y := 4) (v := nI (b * 4)) C dX1_placeOf_8 (pk_mul b 4) ?_
  refine j_iadd (x := nI (a * 28 + 4)) (y := nI (b * 4)) (v := nI (a * 28 + 4 + b * 4)) C dX1_placeOf_9 (nI_add (a * 28 + 4) (b * 4)) ?_
  exact j_iretR (v := nI (a * 28 + 4 + b * 4)) C hr dX1_placeOf_10 rfl
set_option maxHeartbeats 4000000 in
set_option maxRecDepth 100000 in
theorem c_X1_countLoops (l : Launch) (g : jG) (q ca : Nat) (n : Int32) (f : Nat → Int32)  : jRi l yX1_countLoops wsX1_countLoops ({ frames := 0, cells := 0, slots := 0, locals := 0 }) g [.ref q] [(q, .inr (1, [.ref ca, .int n])), (ca, jaI g 224 f)] n := by
  refine j_enterR (cc := cX1_countLoops) (maxL := 1) (ret := (some .int)) (own := RX1) (L := [(0, .ref q)]) (by decide) rfl rfl (Nat.le_of_ble_eq_true rfl) rfl (fun p e s m args below meth c C hr => ?_)
  refine j_aload_n 0 C dX1_countLoops_0 rfl rfl ?_
  refine j_get (Cn := RX1) (T := TX1) (N := 2) 0 1 C dX1_countLoops_1 hin_X1_countLoops_X1 rfl rfl (by decide) (List.mem_of_getElem? (i := 1) rfl) rfl ?_
  exact j_iretR (v := n) C hr dX1_countLoops_4 rfl
set_option maxHeartbeats 4000000 in
set_option maxRecDepth 100000 in
theorem c_X1_loopFact (l : Launch) (g : jG) (q ca : Nat) (n : Int32) (f : Nat → Int32) (k w : Nat) (hx : k * 28 + w < 224) : jRi l yX1_loopFact wsX1_loopFact ({ frames := 1, cells := 0, slots := 0, locals := 21 }) g [.ref q, .int (nI k), .int (nI w)] [(q, .inr (1, [.ref ca, .int n])), (ca, jaI g 224 f)] (f (k * 28 + w)) := by
  refine j_enterR (cc := cX1_loopFact) (maxL := 3) (ret := (some .int)) (own := RX1) (L := [(0, .ref q), (1, .int (nI k)), (2, .int (nI w))]) (by decide) rfl rfl (Nat.le_of_ble_eq_true rfl) rfl (fun p e s m args below meth c C hr => ?_)
  refine j_aload_n 0 C dX1_loopFact_0 rfl rfl ?_
  refine j_iload_n 1 C dX1_loopFact_1 rfl rfl ?_
  refine j_bipush (v := 28) C dX1_loopFact_2 rfl ?_
  refine j_imul (x := nI k) (y := 28) (v := nI (k * 28)) C dX1_loopFact_4 (pk_mul k 28) ?_
  refine j_iload_n 2 C dX1_loopFact_5 rfl rfl ?_
  refine j_iadd (x := nI (k * 28)) (y := nI w) (v := nI (k * 28 + w)) C dX1_loopFact_6 (nI_add (k * 28) w) ?_
  refine j_callRi (v := f (k * 28 + w)) (j_runV (ci := 0) (As := [.int (nI (k * 28 + w))]) (rest := []) [0, 1] C (c_X1_read l g q ca n f (k * 28 + w) (by omega)) gX1_loopFact_X1_read rfl rfl rfl hd_X1_read ⟨Nat.le_of_ble_eq_true rfl, Nat.le_of_ble_eq_true rfl⟩ rfl rfl rfl rfl dX1_loopFact_7 rfl (Nat.le_of_ble_eq_true rfl) ⟨Nat.le_of_ble_eq_true rfl, Nat.le_of_ble_eq_true rfl⟩) ?_
  exact j_iretR (v := f (k * 28 + w)) C hr dX1_loopFact_10 rfl
set_option maxHeartbeats 4000000 in
set_option maxRecDepth 100000 in
theorem c_X1_countSteps (l : Launch) (g : jG) (q ca : Nat) (n : Int32) (f : Nat → Int32) (k : Nat) (hx : k < 8) : jRi l yX1_countSteps wsX1_countSteps ({ frames := 2, cells := 0, slots := 0, locals := 43 }) g [.ref q, .int (nI k)] [(q, .inr (1, [.ref ca, .int n])), (ca, jaI g 224 f)] (f (k * 28 + 3)) := by
  refine j_enterR (cc := cX1_countSteps) (maxL := 2) (ret := (some .int)) (own := RX1) (L := [(0, .ref q), (1, .int (nI k))]) (by decide) rfl rfl (Nat.le_of_ble_eq_true rfl) rfl (fun p e s m args below meth c C hr => ?_)
  refine j_aload_n 0 C dX1_countSteps_0 rfl rfl ?_
  refine j_iload_n 1 C dX1_countSteps_1 rfl rfl ?_
  refine j_iconst (v := 3) C dX1_countSteps_2 rfl ?_
  refine j_callRi (v := f (k * 28 + 3)) (j_runV (ci := 0) (As := [.int (nI k), .int 3]) (rest := []) [0, 1] C (c_X1_loopFact l g q ca n f k 3 (by omega)) gX1_countSteps_X1_loopFact rfl rfl rfl hd_X1_loopFact ⟨Nat.le_of_ble_eq_true rfl, Nat.le_of_ble_eq_true rfl⟩ rfl rfl rfl rfl dX1_countSteps_3 rfl (Nat.le_of_ble_eq_true rfl) ⟨Nat.le_of_ble_eq_true rfl, Nat.le_of_ble_eq_true rfl⟩) ?_
  exact j_iretR (v := f (k * 28 + 3)) C hr dX1_countSteps_6 rfl
set_option maxHeartbeats 4000000 in
set_option maxRecDepth 100000 in
theorem c_X1_stepFact (l : Launch) (g : jG) (q ca : Nat) (n : Int32) (f : Nat → Int32) (k j w : Nat) (hx : k * 28 + 4 + j * 4 + w < 224) : jRi l yX1_stepFact wsX1_stepFact ({ frames := 0, cells := 0, slots := 0, locals := 0 }) g [.ref q, .int (nI k), .int (nI j), .int (nI w)] [(q, .inr (1, [.ref ca, .int n])), (ca, jaI g 224 f)] (f (k * 28 + 4 + j * 4 + w)) := by
  refine j_enterR (cc := cX1_stepFact) (maxL := 5) (ret := (some .int)) (own := RX1) (L := [(0, .ref q), (1, .int (nI k)), (2, .int (nI j)), (3, .int (nI w))]) (by decide) rfl rfl (Nat.le_of_ble_eq_true rfl) rfl (fun p e s m args below meth c C hr => ?_)
  refine j_iload_n 1 C dX1_stepFact_0 rfl rfl ?_
  refine j_bipush (v := 28) C dX1_stepFact_1 rfl ?_
  refine j_imul (x := nI k) (y := 28) (v := nI (k * 28)) C dX1_stepFact_3 (pk_mul k 28) ?_
  refine j_iconst (v := 4) C dX1_stepFact_4 rfl ?_
  refine j_iadd (x := nI (k * 28)) (y := 4) (v := nI (k * 28 + 4)) C dX1_stepFact_5 (nI_add (k * 28) 4) ?_
  refine j_iload_n 2 C dX1_stepFact_6 rfl rfl ?_
  refine j_iconst (v := 4) C dX1_stepFact_7 rfl ?_
  refine j_imul (x := nI j) (y := 4) (v := nI (j * 4)) C dX1_stepFact_8 (pk_mul j 4) ?_
  refine j_iadd (x := nI (k * 28 + 4)) (y := nI (j * 4)) (v := nI (k * 28 + 4 + j * 4)) C dX1_stepFact_9 (nI_add (k * 28 + 4) (j * 4)) ?_
  refine j_iload_n 3 C dX1_stepFact_10 rfl rfl ?_
  refine j_iadd (x := nI (k * 28 + 4 + j * 4)) (y := nI w) (v := nI (k * 28 + 4 + j * 4 + w)) C dX1_stepFact_11 (nI_add (k * 28 + 4 + j * 4) w) ?_
  refine j_istore (L' := [(0, .ref q), (1, .int (nI k)), (2, .int (nI j)), (3, .int (nI w)), (4, .int (nI (k * 28 + 4 + j * 4 + w)))]) C dX1_stepFact_12 (Nat.le_of_ble_eq_true rfl) rfl rfl ?_
  refine j_iload 4 C dX1_stepFact_14 rfl ?_
  refine j_if_lt (tgt := 39) C dX1_stepFact_16 (by decide) (fun c_1 => ?_) (fun c_1 => ?_)
  · skip
    have c_1 : (k * 28 + 4 + j * 4 + w) < 0 := (nI_ltI (a := k * 28 + 4 + j * 4 + w) (b := 0) (by omega) (by omega)).mp c_1
    exact absurd c_1 (by omega)
  · skip
    have c_1 : ¬ (k * 28 + 4 + j * 4 + w) < 0 := fun z => c_1 ((nI_ltI (a := k * 28 + 4 + j * 4 + w) (b := 0) (by omega) (by omega)).mpr z)
    refine j_iload 4 C dX1_stepFact_19 rfl ?_
    refine j_aload_n 0 C dX1_stepFact_21 rfl rfl ?_
    refine j_get (Cn := RX1) (T := TX1) (N := 2) 0 0 C dX1_stepFact_22 hin_X1_stepFact_X1 rfl rfl (by decide) (List.mem_of_getElem? (i := 1) rfl) rfl ?_
    refine j_alenI (v := 224) 1 C dX1_stepFact_25 rfl rfl ?_
    refine j_icmp_ge (tgt := 39) C dX1_stepFact_26 (by decide) (fun c_2 => ?_) (fun c_2 => ?_)
    · skip
      have c_2 : 224 ≤ (k * 28 + 4 + j * 4 + w) := (nI_leI (a := 224) (b := k * 28 + 4 + j * 4 + w) (by omega) (by omega)).mp c_2
      exact absurd c_2 (by omega)
    · skip
      have c_2 : ¬ 224 ≤ (k * 28 + 4 + j * 4 + w) := fun z => c_2 ((nI_leI (a := 224) (b := k * 28 + 4 + j * 4 + w) (by omega) (by omega)).mpr z)
      refine j_aload_n 0 C dX1_stepFact_29 rfl rfl ?_
      refine j_get (Cn := RX1) (T := TX1) (N := 2) 0 0 C dX1_stepFact_30 hin_X1_stepFact_X1 rfl rfl (by decide) (List.mem_of_getElem? (i := 1) rfl) rfl ?_
      refine j_iload 4 C dX1_stepFact_33 rfl ?_
      refine j_ialdN (x := k * 28 + 4 + j * 4 + w) 1 C dX1_stepFact_35 rfl rfl (by omega) (by decide) ?_
      refine j_goto (tgt := 40) C dX1_stepFact_36 (by decide) ?_
      exact j_iretR (v := f (k * 28 + 4 + j * 4 + w)) C hr dX1_stepFact_40 rfl
set_option maxHeartbeats 4000000 in
set_option maxRecDepth 100000 in
theorem c_X1_setLoopFact (l : Launch) (g : jG) (q ca : Nat) (n : Int32) (f : Nat → Int32) (k w : Nat) (v : Int32) (hx : k * 28 + w < 224) : jWv l yX1_setLoopFact wsX1_setLoopFact ({ frames := 1, cells := 0, slots := 0, locals := 22 }) g [.ref q, .int (nI k), .int (nI w), .int v] [(q, .inr (1, [.ref ca, .int n])), (ca, jaI g 224 f)] [(q, .inr (1, [.ref ca, .int n])), (ca, jaI g 224 (upd f (k * 28 + w) v))] := by
  refine j_enterW (Qc := fun sz_ => va_Qv (fun (_ : Unit) => True) (fun _ t => va_P g.1 vwCl [(q, .inr (1, [.ref ca, .int n])), (ca, jaI g 224 (upd f (k * 28 + w) v))] t.heap) (va_A [(q, .inr (1, [.ref ca, .int n])), (ca, jaI g 224 f)] sz_)) (cc := cX1_setLoopFact) (maxL := 4) (ret := none) (own := RX1) (L := [(0, .ref q), (1, .int (nI k)), (2, .int (nI w)), (3, .int v)]) (by decide) rfl rfl (Nat.le_of_ble_eq_true rfl) rfl (fun p e s m args below meth c C hr => ?_)
  refine j_aload_n 0 C dX1_setLoopFact_0 rfl rfl ?_
  refine j_iload_n 1 C dX1_setLoopFact_1 rfl rfl ?_
  refine j_bipush (v := 28) C dX1_setLoopFact_2 rfl ?_
  refine j_imul (x := nI k) (y := 28) (v := nI (k * 28)) C dX1_setLoopFact_4 (pk_mul k 28) ?_
  refine j_iload_n 2 C dX1_setLoopFact_5 rfl rfl ?_
  refine j_iadd (x := nI (k * 28)) (y := nI w) (v := nI (k * 28 + w)) C dX1_setLoopFact_6 (nI_add (k * 28) w) ?_
  refine j_iload_n 3 C dX1_setLoopFact_7 rfl rfl ?_
  refine j_callWv [0, 1] (fun _ => [(q, .inr (1, [.ref ca, .int n])), (ca, jaI g 224 (upd f (k * 28 + w) v))]) C (j_runV (ci := 0) (As := [.int (nI (k * 28 + w)), .int v]) (rest := []) [0, 1] C (c_X1_write l g q ca n f (k * 28 + w) v (by omega)) gX1_setLoopFact_X1_write rfl rfl rfl hd_X1_write ⟨Nat.le_of_ble_eq_true rfl, Nat.le_of_ble_eq_true rfl⟩ rfl rfl rfl rfl dX1_setLoopFact_8 rfl (Nat.le_of_ble_eq_true rfl) ⟨Nat.le_of_ble_eq_true rfl, Nat.le_of_ble_eq_true rfl⟩) rfl (fun _ => rfl) (fun _ => rfl) (fun _ _ => ?_)
  exact j_vretW C hr dX1_setLoopFact_11 () trivial rfl
