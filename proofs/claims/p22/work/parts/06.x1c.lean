theorem hd_X1_removeLoop : yX1_removeLoop.cls = RX1 ∧ yX1_removeLoop.cls ≠ "java/lang/invoke/MethodHandle" ∧ yX1_removeLoop.cls ≠ "java/lang/invoke/VarHandle" ∧ (parseMethodDescriptor yX1_removeLoop.desc).map (fun d => d.parameters.length) = some 1 := by decide +kernel
theorem hd_X1_copyStep : yX1_copyStep.cls = RX1 ∧ yX1_copyStep.cls ≠ "java/lang/invoke/MethodHandle" ∧ yX1_copyStep.cls ≠ "java/lang/invoke/VarHandle" ∧ (parseMethodDescriptor yX1_copyStep.desc).map (fun d => d.parameters.length) = some 4 := by decide +kernel
theorem hd_X1_repeatLoop : yX1_repeatLoop.cls = RX1 ∧ yX1_repeatLoop.cls ≠ "java/lang/invoke/MethodHandle" ∧ yX1_repeatLoop.cls ≠ "java/lang/invoke/VarHandle" ∧ (parseMethodDescriptor yX1_repeatLoop.desc).map (fun d => d.parameters.length) = some 1 := by decide +kernel
set_option maxHeartbeats 4000000 in
set_option maxRecDepth 100000 in
theorem c_X1_joinWithNext (l : Launch) (g : jG) (q ca n : Nat) (f : Nat → Int32) (k a b : Nat) (hk : k + 1 < n) (hn : n ≤ 8) (ha : f (k * 28 + 3) = nI a) (hb : f ((k + 1) * 28 + 3) = nI b) (hab : a + b ≤ 6) : jWv l yX1_joinWithNext wsX1_joinWithNext ({ frames := 3, cells := 0, slots := 0, locals := 64 }) g [.ref q, .int (nI k)] [(q, .inr (1, [.ref ca, .int (nI n)])), (ca, jaI g 224 f)] [(q, .inr (1, [.ref ca, .int (nI (n - 1))])), (ca, jaI g 224 (jRm (upd (va_cpy f f ((k + 1) * 28 + 4) (k * 28 + 4 + a * 4) (b * 4)) (k * 28 + 3) (nI (a + b))) ((k + 1) * 28) ((n - 1) * 28)))] := by
  refine j_enterW (Qc := fun sz_ => va_Qv (fun (_ : Unit) => True) (fun _ t => va_P g.1 vwCl [(q, .inr (1, [.ref ca, .int (nI (n - 1))])), (ca, jaI g 224 (jRm (upd (va_cpy f f ((k + 1) * 28 + 4) (k * 28 + 4 + a * 4) (b * 4)) (k * 28 + 3) (nI (a + b))) ((k + 1) * 28) ((n - 1) * 28)))] t.heap) (va_A [(q, .inr (1, [.ref ca, .int (nI n)])), (ca, jaI g 224 f)] sz_)) (cc := cX1_joinWithNext) (maxL := 5) (ret := none) (own := RX1) (L := [(0, .ref q), (1, .int (nI k))]) (by decide) rfl rfl (Nat.le_of_ble_eq_true rfl) rfl (fun p e s m args below meth c C hr => ?_)
  refine j_aload_n 0 C dX1_joinWithNext_0 rfl rfl ?_
  refine j_iload_n 1 C dX1_joinWithNext_1 rfl rfl ?_
  refine j_callRi (v := f (k * 28 + 3)) (j_runV (ci := 0) (As := [.int (nI k)]) (rest := []) [0, 1] C (c_X1_countSteps l g q ca (nI n) f k (by omega)) gX1_joinWithNext_X1_countSteps rfl rfl rfl hd_X1_countSteps ⟨Nat.le_of_ble_eq_true rfl, Nat.le_of_ble_eq_true rfl⟩ rfl rfl rfl rfl dX1_joinWithNext_2 rfl (Nat.le_of_ble_eq_true rfl) ⟨Nat.le_of_ble_eq_true rfl, Nat.le_of_ble_eq_true rfl⟩) ?_
  refine j_eq (pc' := 5) (L' := [(0, .ref q), (1, .int (nI k))]) (st' := [.int (nI a)]) (ws' := [(q, .inr (1, [.ref ca, .int (nI n)])), (ca, jaI g 224 f)]) ?_ rfl rfl (by rw [ha]) rfl
  refine j_istore_n (L' := [(0, .ref q), (1, .int (nI k)), (2, .int (nI a))]) C dX1_joinWithNext_5 rfl (Nat.le_of_ble_eq_true rfl) rfl rfl ?_
  refine j_aload_n 0 C dX1_joinWithNext_6 rfl rfl ?_
  refine j_iload_n 1 C dX1_joinWithNext_7 rfl rfl ?_
  refine j_iconst (v := 1) C dX1_joinWithNext_8 rfl ?_
  refine j_iadd (x := nI k) (y := 1) (v := nI (k + 1)) C dX1_joinWithNext_9 (nI_add k 1) ?_
  refine j_callRi (v := f ((k + 1) * 28 + 3)) (j_runV (ci := 0) (As := [.int (nI (k + 1))]) (rest := []) [0, 1] C (c_X1_countSteps l g q ca (nI n) f (k + 1) (by omega)) gX1_joinWithNext_X1_countSteps rfl rfl rfl hd_X1_countSteps ⟨Nat.le_of_ble_eq_true rfl, Nat.le_of_ble_eq_true rfl⟩ rfl rfl rfl rfl dX1_joinWithNext_10 rfl (Nat.le_of_ble_eq_true rfl) ⟨Nat.le_of_ble_eq_true rfl, Nat.le_of_ble_eq_true rfl⟩) ?_
  refine j_eq (pc' := 13) (L' := [(0, .ref q), (1, .int (nI k)), (2, .int (nI a))]) (st' := [.int (nI b)]) (ws' := [(q, .inr (1, [.ref ca, .int (nI n)])), (ca, jaI g 224 f)]) ?_ rfl rfl (by rw [hb]) rfl
  refine j_istore_n (L' := [(0, .ref q), (1, .int (nI k)), (2, .int (nI a)), (3, .int (nI b))]) C dX1_joinWithNext_13 rfl (Nat.le_of_ble_eq_true rfl) rfl rfl ?_
  refine j_iconst (v := 0) C dX1_joinWithNext_14 rfl ?_
  refine j_istore (L' := [(0, .ref q), (1, .int (nI k)), (2, .int (nI a)), (3, .int (nI b)), (4, .int 0)]) C dX1_joinWithNext_15 (Nat.le_of_ble_eq_true rfl) rfl rfl ?_
  refine j_loop (σ := Nat) (fun (x : Nat) => [(0, .ref q), (1, .int (nI k)), (2, .int (nI a)), (3, .int (nI b)), (4, .int (nI x))]) (fun (x : Nat) => [(q, .inr (1, [.ref ca, .int (nI n)])), (ca, jaI g 224 (va_cpy f f ((k + 1) * 28 + 4) (k * 28 + 4 + a * 4) (x * 4)))]) (fun (x : Nat) => (x ≤ b)) (fun (x : Nat) => b - x) (fun x_ hi_2 ih_1 => ?_) 0 (by omega) rfl (by rw [Nat.zero_mul, jcp_0])
  obtain ⟨x, hx_⟩ : ∃ z, z = x_ := ⟨_, rfl⟩
  subst hx_
  have hi_2_0 : (x ≤ b) := hi_2
  refine j_eq (pc' := 17) (L' := [(0, .ref q), (1, .int (nI k)), (2, .int (nI a)), (3, .int (nI b)), (4, .int (nI x))]) (st' := []) (ws' := [(q, .inr (1, [.ref ca, .int (nI n)])), (ca, jaI g 224 (va_cpy f f ((k + 1) * 28 + 4) (k * 28 + 4 + a * 4) (x * 4)))]) ?_ rfl rfl rfl rfl
  refine j_iload 4 C dX1_joinWithNext_17 rfl ?_
  refine j_iload_n 3 C dX1_joinWithNext_19 rfl rfl ?_
  refine j_icmp_ge (tgt := 43) C dX1_joinWithNext_20 (by decide) (fun c_3 => ?_) (fun c_3 => ?_)
  · skip
    have c_3 : b ≤ x := (nI_leI (a := b) (b := x) (by omega) (by omega)).mp c_3
    refine j_eq (pc' := 43) (L' := [(0, .ref q), (1, .int (nI k)), (2, .int (nI a)), (3, .int (nI b)), (4, .int (nI x))]) (st' := []) (ws' := [(q, .inr (1, [.ref ca, .int (nI n)])), (ca, jaI g 224 (va_cpy f f ((k + 1) * 28 + 4) (k * 28 + 4 + a * 4) (b * 4)))]) ?_ rfl rfl rfl (by rw [show x = b by omega])
    refine j_aload_n 0 C dX1_joinWithNext_43 rfl rfl ?_
    refine j_iload_n 1 C dX1_joinWithNext_44 rfl rfl ?_
    refine j_iconst (v := 3) C dX1_joinWithNext_45 rfl ?_
    refine j_iload_n 2 C dX1_joinWithNext_46 rfl rfl ?_
    refine j_iload_n 3 C dX1_joinWithNext_47 rfl rfl ?_
    refine j_iadd (x := nI a) (y := nI b) (v := nI (a + b)) C dX1_joinWithNext_48 (nI_add a b) ?_
    refine j_callWv [0, 1] (fun _ => [(q, .inr (1, [.ref ca, .int (nI n)])), (ca, jaI g 224 (upd (va_cpy f f ((k + 1) * 28 + 4) (k * 28 + 4 + a * 4) (b * 4)) (k * 28 + 3) (nI (a + b))))]) C (j_runV (ci := 0) (As := [.int (nI k), .int 3, .int (nI (a + b))]) (rest := []) [0, 1] C (c_X1_setLoopFact l g q ca (nI n) (va_cpy f f ((k + 1) * 28 + 4) (k * 28 + 4 + a * 4) (b * 4)) k 3 (nI (a + b)) (by omega)) gX1_joinWithNext_X1_setLoopFact rfl rfl rfl hd_X1_setLoopFact ⟨Nat.le_of_ble_eq_true rfl, Nat.le_of_ble_eq_true rfl⟩ rfl rfl rfl rfl dX1_joinWithNext_49 rfl (Nat.le_of_ble_eq_true rfl) ⟨Nat.le_of_ble_eq_true rfl, Nat.le_of_ble_eq_true rfl⟩) rfl (fun _ => rfl) (fun _ => rfl) (fun _ _ => ?_)
    refine j_aload_n 0 C dX1_joinWithNext_52 rfl rfl ?_
    refine j_iload_n 1 C dX1_joinWithNext_53 rfl rfl ?_
    refine j_iconst (v := 1) C dX1_joinWithNext_54 rfl ?_
    refine j_iadd (x := nI k) (y := 1) (v := nI (k + 1)) C dX1_joinWithNext_55 (nI_add k 1) ?_
    refine j_callWv [0, 1] (fun _ => [(q, .inr (1, [.ref ca, .int (nI (n - 1))])), (ca, jaI g 224 (jRm (upd (va_cpy f f ((k + 1) * 28 + 4) (k * 28 + 4 + a * 4) (b * 4)) (k * 28 + 3) (nI (a + b))) ((k + 1) * 28) ((n - 1) * 28)))]) C (j_runV (ci := 0) (As := [.int (nI (k + 1))]) (rest := []) [0, 1] C (c_X1_removeLoop l g q ca n (upd (va_cpy f f ((k + 1) * 28 + 4) (k * 28 + 4 + a * 4) (b * 4)) (k * 28 + 3) (nI (a + b))) (k + 1) (by omega) (by omega)) gX1_joinWithNext_X1_removeLoop rfl rfl rfl hd_X1_removeLoop ⟨Nat.le_of_ble_eq_true rfl, Nat.le_of_ble_eq_true rfl⟩ rfl rfl rfl rfl dX1_joinWithNext_56 rfl (Nat.le_of_ble_eq_true rfl) ⟨Nat.le_of_ble_eq_true rfl, Nat.le_of_ble_eq_true rfl⟩) rfl (fun _ => rfl) (fun _ => rfl) (fun _ _ => ?_)
    exact j_vretW C hr dX1_joinWithNext_59 () trivial rfl
  · skip
    have c_3 : ¬ b ≤ x := fun z => c_3 ((nI_leI (a := b) (b := x) (by omega) (by omega)).mpr z)
    refine j_aload_n 0 C dX1_joinWithNext_23 rfl rfl ?_
    refine j_iload_n 1 C dX1_joinWithNext_24 rfl rfl ?_
    refine j_iconst (v := 1) C dX1_joinWithNext_25 rfl ?_
    refine j_iadd (x := nI k) (y := 1) (v := nI (k + 1)) C dX1_joinWithNext_26 (nI_add k 1) ?_
    refine j_iload 4 C dX1_joinWithNext_27 rfl ?_
    refine j_iload_n 1 C dX1_joinWithNext_29 rfl rfl ?_
    refine j_iload_n 2 C dX1_joinWithNext_30 rfl rfl ?_
    refine j_iload 4 C dX1_joinWithNext_31 rfl ?_
    refine j_iadd (x := nI a) (y := nI x) (v := nI (a + x)) C dX1_joinWithNext_33 (nI_add a x) ?_
    refine j_callWv [0, 1] (fun _ => [(q, .inr (1, [.ref ca, .int (nI n)])), (ca, jaI g 224 (va_cpy (va_cpy f f ((k + 1) * 28 + 4) (k * 28 + 4 + a * 4) (x * 4)) (va_cpy f f ((k + 1) * 28 + 4) (k * 28 + 4 + a * 4) (x * 4)) ((k + 1) * 28 + 4 + x * 4) (k * 28 + 4 + (a + x) * 4) 4))]) C (j_runV (ci := 0) (As := [.int (nI (k + 1)), .int (nI x), .int (nI k), .int (nI (a + x))]) (rest := []) [0, 1] C (c_X1_copyStep l g q ca (nI n) (va_cpy f f ((k + 1) * 28 + 4) (k * 28 + 4 + a * 4) (x * 4)) (k + 1) x k (a + x) (by omega) (by omega) (by omega)) gX1_joinWithNext_X1_copyStep rfl rfl rfl hd_X1_copyStep ⟨Nat.le_of_ble_eq_true rfl, Nat.le_of_ble_eq_true rfl⟩ rfl rfl rfl rfl dX1_joinWithNext_34 rfl (Nat.le_of_ble_eq_true rfl) ⟨Nat.le_of_ble_eq_true rfl, Nat.le_of_ble_eq_true rfl⟩) rfl (fun _ => rfl) (fun _ => rfl) (fun _ _ => ?_)
    refine j_iinc (v := nI (x + 1)) (L' := [(0, .ref q), (1, .int (nI k)), (2, .int (nI a)), (3, .int (nI b)), (4, .int (nI (x + 1)))]) 4 C dX1_joinWithNext_37 rfl (nI_add x 1) (Nat.le_of_ble_eq_true rfl) rfl rfl ?_
    refine j_goto (tgt := 17) C dX1_joinWithNext_40 (by decide) ?_
    refine j_eq (pc' := 17) (L' := [(0, .ref q), (1, .int (nI k)), (2, .int (nI a)), (3, .int (nI b)), (4, .int (nI (x + 1)))]) (st' := []) (ws' := [(q, .inr (1, [.ref ca, .int (nI n)])), (ca, jaI g 224 (va_cpy f f ((k + 1) * 28 + 4) (k * 28 + 4 + a * 4) ((x + 1) * 4)))]) ?_ rfl rfl rfl (by rw [jcp_app f (by omega) (by omega) (by omega), show x * 4 + 4 = (x + 1) * 4 by omega])
    exact ih_1 (x + 1) (by omega) (show b - (x + 1) < b - x from by omega)
set_option maxHeartbeats 4000000 in
set_option maxRecDepth 100000 in
theorem c_X1_divideAt (l : Launch) (g : jG) (q ca n : Nat) (f : Nat → Int32) (k i a : Nat) (hk : k < n) (hn : n < 8) (ha : f (k * 28 + 3) = nI a) (hi : i ≤ a) (ha6 : a ≤ 6) : jWv l yX1_divideAt wsX1_divideAt ({ frames := 3, cells := 0, slots := 0, locals := 64 }) g [.ref q, .int (nI k), .int (nI i)] [(q, .inr (1, [.ref ca, .int (nI n)])), (ca, jaI g 224 f)] [(q, .inr (1, [.ref ca, .int (nI (n + 1))])), (ca, jaI g 224 (upd (va_cpy (upd (jRp f (n * 28) (k * 28)) (k * 28 + 3) (nI i)) (upd (jRp f (n * 28) (k * 28)) (k * 28 + 3) (nI i)) ((k + 1) * 28 + 4 + i * 4) ((k + 1) * 28 + 4) ((a - i) * 4)) ((k + 1) * 28 + 3) (nI (a - i))))] := by
  refine j_enterW (Qc := fun sz_ => va_Qv (fun (_ : Unit) => True) (fun _ t => va_P g.1 vwCl [(q, .inr (1, [.ref ca, .int (nI (n + 1))])), (ca, jaI g 224 (upd (va_cpy (upd (jRp f (n * 28) (k * 28)) (k * 28 + 3) (nI i)) (upd (jRp f (n * 28) (k * 28)) (k * 28 + 3) (nI i)) ((k + 1) * 28 + 4 + i * 4) ((k + 1) * 28 + 4) ((a - i) * 4)) ((k + 1) * 28 + 3) (nI (a - i))))] t.heap) (va_A [(q, .inr (1, [.ref ca, .int (nI n)])), (ca, jaI g 224 f)] sz_)) (cc := cX1_divideAt) (maxL := 5) (ret := none) (own := RX1) (L := [(0, .ref q), (1, .int (nI k)), (2, .int (nI i))]) (by decide) rfl rfl (Nat.le_of_ble_eq_true rfl) rfl (fun p e s m args below meth c C hr => ?_)
  refine j_aload_n 0 C dX1_divideAt_0 rfl rfl ?_
  refine j_iload_n 1 C dX1_divideAt_1 rfl rfl ?_
  refine j_callRi (v := f (k * 28 + 3)) (j_runV (ci := 0) (As := [.int (nI k)]) (rest := []) [0, 1] C (c_X1_countSteps l g q ca (nI n) f k (by omega)) gX1_divideAt_X1_countSteps rfl rfl rfl hd_X1_countSteps ⟨Nat.le_of_ble_eq_true rfl, Nat.le_of_ble_eq_true rfl⟩ rfl rfl rfl rfl dX1_divideAt_2 rfl (Nat.le_of_ble_eq_true rfl) ⟨Nat.le_of_ble_eq_true rfl, Nat.le_of_ble_eq_true rfl⟩) ?_
  refine j_eq (pc' := 5) (L' := [(0, .ref q), (1, .int (nI k)), (2, .int (nI i))]) (st' := [.int (nI a)]) (ws' := [(q, .inr (1, [.ref ca, .int (nI n)])), (ca, jaI g 224 f)]) ?_ rfl rfl (by rw [ha]) rfl
  refine j_istore_n (L' := [(0, .ref q), (1, .int (nI k)), (2, .int (nI i)), (3, .int (nI a))]) C dX1_divideAt_5 rfl (Nat.le_of_ble_eq_true rfl) rfl rfl ?_
  refine j_aload_n 0 C dX1_divideAt_6 rfl rfl ?_
  refine j_iload_n 1 C dX1_divideAt_7 rfl rfl ?_
  refine j_callWv [0, 1] (fun _ => [(q, .inr (1, [.ref ca, .int (nI (n + 1))])), (ca, jaI g 224 (jRp f (n * 28) (k * 28)))]) C (j_runV (ci := 0) (As := [.int (nI k)]) (rest := []) [0, 1] C (c_X1_repeatLoop l g q ca n f k (by omega) (by omega)) gX1_divideAt_X1_repeatLoop rfl rfl rfl hd_X1_repeatLoop ⟨Nat.le_of_ble_eq_true rfl, Nat.le_of_ble_eq_true rfl⟩ rfl rfl rfl rfl dX1_divideAt_8 rfl (Nat.le_of_ble_eq_true rfl) ⟨Nat.le_of_ble_eq_true rfl, Nat.le_of_ble_eq_true rfl⟩) rfl (fun _ => rfl) (fun _ => rfl) (fun _ _ => ?_)
  refine j_aload_n 0 C dX1_divideAt_11 rfl rfl ?_
  refine j_iload_n 1 C dX1_divideAt_12 rfl rfl ?_
  refine j_iconst (v := 3) C dX1_divideAt_13 rfl ?_
  refine j_iload_n 2 C dX1_divideAt_14 rfl rfl ?_
  refine j_callWv [0, 1] (fun _ => [(q, .inr (1, [.ref ca, .int (nI (n + 1))])), (ca, jaI g 224 (upd (jRp f (n * 28) (k * 28)) (k * 28 + 3) (nI i)))]) C (j_runV (ci := 0) (As := [.int (nI k), .int 3, .int (nI i)]) (rest := []) [0, 1] C (c_X1_setLoopFact l g q ca (nI (n + 1)) (jRp f (n * 28) (k * 28)) k 3 (nI i) (by omega)) gX1_divideAt_X1_setLoopFact rfl rfl rfl hd_X1_setLoopFact ⟨Nat.le_of_ble_eq_true rfl, Nat.le_of_ble_eq_true rfl⟩ rfl rfl rfl rfl dX1_divideAt_15 rfl (Nat.le_of_ble_eq_true rfl) ⟨Nat.le_of_ble_eq_true rfl, Nat.le_of_ble_eq_true rfl⟩) rfl (fun _ => rfl) (fun _ => rfl) (fun _ _ => ?_)
  refine j_iload_n 2 C dX1_divideAt_18 rfl rfl ?_
  refine j_istore (L' := [(0, .ref q), (1, .int (nI k)), (2, .int (nI i)), (3, .int (nI a)), (4, .int (nI i))]) C dX1_divideAt_19 (Nat.le_of_ble_eq_true rfl) rfl rfl ?_
  refine j_loop (σ := Nat) (fun (x : Nat) => [(0, .ref q), (1, .int (nI k)), (2, .int (nI i)), (3, .int (nI a)), (4, .int (nI x))]) (fun (x : Nat) => [(q, .inr (1, [.ref ca, .int (nI (n + 1))])), (ca, jaI g 224 (va_cpy (upd (jRp f (n * 28) (k * 28)) (k * 28 + 3) (nI i)) (upd (jRp f (n * 28) (k * 28)) (k * 28 + 3) (nI i)) ((k + 1) * 28 + 4 + i * 4) ((k + 1) * 28 + 4) ((x - i) * 4)))]) (fun (x : Nat) => (i ≤ x) ∧ (x ≤ a)) (fun (x : Nat) => a - x) (fun x_ hi_2 ih_1 => ?_) i ⟨(by omega), (by omega)⟩ rfl (by rw [Nat.sub_self, Nat.zero_mul, jcp_0])
  obtain ⟨x, hx_⟩ : ∃ z, z = x_ := ⟨_, rfl⟩
  subst hx_
  obtain ⟨hi_2_0, hi_2_1⟩ := (show (i ≤ x) ∧ (x ≤ a) from hi_2)
  refine j_eq (pc' := 21) (L' := [(0, .ref q), (1, .int (nI k)), (2, .int (nI i)), (3, .int (nI a)), (4, .int (nI x))]) (st' := []) (ws' := [(q, .inr (1, [.ref ca, .int (nI (n + 1))])), (ca, jaI g 224 (va_cpy (upd (jRp f (n * 28) (k * 28)) (k * 28 + 3) (nI i)) (upd (jRp f (n * 28) (k * 28)) (k * 28 + 3) (nI i)) ((k + 1) * 28 + 4 + i * 4) ((k + 1) * 28 + 4) ((x - i) * 4)))]) ?_ rfl rfl rfl rfl
  refine j_iload 4 C dX1_divideAt_21 rfl ?_
  refine j_iload_n 3 C dX1_divideAt_23 rfl rfl ?_
  refine j_icmp_ge (tgt := 49) C dX1_divideAt_24 (by decide) (fun c_3 => ?_) (fun c_3 => ?_)
  · skip
    have c_3 : a ≤ x := (nI_leI (a := a) (b := x) (by omega) (by omega)).mp c_3
    refine j_aload_n 0 C dX1_divideAt_49 rfl rfl ?_
    refine j_iload_n 1 C dX1_divideAt_50 rfl rfl ?_
    refine j_iconst (v := 1) C dX1_divideAt_51 rfl ?_
    refine j_iadd (x := nI k) (y := 1) (v := nI (k + 1)) C dX1_divideAt_52 (nI_add k 1) ?_
    refine j_iconst (v := 3) C dX1_divideAt_53 rfl ?_
    refine j_iload_n 3 C dX1_divideAt_54 rfl rfl ?_
    refine j_iload_n 2 C dX1_divideAt_55 rfl rfl ?_
    refine j_isub (x := nI a) (y := nI i) (v := nI (a - i)) C dX1_divideAt_56 (pk_sub (a := a) (b := i) (by omega)) ?_
    refine j_callWv [0, 1] (fun _ => [(q, .inr (1, [.ref ca, .int (nI (n + 1))])), (ca, jaI g 224 (upd (va_cpy (upd (jRp f (n * 28) (k * 28)) (k * 28 + 3) (nI i)) (upd (jRp f (n * 28) (k * 28)) (k * 28 + 3) (nI i)) ((k + 1) * 28 + 4 + i * 4) ((k + 1) * 28 + 4) ((x - i) * 4)) ((k + 1) * 28 + 3) (nI (a - i))))]) C (j_runV (ci := 0) (As := [.int (nI (k + 1)), .int 3, .int (nI (a - i))]) (rest := []) [0, 1] C (c_X1_setLoopFact l g q ca (nI (n + 1)) (va_cpy (upd (jRp f (n * 28) (k * 28)) (k * 28 + 3) (nI i)) (upd (jRp f (n * 28) (k * 28)) (k * 28 + 3) (nI i)) ((k + 1) * 28 + 4 + i * 4) ((k + 1) * 28 + 4) ((x - i) * 4)) (k + 1) 3 (nI (a - i)) (by omega)) gX1_divideAt_X1_setLoopFact rfl rfl rfl hd_X1_setLoopFact ⟨Nat.le_of_ble_eq_true rfl, Nat.le_of_ble_eq_true rfl⟩ rfl rfl rfl rfl dX1_divideAt_57 rfl (Nat.le_of_ble_eq_true rfl) ⟨Nat.le_of_ble_eq_true rfl, Nat.le_of_ble_eq_true rfl⟩) rfl (fun _ => rfl) (fun _ => rfl) (fun _ _ => ?_)
    exact j_vretW C hr dX1_divideAt_60 () trivial (by rw [show x = a by omega])
  · skip
    have c_3 : ¬ a ≤ x := fun z => c_3 ((nI_leI (a := a) (b := x) (by omega) (by omega)).mpr z)
    refine j_aload_n 0 C dX1_divideAt_27 rfl rfl ?_
    refine j_iload_n 1 C dX1_divideAt_28 rfl rfl ?_
    refine j_iconst (v := 1) C dX1_divideAt_29 rfl ?_
    refine j_iadd (x := nI k) (y := 1) (v := nI (k + 1)) C dX1_divideAt_30 (nI_add k 1) ?_
    refine j_iload 4 C dX1_divideAt_31 rfl ?_
    refine j_iload_n 1 C dX1_divideAt_33 rfl rfl ?_
    refine j_iconst (v := 1) C dX1_divideAt_34 rfl ?_
    refine j_iadd (x := nI k) (y := 1) (v := nI (k + 1)) C dX1_divideAt_35 (nI_add k 1) ?_
    refine j_iload 4 C dX1_divideAt_36 rfl ?_
    refine j_iload_n 2 C dX1_divideAt_38 rfl rfl ?_
    refine j_isub (x := nI x) (y := nI i) (v := nI (x - i)) C dX1_divideAt_39 (pk_sub (a := x) (b := i) (by omega)) ?_
    refine j_callWv [0, 1] (fun _ => [(q, .inr (1, [.ref ca, .int (nI (n + 1))])), (ca, jaI g 224 (va_cpy (va_cpy (upd (jRp f (n * 28) (k * 28)) (k * 28 + 3) (nI i)) (upd (jRp f (n * 28) (k * 28)) (k * 28 + 3) (nI i)) ((k + 1) * 28 + 4 + i * 4) ((k + 1) * 28 + 4) ((x - i) * 4)) (va_cpy (upd (jRp f (n * 28) (k * 28)) (k * 28 + 3) (nI i)) (upd (jRp f (n * 28) (k * 28)) (k * 28 + 3) (nI i)) ((k + 1) * 28 + 4 + i * 4) ((k + 1) * 28 + 4) ((x - i) * 4)) ((k + 1) * 28 + 4 + x * 4) ((k + 1) * 28 + 4 + (x - i) * 4) 4))]) C (j_runV (ci := 0) (As := [.int (nI (k + 1)), .int (nI x), .int (nI (k + 1)), .int (nI (x - i))]) (rest := []) [0, 1] C (c_X1_copyStep l g q ca (nI (n + 1)) (va_cpy (upd (jRp f (n * 28) (k * 28)) (k * 28 + 3) (nI i)) (upd (jRp f (n * 28) (k * 28)) (k * 28 + 3) (nI i)) ((k + 1) * 28 + 4 + i * 4) ((k + 1) * 28 + 4) ((x - i) * 4)) (k + 1) x (k + 1) (x - i) (by omega) (by omega) (by omega)) gX1_divideAt_X1_copyStep rfl rfl rfl hd_X1_copyStep ⟨Nat.le_of_ble_eq_true rfl, Nat.le_of_ble_eq_true rfl⟩ rfl rfl rfl rfl dX1_divideAt_40 rfl (Nat.le_of_ble_eq_true rfl) ⟨Nat.le_of_ble_eq_true rfl, Nat.le_of_ble_eq_true rfl⟩) rfl (fun _ => rfl) (fun _ => rfl) (fun _ _ => ?_)
    refine j_iinc (v := nI (x + 1)) (L' := [(0, .ref q), (1, .int (nI k)), (2, .int (nI i)), (3, .int (nI a)), (4, .int (nI (x + 1)))]) 4 C dX1_divideAt_43 rfl (nI_add x 1) (Nat.le_of_ble_eq_true rfl) rfl rfl ?_
    refine j_goto (tgt := 21) C dX1_divideAt_46 (by decide) ?_
    refine j_eq (pc' := 21) (L' := [(0, .ref q), (1, .int (nI k)), (2, .int (nI i)), (3, .int (nI a)), (4, .int (nI (x + 1)))]) (st' := []) (ws' := [(q, .inr (1, [.ref ca, .int (nI (n + 1))])), (ca, jaI g 224 (va_cpy (upd (jRp f (n * 28) (k * 28)) (k * 28 + 3) (nI i)) (upd (jRp f (n * 28) (k * 28)) (k * 28 + 3) (nI i)) ((k + 1) * 28 + 4 + i * 4) ((k + 1) * 28 + 4) (((x + 1) - i) * 4)))]) ?_ rfl rfl rfl (by rw [jcp_app _ (by omega) (by omega) (by omega), show (x - i) * 4 + 4 = (x + 1 - i) * 4 by omega])
    exact ih_1 (x + 1) ⟨(by omega), (by omega)⟩ (show a - (x + 1) < a - x from by omega)
set_option maxHeartbeats 4000000 in
set_option maxRecDepth 100000 in
theorem c_X1_peelFirstPlace (l : Launch) (g : jG) (q ca n : Nat) (f : Nat → Int32) (k w v : Nat) (hk : k < n) (hn : n < 8) (hv : f (k * 28 + 0) = nI v) (hv9 : v + 1 ≤ w) : jWv l yX1_peelFirstPlace wsX1_peelFirstPlace ({ frames := 2, cells := 0, slots := 0, locals := 45 }) g [.ref q, .int (nI k), .int (nI w)] [(q, .inr (1, [.ref ca, .int (nI n)])), (ca, jaI g 224 f)] [(q, .inr (1, [.ref ca, .int (nI (n + 1))])), (ca, jaI g 224 (upd (upd (jRp f (n * 28) (k * 28)) (k * 28 + 1) (nI (w - 1 - v))) ((k + 1) * 28 + 0) (nI (v + 1))))] := by
  refine j_enterW (Qc := fun sz_ => va_Qv (fun (_ : Unit) => True) (fun _ t => va_P g.1 vwCl [(q, .inr (1, [.ref ca, .int (nI (n + 1))])), (ca, jaI g 224 (upd (upd (jRp f (n * 28) (k * 28)) (k * 28 + 1) (nI (w - 1 - v))) ((k + 1) * 28 + 0) (nI (v + 1))))] t.heap) (va_A [(q, .inr (1, [.ref ca, .int (nI n)])), (ca, jaI g 224 f)] sz_)) (cc := cX1_peelFirstPlace) (maxL := 4) (ret := none) (own := RX1) (L := [(0, .ref q), (1, .int (nI k)), (2, .int (nI w))]) (by decide) rfl rfl (Nat.le_of_ble_eq_true rfl) rfl (fun p e s m args below meth c C hr => ?_)
  refine j_aload_n 0 C dX1_peelFirstPlace_0 rfl rfl ?_
  refine j_iload_n 1 C dX1_peelFirstPlace_1 rfl rfl ?_
  refine j_iconst (v := 0) C dX1_peelFirstPlace_2 rfl ?_
  refine j_callRi (v := f (k * 28 + 0)) (j_runV (ci := 0) (As := [.int (nI k), .int 0]) (rest := []) [0, 1] C (c_X1_loopFact l g q ca (nI n) f k 0 (by omega)) gX1_peelFirstPlace_X1_loopFact rfl rfl rfl hd_X1_loopFact ⟨Nat.le_of_ble_eq_true rfl, Nat.le_of_ble_eq_true rfl⟩ rfl rfl rfl rfl dX1_peelFirstPlace_3 rfl (Nat.le_of_ble_eq_true rfl) ⟨Nat.le_of_ble_eq_true rfl, Nat.le_of_ble_eq_true rfl⟩) ?_
  refine j_eq (pc' := 6) (L' := [(0, .ref q), (1, .int (nI k)), (2, .int (nI w))]) (st' := [.int (nI v)]) (ws' := [(q, .inr (1, [.ref ca, .int (nI n)])), (ca, jaI g 224 f)]) ?_ rfl rfl (by rw [hv]) rfl
  refine j_istore_n (L' := [(0, .ref q), (1, .int (nI k)), (2, .int (nI w)), (3, .int (nI v))]) C dX1_peelFirstPlace_6 rfl (Nat.le_of_ble_eq_true rfl) rfl rfl ?_
  refine j_aload_n 0 C dX1_peelFirstPlace_7 rfl rfl ?_
  refine j_iload_n 1 C dX1_peelFirstPlace_8 rfl rfl ?_
  refine j_callWv [0, 1] (fun _ => [(q, .inr (1, [.ref ca, .int (nI (n + 1))])), (ca, jaI g 224 (jRp f (n * 28) (k * 28)))]) C (j_runV (ci := 0) (As := [.int (nI k)]) (rest := []) [0, 1] C (c_X1_repeatLoop l g q ca n f k (by omega) (by omega)) gX1_peelFirstPlace_X1_repeatLoop rfl rfl rfl hd_X1_repeatLoop ⟨Nat.le_of_ble_eq_true rfl, Nat.le_of_ble_eq_true rfl⟩ rfl rfl rfl rfl dX1_peelFirstPlace_9 rfl (Nat.le_of_ble_eq_true rfl) ⟨Nat.le_of_ble_eq_true rfl, Nat.le_of_ble_eq_true rfl⟩) rfl (fun _ => rfl) (fun _ => rfl) (fun _ _ => ?_)
  refine j_aload_n 0 C dX1_peelFirstPlace_12 rfl rfl ?_
  refine j_iload_n 1 C dX1_peelFirstPlace_13 rfl rfl ?_
  refine j_iconst (v := 1) C dX1_peelFirstPlace_14 rfl ?_
  refine j_iload_n 2 C dX1_peelFirstPlace_15 rfl rfl ?_
  refine j_iconst (v := 1) C dX1_peelFirstPlace_16 rfl ?_
  refine j_isub (x := nI w) (y := 1) (v := nI (w - 1)) C dX1_peelFirstPlace_17 (pk_sub (a := w) (b := 1) (by omega)) ?_
  refine j_iload_n 3 C dX1_peelFirstPlace_18 rfl rfl ?_
  refine j_isub (x := nI (w - 1)) (y := nI v) (v := nI ((w - 1) - v)) C dX1_peelFirstPlace_19 (pk_sub (a := w - 1) (b := v) (by omega)) ?_
  refine j_callWv [0, 1] (fun _ => [(q, .inr (1, [.ref ca, .int (nI (n + 1))])), (ca, jaI g 224 (upd (jRp f (n * 28) (k * 28)) (k * 28 + 1) (nI ((w - 1) - v))))]) C (j_runV (ci := 0) (As := [.int (nI k), .int 1, .int (nI ((w - 1) - v))]) (rest := []) [0, 1] C (c_X1_setLoopFact l g q ca (nI (n + 1)) (jRp f (n * 28) (k * 28)) k 1 (nI ((w - 1) - v)) (by omega)) gX1_peelFirstPlace_X1_setLoopFact rfl rfl rfl hd_X1_setLoopFact ⟨Nat.le_of_ble_eq_true rfl, Nat.le_of_ble_eq_true rfl⟩ rfl rfl rfl rfl dX1_peelFirstPlace_20 rfl (Nat.le_of_ble_eq_true rfl) ⟨Nat.le_of_ble_eq_true rfl, Nat.le_of_ble_eq_true rfl⟩) rfl (fun _ => rfl) (fun _ => rfl) (fun _ _ => ?_)
  refine j_aload_n 0 C dX1_peelFirstPlace_23 rfl rfl ?_
  refine j_iload_n 1 C dX1_peelFirstPlace_24 rfl rfl ?_
  refine j_iconst (v := 1) C dX1_peelFirstPlace_25 rfl ?_
  refine j_iadd (x := nI k) (y := 1) (v := nI (k + 1)) C dX1_peelFirstPlace_26 (nI_add k 1) ?_
  refine j_iconst (v := 0) C dX1_peelFirstPlace_27 rfl ?_
  refine j_iload_n 3 C dX1_peelFirstPlace_28 rfl rfl ?_
  refine j_iconst (v := 1) C dX1_peelFirstPlace_29 rfl ?_
  refine j_iadd (x := nI v) (y := 1) (v := nI (v + 1)) C dX1_peelFirstPlace_30 (nI_add v 1) ?_
  refine j_callWv [0, 1] (fun _ => [(q, .inr (1, [.ref ca, .int (nI (n + 1))])), (ca, jaI g 224 (upd (upd (jRp f (n * 28) (k * 28)) (k * 28 + 1) (nI ((w - 1) - v))) ((k + 1) * 28 + 0) (nI (v + 1))))]) C (j_runV (ci := 0) (As := [.int (nI (k + 1)), .int 0, .int (nI (v + 1))]) (rest := []) [0, 1] C (c_X1_setLoopFact l g q ca (nI (n + 1)) (upd (jRp f (n * 28) (k * 28)) (k * 28 + 1) (nI ((w - 1) - v))) (k + 1) 0 (nI (v + 1)) (by omega)) gX1_peelFirstPlace_X1_setLoopFact rfl rfl rfl hd_X1_setLoopFact ⟨Nat.le_of_ble_eq_true rfl, Nat.le_of_ble_eq_true rfl⟩ rfl rfl rfl rfl dX1_peelFirstPlace_31 rfl (Nat.le_of_ble_eq_true rfl) ⟨Nat.le_of_ble_eq_true rfl, Nat.le_of_ble_eq_true rfl⟩) rfl (fun _ => rfl) (fun _ => rfl) (fun _ _ => ?_)
  exact j_vretW C hr dX1_peelFirstPlace_34 () trivial rfl
